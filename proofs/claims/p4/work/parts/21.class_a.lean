section
set_option maxHeartbeats 4000000 in
set_option maxRecDepth 100000 in
theorem c_X8_isBelow (l : Launch) (D : va_G) (tc : Nat → ClassId) (base : Nat) (ad : Nat → Int → Nat) (cnt : Nat → Int) (X : Nat → Int → Int → Int) (Y : Nat → Int → Int → Option Int) (ln : Int → Int) (a b : Int) (ha : -2147483648 ≤ a ∧ a ≤ 2147483647) (hb : -2147483648 ≤ b ∧ b ≤ 2147483647) : KI l D tc base yX8_isBelow wsX8_isBelow ({ frames := 0, cells := 0, slots := 0, locals := 0 } : Room) [.int (jI a), .int (jI b)] (ad, cnt, X, Y, ln) 0 0 (fun z u => u = (ad, cnt, X, Y, ln) ∧ ((z = 1 ∧ 0 ≤ a ∧ a < b) ∨ (z = 0 ∧ Hid (¬ (0 ≤ a ∧ a < b))))) := by
  refine K_of (cc := cX8_isBelow) (maxL := 2) (ret := (some .boolean)) (by decide) rfl (Nat.le_of_ble_eq_true rfl) ?_
  intro p e s m below meth c ls hx hb hr hml hown hts hlocks hl hK hw hS
  have hown : s.vm.findClass RX8 = some m.cls := hown
  obtain ⟨av9, hav9⟩ : ∃ a9 : Array Value, a9 = ([.int (jI a), .int (jI b)] : List Value).toArray := ⟨_, rfl⟩
  rw [← hav9] at hts ⊢
  obtain ⟨Q9, hQ9⟩ : ∃ q9Q : State → Prop, q9Q = MQ below (QI D tc base (fun z u => u = (ad, cnt, X, Y, ln) ∧ ((z = 1 ∧ 0 ≤ a ∧ a < b) ∨ (z = 0 ∧ Hid (¬ (0 ≤ a ∧ a < b)))))) av9 s 0 0 (frA base) := ⟨_, rfl⟩
  rw [← hQ9]
  have hl : lv_has ls 2 [(0, .int (jI a)), (1, .int (jI b))] := hl
  refine lv_iload_n hx hb dX8_isBelow_0 rfl (lv_at hl 0 rfl) ?_
  refine x_if_lt (tgt := 13) hx hb (by omega) dX8_isBelow_1 (by decide) (fun c1 => ?_) (fun c1 => ?_)
  · refine lv_iconst (v := jI 0) hx hb dX8_isBelow_13 rfl ?_
    rw [hQ9]
    refine ret_z (mc := 0) (ms := 0) hx hb hr hlocks hw hS (by first | exact Nat.le_of_ble_eq_true rfl | omega) (by first | exact Nat.le_of_ble_eq_true rfl | omega) dX8_isBelow_14 (by omega) ?_
    exact ⟨rfl, Or.inr ⟨rfl, (by first | omega | (intro q; first | omega | (simp only [Hid] at *; omega)))⟩⟩
  · refine lv_iload_n hx hb dX8_isBelow_4 rfl (lv_at hl 0 rfl) ?_
    refine lv_iload_n hx hb dX8_isBelow_5 rfl (lv_at hl 1 rfl) ?_
    refine x_icmp_ge (tgt := 13) hx hb (by omega) (by omega) dX8_isBelow_6 (by decide) (fun c2 => ?_) (fun c2 => ?_)
    · refine lv_iconst (v := jI 0) hx hb dX8_isBelow_13 rfl ?_
      rw [hQ9]
      refine ret_z (mc := 0) (ms := 0) hx hb hr hlocks hw hS (by first | exact Nat.le_of_ble_eq_true rfl | omega) (by first | exact Nat.le_of_ble_eq_true rfl | omega) dX8_isBelow_14 (by omega) ?_
      exact ⟨rfl, Or.inr ⟨rfl, (by first | omega | (intro q; first | omega | (simp only [Hid] at *; omega)))⟩⟩
    · refine lv_iconst (v := jI 1) hx hb dX8_isBelow_9 rfl ?_
      refine lv_goto (tgt := 14) hx hb dX8_isBelow_10 (by decide) ?_
      rw [hQ9]
      refine ret_z (mc := 0) (ms := 0) hx hb hr hlocks hw hS (by first | exact Nat.le_of_ble_eq_true rfl | omega) (by first | exact Nat.le_of_ble_eq_true rfl | omega) dX8_isBelow_14 (by omega) ?_
      exact ⟨rfl, Or.inl ⟨rfl, by omega⟩⟩

set_option maxHeartbeats 4000000 in
set_option maxRecDepth 100000 in
theorem c_X8_isRowLane (l : Launch) (D : va_G) (tc : Nat → ClassId) (base : Nat) (ad : Nat → Int → Nat) (cnt : Nat → Int) (X : Nat → Int → Int → Int) (Y : Nat → Int → Int → Option Int) (ln : Int → Int) (a : Int) (ha : -2147483648 ≤ a ∧ a ≤ 2147483647) : KI l D tc base yX8_isRowLane wsX8_isRowLane ({ frames := 0, cells := 0, slots := 0, locals := 0 } : Room) [.int (jI a)] (ad, cnt, X, Y, ln) 0 0 (fun z u => u = (ad, cnt, X, Y, ln) ∧ ((z = 1 ∧ 3 ≤ a) ∨ (z = 0 ∧ Hid (¬ (3 ≤ a))))) := by
  refine K_of (cc := cX8_isRowLane) (maxL := 1) (ret := (some .boolean)) (by decide) rfl (Nat.le_of_ble_eq_true rfl) ?_
  intro p e s m below meth c ls hx hb hr hml hown hts hlocks hl hK hw hS
  have hown : s.vm.findClass RX8 = some m.cls := hown
  obtain ⟨av9, hav9⟩ : ∃ a9 : Array Value, a9 = ([.int (jI a)] : List Value).toArray := ⟨_, rfl⟩
  rw [← hav9] at hts ⊢
  obtain ⟨Q9, hQ9⟩ : ∃ q9Q : State → Prop, q9Q = MQ below (QI D tc base (fun z u => u = (ad, cnt, X, Y, ln) ∧ ((z = 1 ∧ 3 ≤ a) ∨ (z = 0 ∧ Hid (¬ (3 ≤ a)))))) av9 s 0 0 (frA base) := ⟨_, rfl⟩
  rw [← hQ9]
  have hl : lv_has ls 1 [(0, .int (jI a))] := hl
  refine lv_iload_n hx hb dX8_isRowLane_0 rfl (lv_at hl 0 rfl) ?_
  refine lv_iconst (v := jI 3) hx hb dX8_isRowLane_1 rfl ?_
  refine x_icmp_lt (tgt := 9) hx hb (by omega) (by omega) dX8_isRowLane_2 (by decide) (fun c1 => ?_) (fun c1 => ?_)
  · refine lv_iconst (v := jI 0) hx hb dX8_isRowLane_9 rfl ?_
    rw [hQ9]
    refine ret_z (mc := 0) (ms := 0) hx hb hr hlocks hw hS (by first | exact Nat.le_of_ble_eq_true rfl | omega) (by first | exact Nat.le_of_ble_eq_true rfl | omega) dX8_isRowLane_10 (by omega) ?_
    exact ⟨rfl, Or.inr ⟨rfl, (by first | omega | (intro q; first | omega | (simp only [Hid] at *; omega)))⟩⟩
  · refine lv_iconst (v := jI 1) hx hb dX8_isRowLane_5 rfl ?_
    refine lv_goto (tgt := 10) hx hb dX8_isRowLane_6 (by decide) ?_
    rw [hQ9]
    refine ret_z (mc := 0) (ms := 0) hx hb hr hlocks hw hS (by first | exact Nat.le_of_ble_eq_true rfl | omega) (by first | exact Nat.le_of_ble_eq_true rfl | omega) dX8_isRowLane_10 (by omega) ?_
    exact ⟨rfl, Or.inl ⟨rfl, by omega⟩⟩

set_option maxHeartbeats 4000000 in
set_option maxRecDepth 100000 in
theorem c_X8_failed (l : Launch) (D : va_G) (tc : Nat → ClassId) (base : Nat) (ad : Nat → Int → Nat) (cnt : Nat → Int) (X : Nat → Int → Int → Int) (Y : Nat → Int → Int → Option Int) (ln : Int → Int) (a : Int) (ha : -100 ≤ a ∧ a ≤ 100) : KI l D tc base yX8_failed wsX8_failed ({ frames := 0, cells := 0, slots := 0, locals := 0 } : Room) [.int (jI a)] (ad, cnt, X, Y, ln) 0 0 (fun z u => u = (ad, cnt, X, Y, ln) ∧ z = -10 - a) := by
  refine K_of (cc := cX8_failed) (maxL := 1) (ret := (some .int)) (by decide) rfl (Nat.le_of_ble_eq_true rfl) ?_
  intro p e s m below meth c ls hx hb hr hml hown hts hlocks hl hK hw hS
  have hown : s.vm.findClass RX8 = some m.cls := hown
  obtain ⟨av9, hav9⟩ : ∃ a9 : Array Value, a9 = ([.int (jI a)] : List Value).toArray := ⟨_, rfl⟩
  rw [← hav9] at hts ⊢
  obtain ⟨Q9, hQ9⟩ : ∃ q9Q : State → Prop, q9Q = MQ below (QI D tc base (fun z u => u = (ad, cnt, X, Y, ln) ∧ z = -10 - a)) av9 s 0 0 (frA base) := ⟨_, rfl⟩
  rw [← hQ9]
  have hl : lv_has ls 1 [(0, .int (jI a))] := hl
  refine lv_bipush (v := jI (-10)) hx hb dX8_failed_0 (by decide) ?_
  refine lv_iload_n hx hb dX8_failed_2 rfl (lv_at hl 0 rfl) ?_
  refine x_isub hx hb dX8_failed_3 ?_
  rw [hQ9]
  refine ret_i (mc := 0) (ms := 0) hx hb hr hlocks hw hS (by first | exact Nat.le_of_ble_eq_true rfl | omega) (by first | exact Nat.le_of_ble_eq_true rfl | omega) dX8_failed_4 ?_
  exact ⟨rfl, rfl⟩

set_option maxHeartbeats 4000000 in
set_option maxRecDepth 100000 in
theorem c_X8_isWordInUse (l : Launch) (D : va_G) (tc : Nat → ClassId) (base : Nat) (ad : Nat → Int → Nat) (cnt : Nat → Int) (X : Nat → Int → Int → Int) (Y : Nat → Int → Int → Option Int) (ln : Int → Int) (hR : Rng X) (hFx : Fx cnt) (hLn : LnOK ln) (v : Int) (hv : -9223372036854775808 ≤ v ∧ v ≤ 9223372036854775807) : KI l D tc base yX8_isWordInUse wsX8_isWordInUse ({ frames := 0, cells := 0, slots := 0, locals := 0 } : Room) [.ref (ad 0 0), .long (jL v)] (ad, cnt, X, Y, ln) 0 0 (fun z u => u = (ad, cnt, X, Y, ln) ∧ ((z = 1 ∧ 0 ≤ v ∧ v < 16 ∧ X 3 0 v = 1) ∨ (z = 0 ∧ Hid (¬ (0 ≤ v ∧ v < 16 ∧ X 3 0 v = 1))))) := by
  refine K_of (cc := cX8_isWordInUse) (maxL := 3) (ret := (some .boolean)) (by decide) rfl (Nat.le_of_ble_eq_true rfl) ?_
  intro p e s m below meth c ls hx hb hr hml hown hts hlocks hl hK hw hS
  have hown : s.vm.findClass RX8 = some m.cls := hown
  obtain ⟨av9, hav9⟩ : ∃ a9 : Array Value, a9 = ([.ref (ad 0 0), .long (jL v)] : List Value).toArray := ⟨_, rfl⟩
  rw [← hav9] at hts ⊢
  obtain ⟨Q9, hQ9⟩ : ∃ q9Q : State → Prop, q9Q = MQ below (QI D tc base (fun z u => u = (ad, cnt, X, Y, ln) ∧ ((z = 1 ∧ 0 ≤ v ∧ v < 16 ∧ X 3 0 v = 1) ∨ (z = 0 ∧ Hid (¬ (0 ≤ v ∧ v < 16 ∧ X 3 0 v = 1)))))) av9 s 0 0 (frA base) := ⟨_, rfl⟩
  rw [← hQ9]
  have hi8 : ∀ w ∈ wsX80, w ∈ wsX8_isWordInUse := fun w h => List.mem_cons_of_mem _ (List.mem_append_right _ h)
  have hf8 : fctx s m _ RX8 wsX8_isWordInUse D tc RX8 TX8 12 8 := ⟨hts, hi8, hown, hK.1, rfl⟩
  have lk21 := hts (.fieldLink RX8 21 (TX8 4).1 (TX8 4).2.1 (TX8 4).2.2.1) (gj_X8_isWordInUse_0 _ (gp_1 gp_h))
  have hc0 : cnt 0 = 1 := hFx.at 0 1 (by decide)
  have hc3 : cnt 3 = 1 := hFx.at 3 1 (by decide)
  have hl : lv_has ls 3 [(0, .ref (ad 0 0)), (1, .long (jL v))] := hl
  refine lv_lload_n hx hb dX8_isWordInUse_0 rfl (lv_at hl 1 rfl) ?_
  refine lv_lconst (v := jL 0) hx hb dX8_isWordInUse_1 (by decide) ?_
  refine x_lcmp hx hb (by omega) (by omega) dX8_isWordInUse_2 ?_
  obtain ⟨z1, ez1⟩ : ∃ y : Int, y = cmpZ v 0 := ⟨_, rfl⟩
  rw [← ez1]
  have gz1 : (z1 < 0 ↔ (v : Int) < 0) ∧ (z1 = 0 ↔ (v : Int) = 0) ∧ -1 ≤ z1 ∧ z1 ≤ 1 := by rw [ez1]; exact ⟨cmpZ_lt, cmpZ_eq, (cmpZ_r _ _).1, (cmpZ_r _ _).2⟩
  clear ez1
  refine x_if_lt (tgt := 28) hx hb (by omega) dX8_isWordInUse_3 (by decide) (fun c2 => ?_) (fun c2 => ?_)
  · replace c2 := cz_ltT gz1 c2
    clear gz1
    refine lv_iconst (v := jI 0) hx hb dX8_isWordInUse_28 rfl ?_
    rw [hQ9]
    refine ret_z (mc := 0) (ms := 0) hx hb hr hlocks hw hS (by first | exact Nat.le_of_ble_eq_true rfl | omega) (by first | exact Nat.le_of_ble_eq_true rfl | omega) dX8_isWordInUse_29 (by omega) ?_
    exact ⟨rfl, Or.inr ⟨rfl, (by first | omega | (intro q; first | omega | (simp only [Hid] at *; omega)))⟩⟩
  · replace c2 := cz_ltF gz1 c2
    clear gz1
    refine lv_lload_n hx hb dX8_isWordInUse_6 rfl (lv_at hl 1 rfl) ?_
    refine lv_ldc2 (v := jL 16) hx hb hown (hts (.constantLong RX8 275 (16)) (by first | exact gj_X8_isWordInUse_0 _ (gp_h) | decide +kernel)) dX8_isWordInUse_7 ?_
    refine x_lcmp hx hb (by omega) (by omega) dX8_isWordInUse_10 ?_
    obtain ⟨z3, ez3⟩ : ∃ y : Int, y = cmpZ v 16 := ⟨_, rfl⟩
    rw [← ez3]
    have gz3 : (z3 < 0 ↔ (v : Int) < 16) ∧ (z3 = 0 ↔ (v : Int) = 16) ∧ -1 ≤ z3 ∧ z3 ≤ 1 := by rw [ez3]; exact ⟨cmpZ_lt, cmpZ_eq, (cmpZ_r _ _).1, (cmpZ_r _ _).2⟩
    clear ez3
    refine x_if_ge (tgt := 28) hx hb (by omega) dX8_isWordInUse_11 (by decide) (fun c4 => ?_) (fun c4 => ?_)
    · replace c4 := cz_geT gz3 c4
      clear gz3
      refine lv_iconst (v := jI 0) hx hb dX8_isWordInUse_28 rfl ?_
      rw [hQ9]
      refine ret_z (mc := 0) (ms := 0) hx hb hr hlocks hw hS (by first | exact Nat.le_of_ble_eq_true rfl | omega) (by first | exact Nat.le_of_ble_eq_true rfl | omega) dX8_isWordInUse_29 (by omega) ?_
      exact ⟨rfl, Or.inr ⟨rfl, (by first | omega | (intro q; first | omega | (simp only [Hid] at *; omega)))⟩⟩
    · replace c4 := cz_geF gz3 c4
      clear gz3
      refine lv_aload_n hx hb dX8_isWordInUse_14 rfl (lv_at hl 0 rfl) ?_
      refine x_geto hx hb hf8 hw (by first | exact Int.le_refl 0 | omega) (by first | exact zlt hc0 | omega) sl_0_4 lk21 dX8_isWordInUse_15 ?_
      refine lv_lload_n hx hb dX8_isWordInUse_18 rfl (lv_at hl 1 rfl) ?_
      refine x_l2i hx hb dX8_isWordInUse_19 ?_
      refine x_zald hx hb hK.1 hw (by first | exact Int.le_refl 0 | omega) (by first | exact zlt hc3 | omega) ar_3 (len_E ar_3 (by first | exact Nat.ne_of_beq_eq_false rfl | decide)) (by omega) (by omega) (by omega) dX8_isWordInUse_20 ?_
      have f5 : 0 ≤ X 3 0 v ∧ X 3 0 v ≤ 1 := hR 3 0 v
      refine x_if_eq (tgt := 28) hx hb (by omega) dX8_isWordInUse_21 (by decide) (fun c6 => ?_) (fun c6 => ?_)
      · refine lv_iconst (v := jI 0) hx hb dX8_isWordInUse_28 rfl ?_
        rw [hQ9]
        refine ret_z (mc := 0) (ms := 0) hx hb hr hlocks hw hS (by first | exact Nat.le_of_ble_eq_true rfl | omega) (by first | exact Nat.le_of_ble_eq_true rfl | omega) dX8_isWordInUse_29 (by omega) ?_
        exact ⟨rfl, Or.inr ⟨rfl, (by first | omega | (intro q; first | omega | (simp only [Hid] at *; omega)))⟩⟩
      · refine lv_iconst (v := jI 1) hx hb dX8_isWordInUse_24 rfl ?_
        refine lv_goto (tgt := 29) hx hb dX8_isWordInUse_25 (by decide) ?_
        rw [hQ9]
        refine ret_z (mc := 0) (ms := 0) hx hb hr hlocks hw hS (by first | exact Nat.le_of_ble_eq_true rfl | omega) (by first | exact Nat.le_of_ble_eq_true rfl | omega) dX8_isWordInUse_29 (by omega) ?_
        exact ⟨rfl, Or.inl ⟨rfl, by omega⟩⟩

set_option maxHeartbeats 4000000 in
set_option maxRecDepth 100000 in
theorem c_X7_hasField (l : Launch) (D : va_G) (tc : Nat → ClassId) (base : Nat) (ad : Nat → Int → Nat) (cnt : Nat → Int) (X : Nat → Int → Int → Int) (Y : Nat → Int → Int → Option Int) (ln : Int → Int) (hR : Rng X) (hFx : Fx cnt) (hLn : LnOK ln) (q k : Int) (hq : 0 ≤ q ∧ q < cnt 19) (hk : -2147483648 ≤ k ∧ k ≤ 2147483647) : KI l D tc base yX7_hasField wsX7_hasField ({ frames := 1, cells := 0, slots := 0, locals := 21 } : Room) [.ref (ad 19 q), .int (jI k)] (ad, cnt, X, Y, ln) 0 0 (fun z u => u = (ad, cnt, X, Y, ln) ∧ ((z = 1 ∧ 0 ≤ k ∧ k < X 19 q 1 ∧ k ≤ 4) ∨ (z = 0 ∧ Hid (¬ (0 ≤ k ∧ k < X 19 q 1))))) := by
  refine K_of (cc := cX7_hasField) (maxL := 2) (ret := (some .boolean)) (by decide) rfl (Nat.le_of_ble_eq_true rfl) ?_
  intro p e s m below meth c ls hx hb hr hml hown hts hlocks hl hK hw hS
  have hown : s.vm.findClass RX7 = some m.cls := hown
  obtain ⟨av9, hav9⟩ : ∃ a9 : Array Value, a9 = ([.ref (ad 19 q), .int (jI k)] : List Value).toArray := ⟨_, rfl⟩
  rw [← hav9] at hts ⊢
  obtain ⟨Q9, hQ9⟩ : ∃ q9Q : State → Prop, q9Q = MQ below (QI D tc base (fun z u => u = (ad, cnt, X, Y, ln) ∧ ((z = 1 ∧ 0 ≤ k ∧ k < X 19 q 1 ∧ k ≤ 4) ∨ (z = 0 ∧ Hid (¬ (0 ≤ k ∧ k < X 19 q 1)))))) av9 s 0 0 (frA base) := ⟨_, rfl⟩
  rw [← hQ9]
  have hi7 : ∀ w ∈ wsX70, w ∈ wsX7_hasField := fun w h => List.mem_cons_of_mem _ (List.mem_append_right _ h)
  have hf7 : fctx s m _ RX7 wsX7_hasField D tc RX7 TX7 8 7 := ⟨hts, hi7, hown, hK.1, rfl⟩
  have lk36 := hts (.fieldLink RX7 36 (TX7 1).1 (TX7 1).2.1 (TX7 1).2.2.1) (gj_X7_hasField_0 _ (gp_h))
  have hl : lv_has ls 2 [(0, .ref (ad 19 q)), (1, .int (jI k))] := hl
  have ffc : 0 ≤ X 19 q 1 ∧ X 19 q 1 ≤ 5 := hR 19 q 1
  refine lv_iload_n hx hb dX7_hasField_0 rfl (lv_at hl 1 rfl) ?_
  refine lv_aload_n hx hb dX7_hasField_1 rfl (lv_at hl 0 rfl) ?_
  refine x_geti (jz := 1) hx hb hf7 hw (by omega) (by omega) sl_19_1 rfl lk36 dX7_hasField_2 ?_
  have f1 : 0 ≤ X 19 q 1 ∧ X 19 q 1 ≤ 5 := hR 19 q 1
  refine gos_i (run_SN (As := [.int (jI k), .int (jI (X 19 q 1))]) (rest := []) (host := RX8) hx hb hml hown hts (c_X8_isBelow l D tc base ad cnt X Y ln k (X 19 q 1) (by omega) (by omega)) ⟨va_cnB 2 hts gX7_hasField_X8_isBelow_n39 rfl rfl rfl hK.2.1 (hts (.initialized RX8) (by first | exact gj_X7_hasField_0 _ (gp_1 (gp_1 gp_h)) | decide +kernel)) (by decide +kernel) ⟨Nat.le_of_ble_eq_true rfl, Nat.le_of_ble_eq_true rfl⟩, hts (.static yX8_isBelow) (by first | exact gj_X7_hasField_0 _ (gp_1 gp_h) | decide +kernel), trivial⟩ hK hw rfl hl.1 rfl (Nat.le_of_ble_eq_true rfl) dX7_hasField_5 ⟨Nat.le_of_ble_eq_true rfl, Nat.le_of_ble_eq_true rfl⟩) hS (fun z2 u3 H locs p4 hw hS => ?_)
  obtain ⟨eu3, p4⟩ := p4
  subst eu3
  rcases p4 with ⟨ez2, p4⟩ | ⟨ez2, p4⟩
  · subst ez2
    rw [hQ9]
    refine ret_z (mc := 0) (ms := 0) hx hb hr hlocks hw hS (by first | exact Nat.le_of_ble_eq_true rfl | omega) (by first | exact Nat.le_of_ble_eq_true rfl | omega) dX7_hasField_8 (by omega) ?_
    exact ⟨rfl, Or.inl ⟨rfl, by omega⟩⟩
  · subst ez2
    rw [hQ9]
    refine ret_z (mc := 0) (ms := 0) hx hb hr hlocks hw hS (by first | exact Nat.le_of_ble_eq_true rfl | omega) (by first | exact Nat.le_of_ble_eq_true rfl | omega) dX7_hasField_8 (by omega) ?_
    exact ⟨rfl, Or.inr ⟨rfl, (by first | omega | (intro q; first | omega | (simp only [Hid] at *; omega)))⟩⟩

set_option maxHeartbeats 4000000 in
set_option maxRecDepth 100000 in
theorem c_X7_hasLane (l : Launch) (D : va_G) (tc : Nat → ClassId) (base : Nat) (ad : Nat → Int → Nat) (cnt : Nat → Int) (X : Nat → Int → Int → Int) (Y : Nat → Int → Int → Option Int) (ln : Int → Int) (hR : Rng X) (hFx : Fx cnt) (hLn : LnOK ln) (q k lane : Int) (hq : 0 ≤ q ∧ q < cnt 19) (hk : -2147483648 ≤ k ∧ k ≤ 2147483647) (hlane : -2147483648 ≤ lane ∧ lane ≤ 2147483647) : KI l D tc base yX7_hasLane wsX7_hasLane ({ frames := 2, cells := 0, slots := 0, locals := 42 } : Room) [.ref (ad 19 q), .int (jI k), .int (jI lane)] (ad, cnt, X, Y, ln) 0 0 (fun z u => u = (ad, cnt, X, Y, ln) ∧ ((z = 1 ∧ 0 ≤ k ∧ k < X 19 q 1 ∧ k ≤ 4 ∧ X 21 q k = lane) ∨ (z = 0 ∧ Hid (¬ (0 ≤ k ∧ k < X 19 q 1 ∧ X 21 q k = lane))))) := by
  refine K_of (cc := cX7_hasLane) (maxL := 3) (ret := (some .boolean)) (by decide) rfl (Nat.le_of_ble_eq_true rfl) ?_
  intro p e s m below meth c ls hx hb hr hml hown hts hlocks hl hK hw hS
  have hown : s.vm.findClass RX7 = some m.cls := hown
  obtain ⟨av9, hav9⟩ : ∃ a9 : Array Value, a9 = ([.ref (ad 19 q), .int (jI k), .int (jI lane)] : List Value).toArray := ⟨_, rfl⟩
  rw [← hav9] at hts ⊢
  obtain ⟨Q9, hQ9⟩ : ∃ q9Q : State → Prop, q9Q = MQ below (QI D tc base (fun z u => u = (ad, cnt, X, Y, ln) ∧ ((z = 1 ∧ 0 ≤ k ∧ k < X 19 q 1 ∧ k ≤ 4 ∧ X 21 q k = lane) ∨ (z = 0 ∧ Hid (¬ (0 ≤ k ∧ k < X 19 q 1 ∧ X 21 q k = lane)))))) av9 s 0 0 (frA base) := ⟨_, rfl⟩
  rw [← hQ9]
  have hi7 : ∀ w ∈ wsX70, w ∈ wsX7_hasLane := fun w h => List.mem_cons_of_mem _ (List.mem_append_right _ h)
  have hf7 : fctx s m _ RX7 wsX7_hasLane D tc RX7 TX7 8 7 := ⟨hts, hi7, hown, hK.1, rfl⟩
  have lk15 := hts (.fieldLink RX7 15 (TX7 3).1 (TX7 3).2.1 (TX7 3).2.2.1) (gj_X7_hasLane_0 _ (gp_h))
  have hc21 : cnt 21 = cnt 19 := hFx.2.1 21 (by decide)
  have hl : lv_has ls 3 [(0, .ref (ad 19 q)), (1, .int (jI k)), (2, .int (jI lane))] := hl
  refine lv_aload_n hx hb dX7_hasLane_0 rfl (lv_at hl 0 rfl) ?_
  refine lv_iload_n hx hb dX7_hasLane_1 rfl (lv_at hl 1 rfl) ?_
  refine gos_i (run_V (As := [.int (jI k)]) (rest := []) hx hb hml hown hts (c_X7_hasField l D tc base ad cnt X Y ln hR hFx hLn q k (by omega) (by omega)) (cwV 1 hts gX7_hasLane_X7_hasField rfl rfl rfl (by first | exact hd_X7_hasField | decide +kernel) ⟨Nat.le_of_ble_eq_true rfl, Nat.le_of_ble_eq_true rfl⟩) hK hw (by first | exact Int.le_refl 0 | omega) (by first | exact zlt hc19 | omega) sl_19_0 rfl rfl hl.1 rfl (Nat.le_of_ble_eq_true rfl) dX7_hasLane_2 ⟨Nat.le_of_ble_eq_true rfl, Nat.le_of_ble_eq_true rfl⟩) hS (fun z1 u2 H locs p3 hw hS => ?_)
  obtain ⟨eu2, p3⟩ := p3
  subst eu2
  rcases p3 with ⟨ez1, p3⟩ | ⟨ez1, p3⟩
  · subst ez1
    refine x_if_eqF (tgt := 22) hx hb (by omega) (by decide) dX7_hasLane_5 (by decide) ?_
    refine lv_aload_n hx hb dX7_hasLane_8 rfl (lv_at hl 0 rfl) ?_
    refine x_geto hx hb hf7 hw (by omega) (by omega) sl_19_3 lk15 dX7_hasLane_9 ?_
    refine lv_iload_n hx hb dX7_hasLane_12 rfl (lv_at hl 1 rfl) ?_
    refine x_iald hx hb hK.1 hw (by omega) (by omega) ar_21 (len_E ar_21 (by first | exact Nat.ne_of_beq_eq_false rfl | decide)) (by omega) (by omega) (by omega) dX7_hasLane_13 ?_
    have f4 : 0 ≤ X 21 q k ∧ X 21 q k ≤ 5 := hR 21 q k
    refine lv_iload_n hx hb dX7_hasLane_14 rfl (lv_at hl 2 rfl) ?_
    refine x_icmp_ne (tgt := 22) hx hb (by omega) (by omega) dX7_hasLane_15 (by decide) (fun c5 => ?_) (fun c5 => ?_)
    · refine lv_iconst (v := jI 0) hx hb dX7_hasLane_22 rfl ?_
      rw [hQ9]
      refine ret_z (mc := 0) (ms := 0) hx hb hr hlocks hw hS (by first | exact Nat.le_of_ble_eq_true rfl | omega) (by first | exact Nat.le_of_ble_eq_true rfl | omega) dX7_hasLane_23 (by omega) ?_
      exact ⟨rfl, Or.inr ⟨rfl, (by first | omega | (intro q; first | omega | (simp only [Hid] at *; omega)))⟩⟩
    · refine lv_iconst (v := jI 1) hx hb dX7_hasLane_18 rfl ?_
      refine lv_goto (tgt := 23) hx hb dX7_hasLane_19 (by decide) ?_
      rw [hQ9]
      refine ret_z (mc := 0) (ms := 0) hx hb hr hlocks hw hS (by first | exact Nat.le_of_ble_eq_true rfl | omega) (by first | exact Nat.le_of_ble_eq_true rfl | omega) dX7_hasLane_23 (by omega) ?_
      exact ⟨rfl, Or.inl ⟨rfl, by omega⟩⟩
  · subst ez1
    refine x_if_eqT (tgt := 22) hx hb (by omega) (by decide) dX7_hasLane_5 (by decide) ?_
    refine lv_iconst (v := jI 0) hx hb dX7_hasLane_22 rfl ?_
    rw [hQ9]
    refine ret_z (mc := 0) (ms := 0) hx hb hr hlocks hw hS (by first | exact Nat.le_of_ble_eq_true rfl | omega) (by first | exact Nat.le_of_ble_eq_true rfl | omega) dX7_hasLane_23 (by omega) ?_
    exact ⟨rfl, Or.inr ⟨rfl, (by first | omega | (intro q; first | omega | (simp only [Hid] at *; omega)))⟩⟩

set_option maxHeartbeats 4000000 in
set_option maxRecDepth 100000 in
theorem c_X7_hasRowLane (l : Launch) (D : va_G) (tc : Nat → ClassId) (base : Nat) (ad : Nat → Int → Nat) (cnt : Nat → Int) (X : Nat → Int → Int → Int) (Y : Nat → Int → Int → Option Int) (ln : Int → Int) (hR : Rng X) (hFx : Fx cnt) (hLn : LnOK ln) (q k : Int) (hq : 0 ≤ q ∧ q < cnt 19) (hk : -2147483648 ≤ k ∧ k ≤ 2147483647) : KI l D tc base yX7_hasRowLane wsX7_hasRowLane ({ frames := 2, cells := 0, slots := 0, locals := 42 } : Room) [.ref (ad 19 q), .int (jI k)] (ad, cnt, X, Y, ln) 0 0 (fun z u => u = (ad, cnt, X, Y, ln) ∧ ((z = 1 ∧ 0 ≤ k ∧ k < X 19 q 1 ∧ k ≤ 4 ∧ 3 ≤ X 21 q k) ∨ (z = 0 ∧ Hid (¬ (0 ≤ k ∧ k < X 19 q 1 ∧ 3 ≤ X 21 q k))))) := by
  refine K_of (cc := cX7_hasRowLane) (maxL := 2) (ret := (some .boolean)) (by decide) rfl (Nat.le_of_ble_eq_true rfl) ?_
  intro p e s m below meth c ls hx hb hr hml hown hts hlocks hl hK hw hS
  have hown : s.vm.findClass RX7 = some m.cls := hown
  obtain ⟨av9, hav9⟩ : ∃ a9 : Array Value, a9 = ([.ref (ad 19 q), .int (jI k)] : List Value).toArray := ⟨_, rfl⟩
  rw [← hav9] at hts ⊢
  obtain ⟨Q9, hQ9⟩ : ∃ q9Q : State → Prop, q9Q = MQ below (QI D tc base (fun z u => u = (ad, cnt, X, Y, ln) ∧ ((z = 1 ∧ 0 ≤ k ∧ k < X 19 q 1 ∧ k ≤ 4 ∧ 3 ≤ X 21 q k) ∨ (z = 0 ∧ Hid (¬ (0 ≤ k ∧ k < X 19 q 1 ∧ 3 ≤ X 21 q k)))))) av9 s 0 0 (frA base) := ⟨_, rfl⟩
  rw [← hQ9]
  have hi7 : ∀ w ∈ wsX70, w ∈ wsX7_hasRowLane := fun w h => List.mem_cons_of_mem _ (List.mem_append_right _ h)
  have hf7 : fctx s m _ RX7 wsX7_hasRowLane D tc RX7 TX7 8 7 := ⟨hts, hi7, hown, hK.1, rfl⟩
  have lk15 := hts (.fieldLink RX7 15 (TX7 3).1 (TX7 3).2.1 (TX7 3).2.2.1) (gj_X7_hasRowLane_0 _ (gp_h))
  have hc21 : cnt 21 = cnt 19 := hFx.2.1 21 (by decide)
  have hl : lv_has ls 2 [(0, .ref (ad 19 q)), (1, .int (jI k))] := hl
  refine lv_aload_n hx hb dX7_hasRowLane_0 rfl (lv_at hl 0 rfl) ?_
  refine lv_iload_n hx hb dX7_hasRowLane_1 rfl (lv_at hl 1 rfl) ?_
  refine gos_i (run_V (As := [.int (jI k)]) (rest := []) hx hb hml hown hts (c_X7_hasField l D tc base ad cnt X Y ln hR hFx hLn q k (by omega) (by omega)) (cwV 1 hts gX7_hasRowLane_X7_hasField rfl rfl rfl (by first | exact hd_X7_hasField | decide +kernel) ⟨Nat.le_of_ble_eq_true rfl, Nat.le_of_ble_eq_true rfl⟩) hK hw (by first | exact Int.le_refl 0 | omega) (by first | exact zlt hc19 | omega) sl_19_0 rfl rfl hl.1 rfl (Nat.le_of_ble_eq_true rfl) dX7_hasRowLane_2 ⟨Nat.le_of_ble_eq_true rfl, Nat.le_of_ble_eq_true rfl⟩) hS (fun z1 u2 H locs p3 hw hS => ?_)
  obtain ⟨eu2, p3⟩ := p3
  subst eu2
  rcases p3 with ⟨ez1, p3⟩ | ⟨ez1, p3⟩
  · subst ez1
    refine x_if_eqF (tgt := 24) hx hb (by omega) (by decide) dX7_hasRowLane_5 (by decide) ?_
    refine lv_aload_n hx hb dX7_hasRowLane_8 rfl (lv_at hl 0 rfl) ?_
    refine x_geto hx hb hf7 hw (by omega) (by omega) sl_19_3 lk15 dX7_hasRowLane_9 ?_
    refine lv_iload_n hx hb dX7_hasRowLane_12 rfl (lv_at hl 1 rfl) ?_
    refine x_iald hx hb hK.1 hw (by omega) (by omega) ar_21 (len_E ar_21 (by first | exact Nat.ne_of_beq_eq_false rfl | decide)) (by omega) (by omega) (by omega) dX7_hasRowLane_13 ?_
    have f4 : 0 ≤ X 21 q k ∧ X 21 q k ≤ 5 := hR 21 q k
    refine gos_i (run_SN (As := [.int (jI (X 21 q k))]) (rest := []) (host := RX8) hx hb hml hown hts (c_X8_isRowLane l D tc base ad cnt X Y ln (X 21 q k) (by omega)) ⟨va_cnB 1 hts gX7_hasRowLane_X8_isRowLane_n47 rfl rfl rfl hK.2.2.1 (hts (.initialized RX8) (by first | exact gj_X7_hasRowLane_0 _ (gp_4 (gp_4 gp_h)) | decide +kernel)) (by decide +kernel) ⟨Nat.le_of_ble_eq_true rfl, Nat.le_of_ble_eq_true rfl⟩, hts (.static yX8_isRowLane) (by first | exact gj_X7_hasRowLane_0 _ (gp_4 (gp_4 (gp_1 (gp_1 gp_h)))) | decide +kernel), trivial⟩ hK hw rfl hl.1 rfl (Nat.le_of_ble_eq_true rfl) dX7_hasRowLane_14 ⟨Nat.le_of_ble_eq_true rfl, Nat.le_of_ble_eq_true rfl⟩) hS (fun z5 u6 H locs p7 hw hS => ?_)
    obtain ⟨eu6, p7⟩ := p7
    subst eu6
    rcases p7 with ⟨ez5, p7⟩ | ⟨ez5, p7⟩
    · subst ez5
      refine x_if_eqF (tgt := 24) hx hb (by omega) (by decide) dX7_hasRowLane_17 (by decide) ?_
      refine lv_iconst (v := jI 1) hx hb dX7_hasRowLane_20 rfl ?_
      refine lv_goto (tgt := 25) hx hb dX7_hasRowLane_21 (by decide) ?_
      rw [hQ9]
      refine ret_z (mc := 0) (ms := 0) hx hb hr hlocks hw hS (by first | exact Nat.le_of_ble_eq_true rfl | omega) (by first | exact Nat.le_of_ble_eq_true rfl | omega) dX7_hasRowLane_25 (by omega) ?_
      exact ⟨rfl, Or.inl ⟨rfl, by omega⟩⟩
    · subst ez5
      refine x_if_eqT (tgt := 24) hx hb (by omega) (by decide) dX7_hasRowLane_17 (by decide) ?_
      refine lv_iconst (v := jI 0) hx hb dX7_hasRowLane_24 rfl ?_
      rw [hQ9]
      refine ret_z (mc := 0) (ms := 0) hx hb hr hlocks hw hS (by first | exact Nat.le_of_ble_eq_true rfl | omega) (by first | exact Nat.le_of_ble_eq_true rfl | omega) dX7_hasRowLane_25 (by omega) ?_
      exact ⟨rfl, Or.inr ⟨rfl, (by first | omega | (intro q; first | omega | (simp only [Hid] at *; omega)))⟩⟩
  · subst ez1
    refine x_if_eqT (tgt := 24) hx hb (by omega) (by decide) dX7_hasRowLane_5 (by decide) ?_
    refine lv_iconst (v := jI 0) hx hb dX7_hasRowLane_24 rfl ?_
    rw [hQ9]
    refine ret_z (mc := 0) (ms := 0) hx hb hr hlocks hw hS (by first | exact Nat.le_of_ble_eq_true rfl | omega) (by first | exact Nat.le_of_ble_eq_true rfl | omega) dX7_hasRowLane_25 (by omega) ?_
    exact ⟨rfl, Or.inr ⟨rfl, (by first | omega | (intro q; first | omega | (simp only [Hid] at *; omega)))⟩⟩

set_option maxHeartbeats 4000000 in
set_option maxRecDepth 100000 in
theorem c_X7_fieldNamed (l : Launch) (D : va_G) (tc : Nat → ClassId) (base : Nat) (ad : Nat → Int → Nat) (cnt : Nat → Int) (X : Nat → Int → Int → Int) (Y : Nat → Int → Int → Option Int) (ln : Int → Int) (hR : Rng X) (hFx : Fx cnt) (hLn : LnOK ln) (q name : Int) (hq : 0 ≤ q ∧ q < cnt 19) (hname : -2147483648 ≤ name ∧ name ≤ 2147483647) : KI l D tc base yX7_fieldNamed wsX7_fieldNamed ({ frames := 0, cells := 0, slots := 0, locals := 0 } : Room) [.ref (ad 19 q), .int (jI name)] (ad, cnt, X, Y, ln) 0 0 (fun z u => u = (ad, cnt, X, Y, ln) ∧ -1 ≤ z ∧ z < X 19 q 1 ∧ z ≤ 4 ∧ z = nmAt (X 20 q) name (X 19 q 1).toNat) := by
  refine K_of (cc := cX7_fieldNamed) (maxL := 3) (ret := (some .int)) (by decide) rfl (Nat.le_of_ble_eq_true rfl) ?_
  intro p e s m below meth c ls hx hb hr hml hown hts hlocks hl hK hw hS
  have hown : s.vm.findClass RX7 = some m.cls := hown
  obtain ⟨av9, hav9⟩ : ∃ a9 : Array Value, a9 = ([.ref (ad 19 q), .int (jI name)] : List Value).toArray := ⟨_, rfl⟩
  rw [← hav9] at hts ⊢
  obtain ⟨Q9, hQ9⟩ : ∃ q9Q : State → Prop, q9Q = MQ below (QI D tc base (fun z u => u = (ad, cnt, X, Y, ln) ∧ -1 ≤ z ∧ z < X 19 q 1 ∧ z ≤ 4 ∧ z = nmAt (X 20 q) name (X 19 q 1).toNat)) av9 s 0 0 (frA base) := ⟨_, rfl⟩
  rw [← hQ9]
  have hi7 : ∀ w ∈ wsX70, w ∈ wsX7_fieldNamed := fun w h => List.mem_cons_of_mem _ (List.mem_append_right _ h)
  have hf7 : fctx s m _ RX7 wsX7_fieldNamed D tc RX7 TX7 8 7 := ⟨hts, hi7, hown, hK.1, rfl⟩
  have lk9 := hts (.fieldLink RX7 9 (TX7 2).1 (TX7 2).2.1 (TX7 2).2.2.1) (gj_X7_fieldNamed_0 _ (gp_1 gp_h))
  have lk36 := hts (.fieldLink RX7 36 (TX7 1).1 (TX7 1).2.1 (TX7 1).2.2.1) (gj_X7_fieldNamed_0 _ (gp_h))
  have hc20 : cnt 20 = cnt 19 := hFx.2.1 20 (by decide)
  have hl : lv_has ls 3 [(0, .ref (ad 19 q)), (1, .int (jI name))] := hl
  refine lv_iconst (v := jI 0) hx hb dX7_fieldNamed_0 rfl ?_
  refine lv_istore_n (lv' := [(2, .int (jI 0)), (0, .ref (ad 19 q)), (1, .int (jI name))]) hx hb dX7_fieldNamed_1 rfl hl (by decide) rfl (fun ls hl => ?_)
  have lp2 : ∀ (nn : Nat) (k : Int) (H : Heap) (locs : List Loc) (ls : Array Slot), (5 - k) < (nn : Int) → (0 ≤ k ∧ k ≤ 5) → (∀ j, 0 ≤ j → j < k → X 20 q j ≠ name) → wd D tc base (ad, cnt, X, Y, ln) H → va_S (frA base) s.heap H locs → lv_has ls 3 [(0, .ref (ad 19 q)), (1, .int (jI name)), (2, .int (jI k))] → W p l e ({ frames := 0, cells := 0, slots := 0, locals := 0 } : Room) s m av9 below meth c H locs 0 0 Q9 (F0 m 2 ls []) := by
    intro nn
    induction nn with
    | zero => intro k H locs ls hm hk hnn hw hS hl; exfalso; omega
    | succ nn ih2 =>
      intro k H locs ls hm hk hnn hw hS hl
      refine lv_iload_n hx hb dX7_fieldNamed_2 rfl (lv_at hl 2 rfl) ?_
      refine lv_aload_n hx hb dX7_fieldNamed_3 rfl (lv_at hl 0 rfl) ?_
      refine x_geti (jz := 1) hx hb hf7 hw (by omega) (by omega) sl_19_1 rfl lk36 dX7_fieldNamed_4 ?_
      have f1 : 0 ≤ X 19 q 1 ∧ X 19 q 1 ≤ 5 := hR 19 q 1
      refine x_icmp_ge (tgt := 28) hx hb (by omega) (by omega) dX7_fieldNamed_7 (by decide) (fun c2 => ?_) (fun c2 => ?_)
      · refine lv_iconst (v := jI (-1)) hx hb dX7_fieldNamed_28 rfl ?_
        rw [hQ9]
        refine ret_i (mc := 0) (ms := 0) hx hb hr hlocks hw hS (by first | exact Nat.le_of_ble_eq_true rfl | omega) (by first | exact Nat.le_of_ble_eq_true rfl | omega) dX7_fieldNamed_29 ?_
        exact ⟨rfl, by omega, by omega, by omega, (nmAt_no (fun j a b => hnn j a (by omega)) (by omega)).symm⟩
      · refine lv_aload_n hx hb dX7_fieldNamed_10 rfl (lv_at hl 0 rfl) ?_
        refine x_geto hx hb hf7 hw (by omega) (by omega) sl_19_2 lk9 dX7_fieldNamed_11 ?_
        refine lv_iload_n hx hb dX7_fieldNamed_14 rfl (lv_at hl 2 rfl) ?_
        refine x_iald hx hb hK.1 hw (by omega) (by omega) ar_20 (len_E ar_20 (by first | exact Nat.ne_of_beq_eq_false rfl | decide)) (by omega) (by omega) (by omega) dX7_fieldNamed_15 ?_
        have f3 : 0 ≤ X 20 q k ∧ X 20 q k ≤ 19 := hR 20 q k
        refine lv_iload_n hx hb dX7_fieldNamed_16 rfl (lv_at hl 1 rfl) ?_
        refine x_icmp_ne (tgt := 22) hx hb (by omega) (by omega) dX7_fieldNamed_17 (by decide) (fun c4 => ?_) (fun c4 => ?_)
        · refine lv_iinc (v := jI (k + 1)) (lv' := [(2, .int (jI (k + 1))), (0, .ref (ad 19 q)), (1, .int (jI name))]) hx hb dX7_fieldNamed_22 hl (k := 2) rfl (jI_add _ _) (by decide) rfl (fun ls hl => ?_)
          refine lv_goto (tgt := 2) hx hb dX7_fieldNamed_25 (by decide) ?_
          exact ih2 (k + 1) _ _ _ (by omega) (by omega) (fun j a b => if hj : j = k then (by rw [hj]; omega) else hnn j a (by omega)) hw hS (lv_sub hl [1, 2, 0] rfl)
        · refine lv_iload_n hx hb dX7_fieldNamed_20 rfl (lv_at hl 2 rfl) ?_
          rw [hQ9]
          refine ret_i (mc := 0) (ms := 0) hx hb hr hlocks hw hS (by first | exact Nat.le_of_ble_eq_true rfl | omega) (by first | exact Nat.le_of_ble_eq_true rfl | omega) dX7_fieldNamed_21 ?_
          exact ⟨rfl, by omega, by omega, by omega, (nmAt_yes hnn (by omega) (by omega)).symm⟩
  exact lp2 (5 - 0 : Int).toNat.succ 0 _ _ _ (by omega) (by omega) (fun j a b => by omega) hw hS (lv_sub hl [1, 2, 0] rfl)

set_option maxHeartbeats 4000000 in
set_option maxRecDepth 100000 in
theorem c_X8_typeNumbered (l : Launch) (D : va_G) (tc : Nat → ClassId) (base : Nat) (ad : Nat → Int → Nat) (cnt : Nat → Int) (X : Nat → Int → Int → Int) (Y : Nat → Int → Int → Option Int) (ln : Int → Int) (hR : Rng X) (hFx : Fx cnt) (hLn : LnOK ln) (hCI : CInv cnt X Y ln) (t : Int) (ht : -2147483648 ≤ t ∧ t ≤ 2147483647) : KR l D tc base 19 yX8_typeNumbered wsX8_typeNumbered ({ frames := 1, cells := 0, slots := 0, locals := 21 } : Room) [.ref (ad 0 0), .int (jI t)] (ad, cnt, X, Y, ln) 0 0 (fun o u => u = (ad, cnt, X, Y, ln) ∧ (∀ q, o = some q → q = t ∧ 0 ≤ t ∧ t < X 0 0 1 ∧ t ≤ 7 ∧ t < cnt 19) ∧ (o = none → Hid (¬ (0 ≤ t ∧ t < X 0 0 1)))) := by
  refine K_of (cc := cX8_typeNumbered) (maxL := 2) (ret := (some (.object "StateRecords$Type"))) (by decide) rfl (Nat.le_of_ble_eq_true rfl) ?_
  intro p e s m below meth c ls hx hb hr hml hown hts hlocks hl hK hw hS
  have hown : s.vm.findClass RX8 = some m.cls := hown
  obtain ⟨av9, hav9⟩ : ∃ a9 : Array Value, a9 = ([.ref (ad 0 0), .int (jI t)] : List Value).toArray := ⟨_, rfl⟩
  rw [← hav9] at hts ⊢
  obtain ⟨Q9, hQ9⟩ : ∃ q9Q : State → Prop, q9Q = MQ below (QR D tc base 19 (fun o u => u = (ad, cnt, X, Y, ln) ∧ (∀ q, o = some q → q = t ∧ 0 ≤ t ∧ t < X 0 0 1 ∧ t ≤ 7 ∧ t < cnt 19) ∧ (o = none → Hid (¬ (0 ≤ t ∧ t < X 0 0 1))))) av9 s 0 0 (frA base) := ⟨_, rfl⟩
  rw [← hQ9]
  have hi8 : ∀ w ∈ wsX80, w ∈ wsX8_typeNumbered := fun w h => List.mem_cons_of_mem _ (List.mem_append_right _ h)
  have hf8 : fctx s m _ RX8 wsX8_typeNumbered D tc RX8 TX8 12 8 := ⟨hts, hi8, hown, hK.1, rfl⟩
  have lk11 := hts (.fieldLink RX8 11 (TX8 0).1 (TX8 0).2.1 (TX8 0).2.2.1) (gj_X8_typeNumbered_0 _ (gp_1 gp_h))
  have lk63 := hts (.fieldLink RX8 63 (TX8 1).1 (TX8 1).2.1 (TX8 1).2.2.1) (gj_X8_typeNumbered_0 _ (gp_h))
  have hc0 : cnt 0 = 1 := hFx.at 0 1 (by decide)
  have hc1 : cnt 1 = 1 := hFx.at 1 1 (by decide)
  have hl : lv_has ls 2 [(0, .ref (ad 0 0)), (1, .int (jI t))] := hl
  have hct : cnt 19 = X 0 0 1 := hCI.2.2.2.1.1
  have ftc : 0 ≤ X 0 0 1 ∧ X 0 0 1 ≤ 8 := hR 0 0 1
  refine lv_iload_n hx hb dX8_typeNumbered_0 rfl (lv_at hl 1 rfl) ?_
  refine lv_aload_n hx hb dX8_typeNumbered_1 rfl (lv_at hl 0 rfl) ?_
  refine x_geti (jz := 1) hx hb hf8 hw (by first | exact Int.le_refl 0 | omega) (by first | exact zlt hc0 | omega) sl_0_1 rfl lk63 dX8_typeNumbered_2 ?_
  have f1 : 0 ≤ X 0 0 1 ∧ X 0 0 1 ≤ 8 := hR 0 0 1
  refine gos_i (run_S (As := [.int (jI t), .int (jI (X 0 0 1))]) (rest := []) hx hb hml hown hts (c_X8_isBelow l D tc base ad cnt X Y ln t (X 0 0 1) (by omega) (by omega)) (cwS 2 hts gX8_typeNumbered_X8_isBelow rfl rfl rfl (by first | exact hd_X8_isBelow | decide +kernel) ⟨Nat.le_of_ble_eq_true rfl, Nat.le_of_ble_eq_true rfl⟩) hK hw rfl hl.1 rfl (Nat.le_of_ble_eq_true rfl) dX8_typeNumbered_5 ⟨Nat.le_of_ble_eq_true rfl, Nat.le_of_ble_eq_true rfl⟩) hS (fun z2 u3 H locs p4 hw hS => ?_)
  obtain ⟨eu3, p4⟩ := p4
  subst eu3
  rcases p4 with ⟨ez2, p4⟩ | ⟨ez2, p4⟩
  · subst ez2
    refine x_if_eqF (tgt := 20) hx hb (by omega) (by decide) dX8_typeNumbered_8 (by decide) ?_
    refine lv_aload_n hx hb dX8_typeNumbered_11 rfl (lv_at hl 0 rfl) ?_
    refine x_geto hx hb hf8 hw (by first | exact Int.le_refl 0 | omega) (by first | exact zlt hc0 | omega) sl_0_0 lk11 dX8_typeNumbered_12 ?_
    refine lv_iload_n hx hb dX8_typeNumbered_15 rfl (lv_at hl 1 rfl) ?_
    refine x_aald hx hb hK.1 hw (by first | exact Int.le_refl 0 | omega) (by first | exact zlt hc1 | omega) ar_1 rfl (len_E ar_1 (by first | exact Nat.ne_of_beq_eq_false rfl | decide)) (by omega) (by omega) (by omega) dX8_typeNumbered_16 (fun y5 => ?_) (fun r6 y5 gr6 lr6 => ?_)
    · exfalso
      have h9 := (hCI.2.2.2.1.2 t (by omega) (by omega)).1; rw [h9] at y5; cases y5
    · have er6 : r6 = t := by have h9 := (hCI.2.2.2.1.2 t (by omega) (by omega)).1; rw [h9] at y5; cases y5; rfl
      rw [er6]
      refine lv_goto (tgt := 21) hx hb dX8_typeNumbered_17 (by decide) ?_
      rw [hQ9]
      refine ret_r (mc := 0) (ms := 0) (k := 19) (i := t) hx hb hr hlocks hw hS (by first | exact Nat.le_of_ble_eq_true rfl | omega) (by first | exact Nat.le_of_ble_eq_true rfl | omega) dX8_typeNumbered_21 ?_
      exact ⟨rfl, fun q e => by cases e; exact ⟨by omega, by omega, by omega, by omega, by omega⟩, fun e => by cases e⟩
  · subst ez2
    refine x_if_eqT (tgt := 20) hx hb (by omega) (by decide) dX8_typeNumbered_8 (by decide) ?_
    refine lv_null hx hb dX8_typeNumbered_20 ?_
    rw [hQ9]
    refine ret_n (mc := 0) (ms := 0) hx hb hr hlocks hw hS (by first | exact Nat.le_of_ble_eq_true rfl | omega) (by first | exact Nat.le_of_ble_eq_true rfl | omega) dX8_typeNumbered_21 ?_
    exact ⟨rfl, fun q e => (by cases e), fun _ q => by simp only [Hid] at *; omega⟩

set_option maxHeartbeats 4000000 in
set_option maxRecDepth 100000 in
theorem c_X8_thingNumbered (l : Launch) (D : va_G) (tc : Nat → ClassId) (base : Nat) (ad : Nat → Int → Nat) (cnt : Nat → Int) (X : Nat → Int → Int → Int) (Y : Nat → Int → Int → Option Int) (ln : Int → Int) (hR : Rng X) (hFx : Fx cnt) (hLn : LnOK ln) (hCI : CInv cnt X Y ln) (x : Int) (hx : -9223372036854775808 ≤ x ∧ x ≤ 9223372036854775807) : KR l D tc base 15 yX8_thingNumbered wsX8_thingNumbered ({ frames := 0, cells := 0, slots := 0, locals := 0 } : Room) [.ref (ad 0 0), .long (jL x)] (ad, cnt, X, Y, ln) 0 0 (fun o u => u = (ad, cnt, X, Y, ln) ∧ (∀ q, o = some q → q = x ∧ 0 ≤ x ∧ x < X 0 0 3 ∧ x ≤ 29) ∧ (o = none → Hid (¬ (0 ≤ x ∧ x < X 0 0 3)))) := by
  refine K_of (cc := cX8_thingNumbered) (maxL := 3) (ret := (some (.object "StateRecords$Thing"))) (by decide) rfl (Nat.le_of_ble_eq_true rfl) ?_
  intro p e s m below meth c ls hx hb hr hml hown hts hlocks hl hK hw hS
  have hown : s.vm.findClass RX8 = some m.cls := hown
  obtain ⟨av9, hav9⟩ : ∃ a9 : Array Value, a9 = ([.ref (ad 0 0), .long (jL x)] : List Value).toArray := ⟨_, rfl⟩
  rw [← hav9] at hts ⊢
  obtain ⟨Q9, hQ9⟩ : ∃ q9Q : State → Prop, q9Q = MQ below (QR D tc base 15 (fun o u => u = (ad, cnt, X, Y, ln) ∧ (∀ q, o = some q → q = x ∧ 0 ≤ x ∧ x < X 0 0 3 ∧ x ≤ 29) ∧ (o = none → Hid (¬ (0 ≤ x ∧ x < X 0 0 3))))) av9 s 0 0 (frA base) := ⟨_, rfl⟩
  rw [← hQ9]
  have hi8 : ∀ w ∈ wsX80, w ∈ wsX8_thingNumbered := fun w h => List.mem_cons_of_mem _ (List.mem_append_right _ h)
  have hf8 : fctx s m _ RX8 wsX8_thingNumbered D tc RX8 TX8 12 8 := ⟨hts, hi8, hown, hK.1, rfl⟩
  have lk17 := hts (.fieldLink RX8 17 (TX8 2).1 (TX8 2).2.1 (TX8 2).2.2.1) (gj_X8_thingNumbered_0 _ (gp_1 gp_h))
  have lk94 := hts (.fieldLink RX8 94 (TX8 3).1 (TX8 3).2.1 (TX8 3).2.2.1) (gj_X8_thingNumbered_0 _ (gp_h))
  have hc0 : cnt 0 = 1 := hFx.at 0 1 (by decide)
  have hc2 : cnt 2 = 1 := hFx.at 2 1 (by decide)
  have hc15 : cnt 15 = 30 := hFx.at 15 30 (by decide)
  have hl : lv_has ls 3 [(0, .ref (ad 0 0)), (1, .long (jL x))] := hl
  have ftc : 0 ≤ X 0 0 3 ∧ X 0 0 3 ≤ 30 := hR 0 0 3
  refine lv_lload_n hx hb dX8_thingNumbered_0 rfl (lv_at hl 1 rfl) ?_
  refine lv_lconst (v := jL 0) hx hb dX8_thingNumbered_1 (by decide) ?_
  refine x_lcmp hx hb (by omega) (by omega) dX8_thingNumbered_2 ?_
  obtain ⟨z1, ez1⟩ : ∃ y : Int, y = cmpZ x 0 := ⟨_, rfl⟩
  rw [← ez1]
  have gz1 : (z1 < 0 ↔ (x : Int) < 0) ∧ (z1 = 0 ↔ (x : Int) = 0) ∧ -1 ≤ z1 ∧ z1 ≤ 1 := by rw [ez1]; exact ⟨cmpZ_lt, cmpZ_eq, (cmpZ_r _ _).1, (cmpZ_r _ _).2⟩
  clear ez1
  refine x_if_lt (tgt := 26) hx hb (by omega) dX8_thingNumbered_3 (by decide) (fun c2 => ?_) (fun c2 => ?_)
  · replace c2 := cz_ltT gz1 c2
    clear gz1
    refine lv_null hx hb dX8_thingNumbered_26 ?_
    rw [hQ9]
    refine ret_n (mc := 0) (ms := 0) hx hb hr hlocks hw hS (by first | exact Nat.le_of_ble_eq_true rfl | omega) (by first | exact Nat.le_of_ble_eq_true rfl | omega) dX8_thingNumbered_27 ?_
    exact ⟨rfl, fun q e => (by cases e), fun _ q => by omega⟩
  · replace c2 := cz_ltF gz1 c2
    clear gz1
    refine lv_lload_n hx hb dX8_thingNumbered_6 rfl (lv_at hl 1 rfl) ?_
    refine lv_aload_n hx hb dX8_thingNumbered_7 rfl (lv_at hl 0 rfl) ?_
    refine x_geti (jz := 3) hx hb hf8 hw (by first | exact Int.le_refl 0 | omega) (by first | exact zlt hc0 | omega) sl_0_3 rfl lk94 dX8_thingNumbered_8 ?_
    have f3 : 0 ≤ X 0 0 3 ∧ X 0 0 3 ≤ 30 := hR 0 0 3
    refine x_i2l hx hb (by omega) dX8_thingNumbered_11 ?_
    refine x_lcmp hx hb (by omega) (by omega) dX8_thingNumbered_12 ?_
    obtain ⟨z4, ez4⟩ : ∃ y : Int, y = cmpZ x (X 0 0 3) := ⟨_, rfl⟩
    rw [← ez4]
    have gz4 : (z4 < 0 ↔ (x : Int) < (X 0 0 3)) ∧ (z4 = 0 ↔ (x : Int) = (X 0 0 3)) ∧ -1 ≤ z4 ∧ z4 ≤ 1 := by rw [ez4]; exact ⟨cmpZ_lt, cmpZ_eq, (cmpZ_r _ _).1, (cmpZ_r _ _).2⟩
    clear ez4
    refine x_if_ge (tgt := 26) hx hb (by omega) dX8_thingNumbered_13 (by decide) (fun c5 => ?_) (fun c5 => ?_)
    · replace c5 := cz_geT gz4 c5
      clear gz4
      refine lv_null hx hb dX8_thingNumbered_26 ?_
      rw [hQ9]
      refine ret_n (mc := 0) (ms := 0) hx hb hr hlocks hw hS (by first | exact Nat.le_of_ble_eq_true rfl | omega) (by first | exact Nat.le_of_ble_eq_true rfl | omega) dX8_thingNumbered_27 ?_
      exact ⟨rfl, fun q e => (by cases e), fun _ q => by omega⟩
    · replace c5 := cz_geF gz4 c5
      clear gz4
      refine lv_aload_n hx hb dX8_thingNumbered_16 rfl (lv_at hl 0 rfl) ?_
      refine x_geto hx hb hf8 hw (by first | exact Int.le_refl 0 | omega) (by first | exact zlt hc0 | omega) sl_0_2 lk17 dX8_thingNumbered_17 ?_
      refine lv_lload_n hx hb dX8_thingNumbered_20 rfl (lv_at hl 1 rfl) ?_
      refine x_l2i hx hb dX8_thingNumbered_21 ?_
      refine x_aald hx hb hK.1 hw (by first | exact Int.le_refl 0 | omega) (by first | exact zlt hc2 | omega) ar_2 rfl (len_E ar_2 (by first | exact Nat.ne_of_beq_eq_false rfl | decide)) (by omega) (by omega) (by omega) dX8_thingNumbered_22 (fun y6 => ?_) (fun r7 y6 gr7 lr7 => ?_)
      · exfalso
        have h9 := hCI.1 x (by omega) (by omega); rw [h9] at y6; cases y6
      · have er7 : r7 = x := by have h9 := hCI.1 x (by omega) (by omega); rw [h9] at y6; cases y6; rfl
        rw [er7]
        refine lv_goto (tgt := 27) hx hb dX8_thingNumbered_23 (by decide) ?_
        rw [hQ9]
        refine ret_r (mc := 0) (ms := 0) (k := 15) (i := x) hx hb hr hlocks hw hS (by first | exact Nat.le_of_ble_eq_true rfl | omega) (by first | exact Nat.le_of_ble_eq_true rfl | omega) dX8_thingNumbered_27 ?_
        exact ⟨rfl, fun q e => by cases e; exact ⟨by omega, by omega, by omega, by omega⟩, fun e => by cases e⟩
end
section
set_option maxHeartbeats 4000000 in
set_option maxRecDepth 100000 in
theorem c_X8_thingWithField (l : Launch) (D : va_G) (tc : Nat → ClassId) (base : Nat) (ad : Nat → Int → Nat) (cnt : Nat → Int) (X : Nat → Int → Int → Int) (Y : Nat → Int → Int → Option Int) (ln : Int → Int) (hR : Rng X) (hFx : Fx cnt) (hLn : LnOK ln) (hCI : CInv cnt X Y ln) (x k : Int) (hx : -2147483648 ≤ x ∧ x ≤ 2147483647) (hk : -2147483648 ≤ k ∧ k ≤ 2147483647) : KR l D tc base 15 yX8_thingWithField wsX8_thingWithField ({ frames := 2, cells := 0, slots := 0, locals := 42 } : Room) [.ref (ad 0 0), .int (jI x), .int (jI k)] (ad, cnt, X, Y, ln) 0 0 (fun o u => u = (ad, cnt, X, Y, ln) ∧ (∀ q, o = some q → q = x ∧ 0 ≤ x ∧ x < X 0 0 3 ∧ x ≤ 29 ∧ 0 ≤ k ∧ k ≤ 4 ∧ ∀ t, Y 15 x 0 = some t → k < X 19 t 1) ∧ (o = none → Hid (¬ (0 ≤ x ∧ x < X 0 0 3 ∧ 0 ≤ k ∧ k < X 19 (tyo (Y 15 x 0)) 1)))) := by
  refine K_of (cc := cX8_thingWithField) (maxL := 4) (ret := (some (.object "StateRecords$Thing"))) (by decide) rfl (Nat.le_of_ble_eq_true rfl) ?_
  intro p e s m below meth c ls hx hb hr hml hown hts hlocks hl hK hw hS
  have hown : s.vm.findClass RX8 = some m.cls := hown
  obtain ⟨av9, hav9⟩ : ∃ a9 : Array Value, a9 = ([.ref (ad 0 0), .int (jI x), .int (jI k)] : List Value).toArray := ⟨_, rfl⟩
  rw [← hav9] at hts ⊢
  obtain ⟨Q9, hQ9⟩ : ∃ q9Q : State → Prop, q9Q = MQ below (QR D tc base 15 (fun o u => u = (ad, cnt, X, Y, ln) ∧ (∀ q, o = some q → q = x ∧ 0 ≤ x ∧ x < X 0 0 3 ∧ x ≤ 29 ∧ 0 ≤ k ∧ k ≤ 4 ∧ ∀ t, Y 15 x 0 = some t → k < X 19 t 1) ∧ (o = none → Hid (¬ (0 ≤ x ∧ x < X 0 0 3 ∧ 0 ≤ k ∧ k < X 19 (tyo (Y 15 x 0)) 1))))) av9 s 0 0 (frA base) := ⟨_, rfl⟩
  rw [← hQ9]
  have hi6 : ∀ w ∈ wsX60, w ∈ wsX8_thingWithField := fun w h => List.mem_cons_of_mem _ (List.mem_append_left _ (List.mem_append_left _ (List.mem_append_right _ h)))
  have hf6 : fctx s m _ RX8 wsX8_thingWithField D tc RX6 TX6 4 6 := ⟨hts, hi6, hown, hK.1, rfl⟩
  have lk97 := hts (.fieldLink RX8 97 (TX6 0).1 (TX6 0).2.1 (TX6 0).2.2.1) (gj_X8_thingWithField_0 _ (gp_h))
  have hc0 : cnt 0 = 1 := hFx.at 0 1 (by decide)
  have hc15 : cnt 15 = 30 := hFx.at 15 30 (by decide)
  have hl : lv_has ls 4 [(0, .ref (ad 0 0)), (1, .int (jI x)), (2, .int (jI k))] := hl
  have ftc : 0 ≤ X 0 0 3 ∧ X 0 0 3 ≤ 30 := hR 0 0 3
  have fty : 0 ≤ X 0 0 1 ∧ X 0 0 1 ≤ 8 := hR 0 0 1
  have hct : cnt 19 = X 0 0 1 := hCI.2.2.2.1.1
  have hfj : 0 ≤ X 29 0 3 ∧ X 29 0 3 ≤ 4 := hR 29 0 3
  have hfn : 0 ≤ X 29 0 1 ∧ X 29 0 1 ≤ 80 := hR 29 0 1
  refine lv_aload_n hx hb dX8_thingWithField_0 rfl (lv_at hl 0 rfl) ?_
  refine lv_iload_n hx hb dX8_thingWithField_1 rfl (lv_at hl 1 rfl) ?_
  refine x_i2l hx hb (by omega) dX8_thingWithField_2 ?_
  refine gos_r (run_V (As := [.long (jL x)]) (rest := []) hx hb hml hown hts (c_X8_thingNumbered l D tc base ad cnt X Y ln hR hFx hLn hCI x (by omega)) (cwV 1 hts gX8_thingWithField_X8_thingNumbered rfl rfl rfl (by first | exact hd_X8_thingNumbered | decide +kernel) ⟨Nat.le_of_ble_eq_true rfl, Nat.le_of_ble_eq_true rfl⟩) hK hw (by first | exact Int.le_refl 0 | omega) (by first | exact zlt hc0 | omega) sl_0_0 rfl rfl hl.1 rfl (Nat.le_of_ble_eq_true rfl) dX8_thingWithField_3 ⟨Nat.le_of_ble_eq_true rfl, Nat.le_of_ble_eq_true rfl⟩) hS (fun u2 H locs p3 hw hS => ?_) (fun z1 u2 H locs p3 hw hS => ?_)
  · obtain ⟨eu2, hsp3, hnp3⟩ := p3
    subst eu2
    refine lv_astore_nN (lv' := [(3, .null), (0, .ref (ad 0 0)), (1, .int (jI x)), (2, .int (jI k))]) hx hb dX8_thingWithField_6 rfl hl (by decide) rfl (fun ls hl => ?_)
    refine lv_aload_nN hx hb dX8_thingWithField_7 rfl (lv_at hl 0 rfl) ?_
    refine lv_ifnullN (tgt := 26) hx hb dX8_thingWithField_8 (by decide) ?_
    refine lv_null hx hb dX8_thingWithField_26 ?_
    rw [hQ9]
    refine ret_n (mc := 0) (ms := 0) hx hb hr hlocks hw hS (by first | exact Nat.le_of_ble_eq_true rfl | omega) (by first | exact Nat.le_of_ble_eq_true rfl | omega) dX8_thingWithField_27 ?_
    exact ⟨rfl, fun q e => (by cases e), fun _ q => (by have h9n : ¬ (0 ≤ x ∧ x < X 0 0 3) := hnp3 rfl; omega)⟩
  · obtain ⟨eu2, hsp3, hnp3⟩ := p3
    subst eu2
    obtain ⟨ezz1, p3⟩ := hsp3 z1 rfl
    refine lv_astore_n (lv' := [(3, .ref (ad 15 z1)), (0, .ref (ad 0 0)), (1, .int (jI x)), (2, .int (jI k))]) hx hb dX8_thingWithField_6 rfl hl (by decide) rfl (fun ls hl => ?_)
    refine lv_aload_n hx hb dX8_thingWithField_7 rfl (lv_at hl 0 rfl) ?_
    refine lv_ifnull hx hb dX8_thingWithField_8 ?_
    refine lv_aload_n hx hb dX8_thingWithField_11 rfl (lv_at hl 0 rfl) ?_
    refine x_getr (jz := 0) hx hb hf6 hw (by omega) (by omega) sl_15_0 rfl lk97 dX8_thingWithField_12 (fun y4 => ?_) (fun r5 y4 gr5 lr5 => ?_)
    · exfalso
      exact absurd y4 (hCI.2.2.2.2.1 z1 (by omega) (by omega))
    · refine lv_iload_n hx hb dX8_thingWithField_15 rfl (lv_at hl 3 rfl) ?_
      refine gos_i (run_V (As := [.int (jI k)]) (rest := []) hx hb hml hown hts (c_X7_hasField l D tc base ad cnt X Y ln hR hFx hLn r5 k (by omega) (by omega)) (cwV 1 hts gX8_thingWithField_X7_hasField rfl rfl rfl (by first | exact hd_X7_hasField | decide +kernel) ⟨Nat.le_of_ble_eq_true rfl, Nat.le_of_ble_eq_true rfl⟩) hK hw (by first | exact Int.le_refl 0 | omega) (by first | exact zlt hc19 | omega) sl_19_0 rfl rfl hl.1 rfl (Nat.le_of_ble_eq_true rfl) dX8_thingWithField_16 ⟨Nat.le_of_ble_eq_true rfl, Nat.le_of_ble_eq_true rfl⟩) hS (fun z6 u7 H locs p8 hw hS => ?_)
      obtain ⟨eu7, p8⟩ := p8
      subst eu7
      rcases p8 with ⟨ez6, p8⟩ | ⟨ez6, p8⟩
      · subst ez6
        refine x_if_eqF (tgt := 26) hx hb (by omega) (by decide) dX8_thingWithField_19 (by decide) ?_
        refine lv_aload_n hx hb dX8_thingWithField_22 rfl (lv_at hl 0 rfl) ?_
        refine lv_goto (tgt := 27) hx hb dX8_thingWithField_23 (by decide) ?_
        rw [hQ9]
        refine ret_r (mc := 0) (ms := 0) (k := 15) (i := z1) hx hb hr hlocks hw hS (by first | exact Nat.le_of_ble_eq_true rfl | omega) (by first | exact Nat.le_of_ble_eq_true rfl | omega) dX8_thingWithField_27 ?_
        exact ⟨rfl, fun q e => by cases e; exact ⟨by omega, by omega, by omega, by omega, by omega, by omega, fun t ht => by rw [← ezz1, y4] at ht; cases ht; omega⟩, fun e => by cases e⟩
      · subst ez6
        refine x_if_eqT (tgt := 26) hx hb (by omega) (by decide) dX8_thingWithField_19 (by decide) ?_
        refine lv_null hx hb dX8_thingWithField_26 ?_
        rw [hQ9]
        refine ret_n (mc := 0) (ms := 0) hx hb hr hlocks hw hS (by first | exact Nat.le_of_ble_eq_true rfl | omega) (by first | exact Nat.le_of_ble_eq_true rfl | omega) dX8_thingWithField_27 ?_
        exact ⟨rfl, fun q e => (by cases e), fun _ q => (by have q4 := q.2.2.2; rw [← ezz1, tyo_some y4] at q4; (try delta Hid at *); omega)⟩

set_option maxHeartbeats 4000000 in
set_option maxRecDepth 100000 in
theorem c_X8_failureOfDivides (l : Launch) (D : va_G) (tc : Nat → ClassId) (base : Nat) (ad : Nat → Int → Nat) (cnt : Nat → Int) (X : Nat → Int → Int → Int) (Y : Nat → Int → Int → Option Int) (ln : Int → Int) (hR : Rng X) (hFx : Fx cnt) (hLn : LnOK ln) (hCI : CInv cnt X Y ln) (x g : Int) (hx0 : 0 ≤ x ∧ x ≤ 29) (hxt : x < X 0 0 3) (hg : 0 ≤ g ∧ g < cnt 25) : KI l D tc base yX8_failureOfDivides wsX8_failureOfDivides ({ frames := 3, cells := 0, slots := 0, locals := 64 } : Room) [.ref (ad 15 x), .ref (ad 25 g)] (ad, cnt, X, Y, ln) 0 0 (fun z u => u = (ad, cnt, X, Y, ln) ∧ (0 ≤ z ∧ z ≤ 10) ∧ (X 25 g 0 = 0 → z = ckC X Y ln x g)) := by
  refine K_of (cc := cX8_failureOfDivides) (maxL := 2) (ret := (some .int)) (by decide) rfl (Nat.le_of_ble_eq_true rfl) ?_
  intro p e s m below meth c ls hx hb hr hml hown hts hlocks hl hK hw hS
  have hown : s.vm.findClass RX8 = some m.cls := hown
  obtain ⟨av9, hav9⟩ : ∃ a9 : Array Value, a9 = ([.ref (ad 15 x), .ref (ad 25 g)] : List Value).toArray := ⟨_, rfl⟩
  rw [← hav9] at hts ⊢
  obtain ⟨Q9, hQ9⟩ : ∃ q9Q : State → Prop, q9Q = MQ below (QI D tc base (fun z u => u = (ad, cnt, X, Y, ln) ∧ (0 ≤ z ∧ z ≤ 10) ∧ (X 25 g 0 = 0 → z = ckC X Y ln x g))) av9 s 0 0 (frA base) := ⟨_, rfl⟩
  rw [← hQ9]
  have hi0 : ∀ w ∈ wsX00, w ∈ wsX8_failureOfDivides := fun w h => List.mem_cons_of_mem _ (List.mem_append_left _ (List.mem_append_right _ h))
  have hf0 : fctx s m _ RX8 wsX8_failureOfDivides D tc RX0 TX0 4 0 := ⟨hts, hi0, hown, hK.1, rfl⟩
  have hi6 : ∀ w ∈ wsX60, w ∈ wsX8_failureOfDivides := fun w h => List.mem_cons_of_mem _ (List.mem_append_left _ (List.mem_append_left _ (List.mem_append_right _ h)))
  have hf6 : fctx s m _ RX8 wsX8_failureOfDivides D tc RX6 TX6 4 6 := ⟨hts, hi6, hown, hK.1, rfl⟩
  have lk97 := hts (.fieldLink RX8 97 (TX6 0).1 (TX6 0).2.1 (TX6 0).2.2.1) (gj_X8_failureOfDivides_0 _ (gp_h))
  have lk193 := hts (.fieldLink RX8 193 (TX6 1).1 (TX6 1).2.1 (TX6 1).2.2.1) (gj_X8_failureOfDivides_0 _ (gp_1 (gp_1 (gp_1 gp_h))))
  have lk302 := hts (.fieldLink RX8 302 (TX0 1).1 (TX0 1).2.1 (TX0 1).2.2.1) (gj_X8_failureOfDivides_0 _ (gp_1 gp_h))
  have lk308 := hts (.fieldLink RX8 308 (TX0 2).1 (TX0 2).2.1 (TX0 2).2.2.1) (gj_X8_failureOfDivides_0 _ (gp_1 (gp_1 gp_h)))
  have hc15 : cnt 15 = 30 := hFx.at 15 30 (by decide)
  have hc16 : cnt 16 = 30 := hFx.at 16 30 (by decide)
  have hc27 : cnt 27 = cnt 26 := hFx.2.2
  have hl : lv_has ls 2 [(0, .ref (ad 15 x)), (1, .ref (ad 25 g))] := hl
  have ftc : 0 ≤ X 0 0 3 ∧ X 0 0 3 ≤ 30 := hR 0 0 3
  have fty : 0 ≤ X 0 0 1 ∧ X 0 0 1 ≤ 8 := hR 0 0 1
  have hct : cnt 19 = X 0 0 1 := hCI.2.2.2.1.1
  have hfj : 0 ≤ X 29 0 3 ∧ X 29 0 3 ≤ 4 := hR 29 0 3
  have hfn : 0 ≤ X 29 0 1 ∧ X 29 0 1 ≤ 80 := hR 29 0 1
  have fka : 0 ≤ X 25 g 1 ∧ X 25 g 1 ≤ 4 := hR 25 g 1
  have fkb : 0 ≤ X 25 g 2 ∧ X 25 g 2 ≤ 4 := hR 25 g 2
  have fkk : 0 ≤ X 25 g 0 ∧ X 25 g 0 ≤ 5 := hR 25 g 0
  refine lv_aload_n hx hb dX8_failureOfDivides_0 rfl (lv_at hl 0 rfl) ?_
  refine x_getr (jz := 0) hx hb hf6 hw (by omega) (by omega) sl_15_0 rfl lk97 dX8_failureOfDivides_1 (fun y1 => ?_) (fun r2 y1 gr2 lr2 => ?_)
  · exfalso
    exact absurd y1 (hCI.2.2.2.2.1 x (by omega) (by omega))
  · refine lv_aload_n hx hb dX8_failureOfDivides_4 rfl (lv_at hl 1 rfl) ?_
    refine x_geti (jz := 1) hx hb hf0 hw (by omega) (by omega) sl_25_1 rfl lk302 dX8_failureOfDivides_5 ?_
    have f3 : 0 ≤ X 25 g 1 ∧ X 25 g 1 ≤ 4 := hR 25 g 1
    refine lv_iconst (v := jI 0) hx hb dX8_failureOfDivides_8 rfl ?_
    refine gos_i (run_V (As := [.int (jI (X 25 g 1)), .int (jI 0)]) (rest := []) hx hb hml hown hts (c_X7_hasLane l D tc base ad cnt X Y ln hR hFx hLn r2 (X 25 g 1) 0 (by omega) (by omega) (by omega)) (cwV 2 hts gX8_failureOfDivides_X7_hasLane rfl rfl rfl (by first | exact hd_X7_hasLane | decide +kernel) ⟨Nat.le_of_ble_eq_true rfl, Nat.le_of_ble_eq_true rfl⟩) hK hw (by first | exact Int.le_refl 0 | omega) (by first | exact zlt hc19 | omega) sl_19_0 rfl rfl hl.1 rfl (Nat.le_of_ble_eq_true rfl) dX8_failureOfDivides_9 ⟨Nat.le_of_ble_eq_true rfl, Nat.le_of_ble_eq_true rfl⟩) hS (fun z4 u5 H locs p6 hw hS => ?_)
    obtain ⟨eu5, p6⟩ := p6
    subst eu5
    rcases p6 with ⟨ez4, p6⟩ | ⟨ez4, p6⟩
    · subst ez4
      refine x_if_eqF (tgt := 30) hx hb (by omega) (by decide) dX8_failureOfDivides_12 (by decide) ?_
      refine lv_aload_n hx hb dX8_failureOfDivides_15 rfl (lv_at hl 0 rfl) ?_
      refine x_getr (jz := 0) hx hb hf6 hw (by omega) (by omega) sl_15_0 rfl lk97 dX8_failureOfDivides_16 (fun y7 => ?_) (fun r8 y7 gr8 lr8 => ?_)
      · exfalso
        rw [y1] at y7; cases y7
      · have er8 : r8 = r2 := by rw [y1] at y7; cases y7; rfl
        rw [er8]
        refine lv_aload_n hx hb dX8_failureOfDivides_19 rfl (lv_at hl 1 rfl) ?_
        refine x_geti (jz := 2) hx hb hf0 hw (by omega) (by omega) sl_25_2 rfl lk308 dX8_failureOfDivides_20 ?_
        have f9 : 0 ≤ X 25 g 2 ∧ X 25 g 2 ≤ 4 := hR 25 g 2
        refine lv_iconst (v := jI 0) hx hb dX8_failureOfDivides_23 rfl ?_
        refine gos_i (run_V (As := [.int (jI (X 25 g 2)), .int (jI 0)]) (rest := []) hx hb hml hown hts (c_X7_hasLane l D tc base ad cnt X Y ln hR hFx hLn r2 (X 25 g 2) 0 (by omega) (by omega) (by omega)) (cwV 2 hts gX8_failureOfDivides_X7_hasLane rfl rfl rfl (by first | exact hd_X7_hasLane | decide +kernel) ⟨Nat.le_of_ble_eq_true rfl, Nat.le_of_ble_eq_true rfl⟩) hK hw (by first | exact Int.le_refl 0 | omega) (by first | exact zlt hc19 | omega) sl_19_0 rfl rfl hl.1 rfl (Nat.le_of_ble_eq_true rfl) dX8_failureOfDivides_24 ⟨Nat.le_of_ble_eq_true rfl, Nat.le_of_ble_eq_true rfl⟩) hS (fun z10 u11 H locs p12 hw hS => ?_)
        obtain ⟨eu11, p12⟩ := p12
        subst eu11
        rcases p12 with ⟨ez10, p12⟩ | ⟨ez10, p12⟩
        · subst ez10
          refine x_if_neT (tgt := 32) hx hb (by omega) (by decide) dX8_failureOfDivides_27 (by decide) ?_
          refine lv_aload_n hx hb dX8_failureOfDivides_32 rfl (lv_at hl 0 rfl) ?_
          refine x_geto hx hb hf6 hw (by omega) (by omega) sl_15_1 lk193 dX8_failureOfDivides_33 ?_
          refine lv_aload_n hx hb dX8_failureOfDivides_36 rfl (lv_at hl 1 rfl) ?_
          refine x_geti (jz := 2) hx hb hf0 hw (by omega) (by omega) sl_25_2 rfl lk308 dX8_failureOfDivides_37 ?_
          have f13 : 0 ≤ X 25 g 2 ∧ X 25 g 2 ≤ 4 := hR 25 g 2
          refine x_lald hx hb hK.1 hw (by omega) (by omega) ar_16 (len_E ar_16 (by first | exact Nat.ne_of_beq_eq_false rfl | decide)) (by omega) (by omega) (by omega) dX8_failureOfDivides_40 ?_
          have f14 : (-9223372036854775808) ≤ X 16 x (X 25 g 2) ∧ X 16 x (X 25 g 2) ≤ 9223372036854775807 := hR 16 x (X 25 g 2)
          refine lv_lconst (v := jL 0) hx hb dX8_failureOfDivides_41 (by decide) ?_
          refine x_lcmp hx hb (by omega) (by omega) dX8_failureOfDivides_42 ?_
          obtain ⟨z15, ez15⟩ : ∃ y : Int, y = cmpZ (X 16 x (X 25 g 2)) 0 := ⟨_, rfl⟩
          rw [← ez15]
          have gz15 : (z15 < 0 ↔ ((X 16 x (X 25 g 2)) : Int) < 0) ∧ (z15 = 0 ↔ ((X 16 x (X 25 g 2)) : Int) = 0) ∧ -1 ≤ z15 ∧ z15 ≤ 1 := by rw [ez15]; exact ⟨cmpZ_lt, cmpZ_eq, (cmpZ_r _ _).1, (cmpZ_r _ _).2⟩
          clear ez15
          refine x_if_ne (tgt := 50) hx hb (by omega) dX8_failureOfDivides_43 (by decide) (fun c16 => ?_) (fun c16 => ?_)
          · replace c16 := cz_neT gz15 c16
            clear gz15
            refine lv_iconst (v := jI 0) hx hb dX8_failureOfDivides_50 rfl ?_
            rw [hQ9]
            refine ret_i (mc := 0) (ms := 0) hx hb hr hlocks hw hS (by first | exact Nat.le_of_ble_eq_true rfl | omega) (by first | exact Nat.le_of_ble_eq_true rfl | omega) dX8_failureOfDivides_51 ?_
            exact ⟨rfl, by omega, fun hk9 => (by unfold ckC; rw [tyo_some y1]; rw [ckF_0 (by omega) (by (try delta Hid at *); omega)]; (repeat' split) <;> omega)⟩
          · replace c16 := cz_neF gz15 c16
            clear gz15
            refine lv_iconst (v := jI 5) hx hb dX8_failureOfDivides_46 rfl ?_
            refine lv_goto (tgt := 51) hx hb dX8_failureOfDivides_47 (by decide) ?_
            rw [hQ9]
            refine ret_i (mc := 0) (ms := 0) hx hb hr hlocks hw hS (by first | exact Nat.le_of_ble_eq_true rfl | omega) (by first | exact Nat.le_of_ble_eq_true rfl | omega) dX8_failureOfDivides_51 ?_
            exact ⟨rfl, by omega, fun hk9 => (by unfold ckC; rw [tyo_some y1]; rw [ckF_0 (by omega) (by (try delta Hid at *); omega)]; (repeat' split) <;> omega)⟩
        · subst ez10
          refine x_if_neF (tgt := 32) hx hb (by omega) (by decide) dX8_failureOfDivides_27 (by decide) ?_
          refine lv_iconst (v := jI 4) hx hb dX8_failureOfDivides_30 rfl ?_
          rw [hQ9]
          refine ret_i (mc := 0) (ms := 0) hx hb hr hlocks hw hS (by first | exact Nat.le_of_ble_eq_true rfl | omega) (by first | exact Nat.le_of_ble_eq_true rfl | omega) dX8_failureOfDivides_31 ?_
          exact ⟨rfl, by omega, fun hk9 => (by unfold ckC; rw [tyo_some y1]; rw [ckF_c ⟨by omega, by omega⟩ (by (try delta Hid at *); omega)])⟩
    · subst ez4
      refine x_if_eqT (tgt := 30) hx hb (by omega) (by decide) dX8_failureOfDivides_12 (by decide) ?_
      refine lv_iconst (v := jI 4) hx hb dX8_failureOfDivides_30 rfl ?_
      rw [hQ9]
      refine ret_i (mc := 0) (ms := 0) hx hb hr hlocks hw hS (by first | exact Nat.le_of_ble_eq_true rfl | omega) (by first | exact Nat.le_of_ble_eq_true rfl | omega) dX8_failureOfDivides_31 ?_
      exact ⟨rfl, by omega, fun hk9 => (by unfold ckC; rw [tyo_some y1]; rw [ckF_c ⟨by omega, by omega⟩ (by (try delta Hid at *); omega)])⟩

set_option maxHeartbeats 4000000 in
set_option maxRecDepth 100000 in
theorem c_X8_failureOfMeets (l : Launch) (D : va_G) (tc : Nat → ClassId) (base : Nat) (ad : Nat → Int → Nat) (cnt : Nat → Int) (X : Nat → Int → Int → Int) (Y : Nat → Int → Int → Option Int) (ln : Int → Int) (hR : Rng X) (hFx : Fx cnt) (hLn : LnOK ln) (hCI : CInv cnt X Y ln) (x g : Int) (hx0 : 0 ≤ x ∧ x ≤ 29) (hxt : x < X 0 0 3) (hg : 0 ≤ g ∧ g < cnt 25) : KI l D tc base yX8_failureOfMeets wsX8_failureOfMeets ({ frames := 3, cells := 0, slots := 0, locals := 64 } : Room) [.ref (ad 0 0), .ref (ad 15 x), .ref (ad 25 g)] (ad, cnt, X, Y, ln) 0 0 (fun z u => u = (ad, cnt, X, Y, ln) ∧ (0 ≤ z ∧ z ≤ 10) ∧ (X 25 g 0 = 1 → z = ckC X Y ln x g)) := by
  refine K_of (cc := cX8_failureOfMeets) (maxL := 4) (ret := (some .int)) (by decide) rfl (Nat.le_of_ble_eq_true rfl) ?_
  intro p e s m below meth c ls hx hb hr hml hown hts hlocks hl hK hw hS
  have hown : s.vm.findClass RX8 = some m.cls := hown
  obtain ⟨av9, hav9⟩ : ∃ a9 : Array Value, a9 = ([.ref (ad 0 0), .ref (ad 15 x), .ref (ad 25 g)] : List Value).toArray := ⟨_, rfl⟩
  rw [← hav9] at hts ⊢
  obtain ⟨Q9, hQ9⟩ : ∃ q9Q : State → Prop, q9Q = MQ below (QI D tc base (fun z u => u = (ad, cnt, X, Y, ln) ∧ (0 ≤ z ∧ z ≤ 10) ∧ (X 25 g 0 = 1 → z = ckC X Y ln x g))) av9 s 0 0 (frA base) := ⟨_, rfl⟩
  rw [← hQ9]
  have hi0 : ∀ w ∈ wsX00, w ∈ wsX8_failureOfMeets := fun w h => List.mem_cons_of_mem _ (List.mem_append_left _ (List.mem_append_left _ (List.mem_append_right _ h)))
  have hf0 : fctx s m _ RX8 wsX8_failureOfMeets D tc RX0 TX0 4 0 := ⟨hts, hi0, hown, hK.1, rfl⟩
  have hi6 : ∀ w ∈ wsX60, w ∈ wsX8_failureOfMeets := fun w h => List.mem_cons_of_mem _ (List.mem_append_left _ (List.mem_append_left _ (List.mem_append_left _ (List.mem_append_right _ h))))
  have hf6 : fctx s m _ RX8 wsX8_failureOfMeets D tc RX6 TX6 4 6 := ⟨hts, hi6, hown, hK.1, rfl⟩
  have hi7 : ∀ w ∈ wsX70, w ∈ wsX8_failureOfMeets := fun w h => List.mem_cons_of_mem _ (List.mem_append_left _ (List.mem_append_right _ h))
  have hf7 : fctx s m _ RX8 wsX8_failureOfMeets D tc RX7 TX7 8 7 := ⟨hts, hi7, hown, hK.1, rfl⟩
  have lk97 := hts (.fieldLink RX8 97 (TX6 0).1 (TX6 0).2.1 (TX6 0).2.2.1) (gj_X8_failureOfMeets_0 _ (gp_h))
  have lk193 := hts (.fieldLink RX8 193 (TX6 1).1 (TX6 1).2.1 (TX6 1).2.2.1) (gj_X8_failureOfMeets_0 _ (gp_1 (gp_1 gp_h)))
  have lk205 := hts (.fieldLink RX8 205 (TX7 0).1 (TX7 0).2.1 (TX7 0).2.2.1) (gj_X8_failureOfMeets_0 _ (gp_1 (gp_1 (gp_1 gp_h))))
  have lk302 := hts (.fieldLink RX8 302 (TX0 1).1 (TX0 1).2.1 (TX0 1).2.2.1) (gj_X8_failureOfMeets_0 _ (gp_1 gp_h))
  have lk311 := hts (.fieldLink RX8 311 (TX0 3).1 (TX0 3).2.1 (TX0 3).2.2.1) (gj_X8_failureOfMeets_0 _ (gp_4 gp_h))
  have hc0 : cnt 0 = 1 := hFx.at 0 1 (by decide)
  have hc15 : cnt 15 = 30 := hFx.at 15 30 (by decide)
  have hc16 : cnt 16 = 30 := hFx.at 16 30 (by decide)
  have hc27 : cnt 27 = cnt 26 := hFx.2.2
  have hl : lv_has ls 4 [(0, .ref (ad 0 0)), (1, .ref (ad 15 x)), (2, .ref (ad 25 g))] := hl
  have ftc : 0 ≤ X 0 0 3 ∧ X 0 0 3 ≤ 30 := hR 0 0 3
  have fty : 0 ≤ X 0 0 1 ∧ X 0 0 1 ≤ 8 := hR 0 0 1
  have hct : cnt 19 = X 0 0 1 := hCI.2.2.2.1.1
  have hfj : 0 ≤ X 29 0 3 ∧ X 29 0 3 ≤ 4 := hR 29 0 3
  have hfn : 0 ≤ X 29 0 1 ∧ X 29 0 1 ≤ 80 := hR 29 0 1
  have fka : 0 ≤ X 25 g 1 ∧ X 25 g 1 ≤ 4 := hR 25 g 1
  have fkb : 0 ≤ X 25 g 2 ∧ X 25 g 2 ≤ 4 := hR 25 g 2
  have fkk : 0 ≤ X 25 g 0 ∧ X 25 g 0 ≤ 5 := hR 25 g 0
  refine lv_aload_n hx hb dX8_failureOfMeets_0 rfl (lv_at hl 1 rfl) ?_
  refine x_getr (jz := 0) hx hb hf6 hw (by omega) (by omega) sl_15_0 rfl lk97 dX8_failureOfMeets_1 (fun y1 => ?_) (fun r2 y1 gr2 lr2 => ?_)
  · exfalso
    exact absurd y1 (hCI.2.2.2.2.1 x (by omega) (by omega))
  · refine lv_aload_n hx hb dX8_failureOfMeets_4 rfl (lv_at hl 2 rfl) ?_
    refine x_geti (jz := 1) hx hb hf0 hw (by omega) (by omega) sl_25_1 rfl lk302 dX8_failureOfMeets_5 ?_
    have f3 : 0 ≤ X 25 g 1 ∧ X 25 g 1 ≤ 4 := hR 25 g 1
    refine lv_iconst (v := jI 2) hx hb dX8_failureOfMeets_8 rfl ?_
    refine gos_i (run_V (As := [.int (jI (X 25 g 1)), .int (jI 2)]) (rest := []) hx hb hml hown hts (c_X7_hasLane l D tc base ad cnt X Y ln hR hFx hLn r2 (X 25 g 1) 2 (by omega) (by omega) (by omega)) (cwV 2 hts gX8_failureOfMeets_X7_hasLane rfl rfl rfl (by first | exact hd_X7_hasLane | decide +kernel) ⟨Nat.le_of_ble_eq_true rfl, Nat.le_of_ble_eq_true rfl⟩) hK hw (by first | exact Int.le_refl 0 | omega) (by first | exact zlt hc19 | omega) sl_19_0 rfl rfl hl.1 rfl (Nat.le_of_ble_eq_true rfl) dX8_failureOfMeets_9 ⟨Nat.le_of_ble_eq_true rfl, Nat.le_of_ble_eq_true rfl⟩) hS (fun z4 u5 H locs p6 hw hS => ?_)
    obtain ⟨eu5, p6⟩ := p6
    subst eu5
    rcases p6 with ⟨ez4, p6⟩ | ⟨ez4, p6⟩
    · subst ez4
      refine x_if_neT (tgt := 17) hx hb (by omega) (by decide) dX8_failureOfMeets_12 (by decide) ?_
      refine lv_aload_n hx hb dX8_failureOfMeets_17 rfl (lv_at hl 0 rfl) ?_
      refine lv_aload_n hx hb dX8_failureOfMeets_18 rfl (lv_at hl 1 rfl) ?_
      refine x_geto hx hb hf6 hw (by omega) (by omega) sl_15_1 lk193 dX8_failureOfMeets_19 ?_
      refine lv_aload_n hx hb dX8_failureOfMeets_22 rfl (lv_at hl 2 rfl) ?_
      refine x_geti (jz := 1) hx hb hf0 hw (by omega) (by omega) sl_25_1 rfl lk302 dX8_failureOfMeets_23 ?_
      have f7 : 0 ≤ X 25 g 1 ∧ X 25 g 1 ≤ 4 := hR 25 g 1
      refine x_lald hx hb hK.1 hw (by omega) (by omega) ar_16 (len_E ar_16 (by first | exact Nat.ne_of_beq_eq_false rfl | decide)) (by omega) (by omega) (by omega) dX8_failureOfMeets_26 ?_
      have f8 : (-9223372036854775808) ≤ X 16 x (X 25 g 1) ∧ X 16 x (X 25 g 1) ≤ 9223372036854775807 := hR 16 x (X 25 g 1)
      refine gos_r (run_V (As := [.long (jL (X 16 x (X 25 g 1)))]) (rest := []) hx hb hml hown hts (c_X8_thingNumbered l D tc base ad cnt X Y ln hR hFx hLn hCI (X 16 x (X 25 g 1)) (by omega)) (cwV 1 hts gX8_failureOfMeets_X8_thingNumbered rfl rfl rfl (by first | exact hd_X8_thingNumbered | decide +kernel) ⟨Nat.le_of_ble_eq_true rfl, Nat.le_of_ble_eq_true rfl⟩) hK hw (by first | exact Int.le_refl 0 | omega) (by first | exact zlt hc0 | omega) sl_0_0 rfl rfl hl.1 rfl (Nat.le_of_ble_eq_true rfl) dX8_failureOfMeets_27 ⟨Nat.le_of_ble_eq_true rfl, Nat.le_of_ble_eq_true rfl⟩) hS (fun u10 H locs p11 hw hS => ?_) (fun z9 u10 H locs p11 hw hS => ?_)
      · obtain ⟨eu10, hsp11, hnp11⟩ := p11
        subst eu10
        refine lv_astore_nN (lv' := [(3, .null), (0, .ref (ad 0 0)), (1, .ref (ad 15 x)), (2, .ref (ad 25 g))]) hx hb dX8_failureOfMeets_30 rfl hl (by decide) rfl (fun ls hl => ?_)
        refine lv_aload_nN hx hb dX8_failureOfMeets_31 rfl (lv_at hl 0 rfl) ?_
        refine lv_ifnonnullN hx hb dX8_failureOfMeets_32 ?_
        refine lv_iconst (v := jI 1) hx hb dX8_failureOfMeets_35 rfl ?_
        rw [hQ9]
        refine ret_i (mc := 0) (ms := 0) hx hb hr hlocks hw hS (by first | exact Nat.le_of_ble_eq_true rfl | omega) (by first | exact Nat.le_of_ble_eq_true rfl | omega) dX8_failureOfMeets_36 ?_
        exact ⟨rfl, by omega, fun hk9 => (by unfold ckC; rw [tyo_some y1]; rw [ckF_1 (by omega) (by (try delta Hid at *); omega)]; rw [if_neg (show ¬ (0 ≤ X 16 x (X 25 g 1) ∧ X 16 x (X 25 g 1) < X 0 0 3) from hnp11 rfl), if_pos (by omega)])⟩
      · obtain ⟨eu10, hsp11, hnp11⟩ := p11
        subst eu10
        obtain ⟨ezz9, p11⟩ := hsp11 z9 rfl
        refine lv_astore_n (lv' := [(3, .ref (ad 15 z9)), (0, .ref (ad 0 0)), (1, .ref (ad 15 x)), (2, .ref (ad 25 g))]) hx hb dX8_failureOfMeets_30 rfl hl (by decide) rfl (fun ls hl => ?_)
        refine lv_aload_n hx hb dX8_failureOfMeets_31 rfl (lv_at hl 0 rfl) ?_
        refine lv_ifnonnull (tgt := 37) hx hb dX8_failureOfMeets_32 (by decide) ?_
        refine lv_aload_n hx hb dX8_failureOfMeets_37 rfl (lv_at hl 0 rfl) ?_
        refine x_getr (jz := 0) hx hb hf6 hw (by omega) (by omega) sl_15_0 rfl lk97 dX8_failureOfMeets_38 (fun y12 => ?_) (fun r13 y12 gr13 lr13 => ?_)
        · exfalso
          exact absurd y12 (hCI.2.2.2.2.1 z9 (by omega) (by omega))
        · refine x_geti (jz := 0) hx hb hf7 hw (by omega) (by omega) sl_19_0 rfl lk205 dX8_failureOfMeets_41 ?_
          have f14 : 0 ≤ X 19 r13 0 ∧ X 19 r13 0 ≤ 7 := hR 19 r13 0
          refine x_i2l hx hb (by omega) dX8_failureOfMeets_44 ?_
          refine lv_aload_n hx hb dX8_failureOfMeets_45 rfl (lv_at hl 3 rfl) ?_
          refine x_getl (jz := 3) hx hb hf0 hw (by omega) (by omega) sl_25_3 rfl lk311 dX8_failureOfMeets_46 ?_
          have f15 : (-9223372036854775808) ≤ X 25 g 3 ∧ X 25 g 3 ≤ 9223372036854775807 := hR 25 g 3
          refine x_lcmp hx hb (by omega) (by omega) dX8_failureOfMeets_49 ?_
          obtain ⟨z16, ez16⟩ : ∃ y : Int, y = cmpZ (X 19 r13 0) (X 25 g 3) := ⟨_, rfl⟩
          rw [← ez16]
          have gz16 : (z16 < 0 ↔ ((X 19 r13 0) : Int) < (X 25 g 3)) ∧ (z16 = 0 ↔ ((X 19 r13 0) : Int) = (X 25 g 3)) ∧ -1 ≤ z16 ∧ z16 ≤ 1 := by rw [ez16]; exact ⟨cmpZ_lt, cmpZ_eq, (cmpZ_r _ _).1, (cmpZ_r _ _).2⟩
          clear ez16
          refine x_if_ne (tgt := 57) hx hb (by omega) dX8_failureOfMeets_50 (by decide) (fun c17 => ?_) (fun c17 => ?_)
          · replace c17 := cz_neT gz16 c17
            clear gz16
            refine lv_iconst (v := jI 4) hx hb dX8_failureOfMeets_57 rfl ?_
            rw [hQ9]
            refine ret_i (mc := 0) (ms := 0) hx hb hr hlocks hw hS (by first | exact Nat.le_of_ble_eq_true rfl | omega) (by first | exact Nat.le_of_ble_eq_true rfl | omega) dX8_failureOfMeets_58 ?_
            exact ⟨rfl, by omega, fun hk9 => (by unfold ckC; rw [tyo_some y1]; rw [ckF_1 (by omega) (by (try delta Hid at *); omega)]; have hmt : (if 0 ≤ X 16 x (X 25 g 1) ∧ X 16 x (X 25 g 1) < X 0 0 3 then X 19 (tyo (Y 15 (X 16 x (X 25 g 1)) 0)) 0 else -1) = X 19 r13 0 := (by rw [if_pos ⟨by omega, by omega⟩, ← ezz9, tyo_some y12]); rw [hmt]; (repeat' split) <;> omega)⟩
          · replace c17 := cz_neF gz16 c17
            clear gz16
            refine lv_iconst (v := jI 0) hx hb dX8_failureOfMeets_53 rfl ?_
            refine lv_goto (tgt := 58) hx hb dX8_failureOfMeets_54 (by decide) ?_
            rw [hQ9]
            refine ret_i (mc := 0) (ms := 0) hx hb hr hlocks hw hS (by first | exact Nat.le_of_ble_eq_true rfl | omega) (by first | exact Nat.le_of_ble_eq_true rfl | omega) dX8_failureOfMeets_58 ?_
            exact ⟨rfl, by omega, fun hk9 => (by unfold ckC; rw [tyo_some y1]; rw [ckF_1 (by omega) (by (try delta Hid at *); omega)]; have hmt : (if 0 ≤ X 16 x (X 25 g 1) ∧ X 16 x (X 25 g 1) < X 0 0 3 then X 19 (tyo (Y 15 (X 16 x (X 25 g 1)) 0)) 0 else -1) = X 19 r13 0 := (by rw [if_pos ⟨by omega, by omega⟩, ← ezz9, tyo_some y12]); rw [hmt]; (repeat' split) <;> omega)⟩
    · subst ez4
      refine x_if_neF (tgt := 17) hx hb (by omega) (by decide) dX8_failureOfMeets_12 (by decide) ?_
      refine lv_iconst (v := jI 4) hx hb dX8_failureOfMeets_15 rfl ?_
      rw [hQ9]
      refine ret_i (mc := 0) (ms := 0) hx hb hr hlocks hw hS (by first | exact Nat.le_of_ble_eq_true rfl | omega) (by first | exact Nat.le_of_ble_eq_true rfl | omega) dX8_failureOfMeets_16 ?_
      exact ⟨rfl, by omega, fun hk9 => (by unfold ckC; rw [tyo_some y1]; rw [ckF_c ⟨by omega, by omega⟩ (by (try delta Hid at *); omega)])⟩

set_option maxHeartbeats 4000000 in
set_option maxRecDepth 100000 in
theorem c_X8_failureOfHas (l : Launch) (D : va_G) (tc : Nat → ClassId) (base : Nat) (ad : Nat → Int → Nat) (cnt : Nat → Int) (X : Nat → Int → Int → Int) (Y : Nat → Int → Int → Option Int) (ln : Int → Int) (hR : Rng X) (hFx : Fx cnt) (hLn : LnOK ln) (hCI : CInv cnt X Y ln) (x g : Int) (hx0 : 0 ≤ x ∧ x ≤ 29) (hxt : x < X 0 0 3) (hg : 0 ≤ g ∧ g < cnt 25) : KI l D tc base yX8_failureOfHas wsX8_failureOfHas ({ frames := 3, cells := 0, slots := 0, locals := 64 } : Room) [.ref (ad 15 x), .ref (ad 25 g)] (ad, cnt, X, Y, ln) 0 0 (fun z u => u = (ad, cnt, X, Y, ln) ∧ (0 ≤ z ∧ z ≤ 10) ∧ (X 25 g 0 = 2 → z = ckC X Y ln x g)) := by
  refine K_of (cc := cX8_failureOfHas) (maxL := 5) (ret := (some .int)) (by decide) rfl (Nat.le_of_ble_eq_true rfl) ?_
  intro p e s m below meth c ls hx hb hr hml hown hts hlocks hl hK hw hS
  have hown : s.vm.findClass RX8 = some m.cls := hown
  obtain ⟨av9, hav9⟩ : ∃ a9 : Array Value, a9 = ([.ref (ad 15 x), .ref (ad 25 g)] : List Value).toArray := ⟨_, rfl⟩
  rw [← hav9] at hts ⊢
  obtain ⟨Q9, hQ9⟩ : ∃ q9Q : State → Prop, q9Q = MQ below (QI D tc base (fun z u => u = (ad, cnt, X, Y, ln) ∧ (0 ≤ z ∧ z ≤ 10) ∧ (X 25 g 0 = 2 → z = ckC X Y ln x g))) av9 s 0 0 (frA base) := ⟨_, rfl⟩
  rw [← hQ9]
  have hi0 : ∀ w ∈ wsX00, w ∈ wsX8_failureOfHas := fun w h => List.mem_cons_of_mem _ (List.mem_append_left _ (List.mem_append_left _ (List.mem_append_right _ h)))
  have hf0 : fctx s m _ RX8 wsX8_failureOfHas D tc RX0 TX0 4 0 := ⟨hts, hi0, hown, hK.1, rfl⟩
  have hi5 : ∀ w ∈ wsX50, w ∈ wsX8_failureOfHas := fun w h => List.mem_cons_of_mem _ (List.mem_append_left _ (List.mem_append_right _ h))
  have hf5 : fctx s m _ RX8 wsX8_failureOfHas D tc RX5 TX5 2 5 := ⟨hts, hi5, hown, hK.1, rfl⟩
  have hi6 : ∀ w ∈ wsX60, w ∈ wsX8_failureOfHas := fun w h => List.mem_cons_of_mem _ (List.mem_append_left _ (List.mem_append_left _ (List.mem_append_left _ (List.mem_append_right _ h))))
  have hf6 : fctx s m _ RX8 wsX8_failureOfHas D tc RX6 TX6 4 6 := ⟨hts, hi6, hown, hK.1, rfl⟩
  have lk97 := hts (.fieldLink RX8 97 (TX6 0).1 (TX6 0).2.1 (TX6 0).2.2.1) (gj_X8_failureOfHas_0 _ (gp_h))
  have lk158 := hts (.fieldLink RX8 158 (TX6 2).1 (TX6 2).2.1 (TX6 2).2.2.1) (gj_X8_failureOfHas_0 _ (gp_1 (gp_1 (gp_1 gp_h))))
  have lk161 := hts (.fieldLink RX8 161 (TX5 0).1 (TX5 0).2.1 (TX5 0).2.2.1) (gj_X8_failureOfHas_0 _ (gp_4 (gp_1 gp_h)))
  have lk193 := hts (.fieldLink RX8 193 (TX6 1).1 (TX6 1).2.1 (TX6 1).2.2.1) (gj_X8_failureOfHas_0 _ (gp_4 gp_h))
  have lk302 := hts (.fieldLink RX8 302 (TX0 1).1 (TX0 1).2.1 (TX0 1).2.2.1) (gj_X8_failureOfHas_0 _ (gp_1 gp_h))
  have lk308 := hts (.fieldLink RX8 308 (TX0 2).1 (TX0 2).2.1 (TX0 2).2.2.1) (gj_X8_failureOfHas_0 _ (gp_1 (gp_1 gp_h)))
  have lk311 := hts (.fieldLink RX8 311 (TX0 3).1 (TX0 3).2.1 (TX0 3).2.2.1) (gj_X8_failureOfHas_0 _ (gp_4 (gp_1 (gp_1 gp_h))))
  have hc15 : cnt 15 = 30 := hFx.at 15 30 (by decide)
  have hc16 : cnt 16 = 30 := hFx.at 16 30 (by decide)
  have hc17 : cnt 17 = 30 := hFx.at 17 30 (by decide)
  have hc27 : cnt 27 = cnt 26 := hFx.2.2
  have hl : lv_has ls 5 [(0, .ref (ad 15 x)), (1, .ref (ad 25 g))] := hl
  have ftc : 0 ≤ X 0 0 3 ∧ X 0 0 3 ≤ 30 := hR 0 0 3
  have fty : 0 ≤ X 0 0 1 ∧ X 0 0 1 ≤ 8 := hR 0 0 1
  have hct : cnt 19 = X 0 0 1 := hCI.2.2.2.1.1
  have hfj : 0 ≤ X 29 0 3 ∧ X 29 0 3 ≤ 4 := hR 29 0 3
  have hfn : 0 ≤ X 29 0 1 ∧ X 29 0 1 ≤ 80 := hR 29 0 1
  have fka : 0 ≤ X 25 g 1 ∧ X 25 g 1 ≤ 4 := hR 25 g 1
  have fkb : 0 ≤ X 25 g 2 ∧ X 25 g 2 ≤ 4 := hR 25 g 2
  have fkk : 0 ≤ X 25 g 0 ∧ X 25 g 0 ≤ 5 := hR 25 g 0
  refine lv_aload_n hx hb dX8_failureOfHas_0 rfl (lv_at hl 0 rfl) ?_
  refine x_getr (jz := 0) hx hb hf6 hw (by omega) (by omega) sl_15_0 rfl lk97 dX8_failureOfHas_1 (fun y1 => ?_) (fun r2 y1 gr2 lr2 => ?_)
  · exfalso
    exact absurd y1 (hCI.2.2.2.2.1 x (by omega) (by omega))
  · refine lv_aload_n hx hb dX8_failureOfHas_4 rfl (lv_at hl 1 rfl) ?_
    refine x_geti (jz := 1) hx hb hf0 hw (by omega) (by omega) sl_25_1 rfl lk302 dX8_failureOfHas_5 ?_
    have f3 : 0 ≤ X 25 g 1 ∧ X 25 g 1 ≤ 4 := hR 25 g 1
    refine gos_i (run_V (As := [.int (jI (X 25 g 1))]) (rest := []) hx hb hml hown hts (c_X7_hasRowLane l D tc base ad cnt X Y ln hR hFx hLn r2 (X 25 g 1) (by omega) (by omega)) (cwV 1 hts gX8_failureOfHas_X7_hasRowLane rfl rfl rfl (by first | exact hd_X7_hasRowLane | decide +kernel) ⟨Nat.le_of_ble_eq_true rfl, Nat.le_of_ble_eq_true rfl⟩) hK hw (by first | exact Int.le_refl 0 | omega) (by first | exact zlt hc19 | omega) sl_19_0 rfl rfl hl.1 rfl (Nat.le_of_ble_eq_true rfl) dX8_failureOfHas_8 ⟨Nat.le_of_ble_eq_true rfl, Nat.le_of_ble_eq_true rfl⟩) hS (fun z4 u5 H locs p6 hw hS => ?_)
    obtain ⟨eu5, p6⟩ := p6
    subst eu5
    rcases p6 with ⟨ez4, p6⟩ | ⟨ez4, p6⟩
    · subst ez4
      refine x_if_eqF (tgt := 29) hx hb (by omega) (by decide) dX8_failureOfHas_11 (by decide) ?_
      refine lv_aload_n hx hb dX8_failureOfHas_14 rfl (lv_at hl 0 rfl) ?_
      refine x_getr (jz := 0) hx hb hf6 hw (by omega) (by omega) sl_15_0 rfl lk97 dX8_failureOfHas_15 (fun y7 => ?_) (fun r8 y7 gr8 lr8 => ?_)
      · exfalso
        rw [y1] at y7; cases y7
      · have er8 : r8 = r2 := by rw [y1] at y7; cases y7; rfl
        rw [er8]
        refine lv_aload_n hx hb dX8_failureOfHas_18 rfl (lv_at hl 1 rfl) ?_
        refine x_geti (jz := 2) hx hb hf0 hw (by omega) (by omega) sl_25_2 rfl lk308 dX8_failureOfHas_19 ?_
        have f9 : 0 ≤ X 25 g 2 ∧ X 25 g 2 ≤ 4 := hR 25 g 2
        refine lv_iconst (v := jI 0) hx hb dX8_failureOfHas_22 rfl ?_
        refine gos_i (run_V (As := [.int (jI (X 25 g 2)), .int (jI 0)]) (rest := []) hx hb hml hown hts (c_X7_hasLane l D tc base ad cnt X Y ln hR hFx hLn r2 (X 25 g 2) 0 (by omega) (by omega) (by omega)) (cwV 2 hts gX8_failureOfHas_X7_hasLane rfl rfl rfl (by first | exact hd_X7_hasLane | decide +kernel) ⟨Nat.le_of_ble_eq_true rfl, Nat.le_of_ble_eq_true rfl⟩) hK hw (by first | exact Int.le_refl 0 | omega) (by first | exact zlt hc19 | omega) sl_19_0 rfl rfl hl.1 rfl (Nat.le_of_ble_eq_true rfl) dX8_failureOfHas_23 ⟨Nat.le_of_ble_eq_true rfl, Nat.le_of_ble_eq_true rfl⟩) hS (fun z10 u11 H locs p12 hw hS => ?_)
        obtain ⟨eu11, p12⟩ := p12
        subst eu11
        rcases p12 with ⟨ez10, p12⟩ | ⟨ez10, p12⟩
        · subst ez10
          refine x_if_neT (tgt := 31) hx hb (by omega) (by decide) dX8_failureOfHas_26 (by decide) ?_
          refine lv_aload_n hx hb dX8_failureOfHas_31 rfl (lv_at hl 0 rfl) ?_
          refine x_geto hx hb hf6 hw (by omega) (by omega) sl_15_2 lk158 dX8_failureOfHas_32 ?_
          refine lv_aload_n hx hb dX8_failureOfHas_35 rfl (lv_at hl 1 rfl) ?_
          refine x_geti (jz := 1) hx hb hf0 hw (by omega) (by omega) sl_25_1 rfl lk302 dX8_failureOfHas_36 ?_
          have f13 : 0 ≤ X 25 g 1 ∧ X 25 g 1 ≤ 4 := hR 25 g 1
          refine x_aald hx hb hK.1 hw (by omega) (by omega) ar_17 rfl (len_E ar_17 (by first | exact Nat.ne_of_beq_eq_false rfl | decide)) (by omega) (by omega) (by omega) dX8_failureOfHas_39 (fun y14 => ?_) (fun r15 y14 gr15 lr15 => ?_)
          · refine lv_astore_nN (lv' := [(2, .null), (0, .ref (ad 15 x)), (1, .ref (ad 25 g))]) hx hb dX8_failureOfHas_40 rfl hl (by decide) rfl (fun ls hl => ?_)
            refine lv_aload_nN hx hb dX8_failureOfHas_41 rfl (lv_at hl 0 rfl) ?_
            refine lv_ifnonnullN hx hb dX8_failureOfHas_42 ?_
            refine lv_iconst (v := jI 1) hx hb dX8_failureOfHas_45 rfl ?_
            rw [hQ9]
            refine ret_i (mc := 0) (ms := 0) hx hb hr hlocks hw hS (by first | exact Nat.le_of_ble_eq_true rfl | omega) (by first | exact Nat.le_of_ble_eq_true rfl | omega) dX8_failureOfHas_46 ?_
            exact ⟨rfl, by omega, fun hk9 => (by unfold ckC; rw [tyo_some y1]; rw [ckF_2 (by omega) (by (try delta Hid at *); omega)]; rw [y14, rlen_n, if_pos (by omega)])⟩
          · refine lv_astore_n (lv' := [(2, .ref (ad 26 r15)), (0, .ref (ad 15 x)), (1, .ref (ad 25 g))]) hx hb dX8_failureOfHas_40 rfl hl (by decide) rfl (fun ls hl => ?_)
            refine lv_aload_n hx hb dX8_failureOfHas_41 rfl (lv_at hl 0 rfl) ?_
            refine lv_ifnonnull (tgt := 47) hx hb dX8_failureOfHas_42 (by decide) ?_
            refine lv_aload_n hx hb dX8_failureOfHas_47 rfl (lv_at hl 1 rfl) ?_
            refine x_geto hx hb hf6 hw (by omega) (by omega) sl_15_1 lk193 dX8_failureOfHas_48 ?_
            refine lv_aload_n hx hb dX8_failureOfHas_51 rfl (lv_at hl 2 rfl) ?_
            refine x_geti (jz := 2) hx hb hf0 hw (by omega) (by omega) sl_25_2 rfl lk308 dX8_failureOfHas_52 ?_
            have f16 : 0 ≤ X 25 g 2 ∧ X 25 g 2 ≤ 4 := hR 25 g 2
            refine x_lald hx hb hK.1 hw (by omega) (by omega) ar_16 (len_E ar_16 (by first | exact Nat.ne_of_beq_eq_false rfl | decide)) (by omega) (by omega) (by omega) dX8_failureOfHas_55 ?_
            have f17 : (-9223372036854775808) ≤ X 16 x (X 25 g 2) ∧ X 16 x (X 25 g 2) ≤ 9223372036854775807 := hR 16 x (X 25 g 2)
            refine lv_lstore_n (lv' := [(3, .long (jL (X 16 x (X 25 g 2)))), (2, .ref (ad 26 r15)), (0, .ref (ad 15 x)), (1, .ref (ad 25 g))]) hx hb dX8_failureOfHas_56 rfl hl (by decide) rfl (fun ls hl => ?_)
            refine lv_lload_n hx hb dX8_failureOfHas_57 rfl (lv_at hl 0 rfl) ?_
            refine lv_lconst (v := jL 0) hx hb dX8_failureOfHas_58 (by decide) ?_
            refine x_lcmp hx hb (by omega) (by omega) dX8_failureOfHas_59 ?_
            obtain ⟨z18, ez18⟩ : ∃ y : Int, y = cmpZ (X 16 x (X 25 g 2)) 0 := ⟨_, rfl⟩
            rw [← ez18]
            have gz18 : (z18 < 0 ↔ ((X 16 x (X 25 g 2)) : Int) < 0) ∧ (z18 = 0 ↔ ((X 16 x (X 25 g 2)) : Int) = 0) ∧ -1 ≤ z18 ∧ z18 ≤ 1 := by rw [ez18]; exact ⟨cmpZ_lt, cmpZ_eq, (cmpZ_r _ _).1, (cmpZ_r _ _).2⟩
            clear ez18
            refine x_if_lt (tgt := 74) hx hb (by omega) dX8_failureOfHas_60 (by decide) (fun c19 => ?_) (fun c19 => ?_)
            · replace c19 := cz_ltT gz18 c19
              clear gz18
              refine lv_iconst (v := jI 2) hx hb dX8_failureOfHas_74 rfl ?_
              rw [hQ9]
              refine ret_i (mc := 0) (ms := 0) hx hb hr hlocks hw hS (by first | exact Nat.le_of_ble_eq_true rfl | omega) (by first | exact Nat.le_of_ble_eq_true rfl | omega) dX8_failureOfHas_75 ?_
              exact ⟨rfl, by omega, fun hk9 => (by unfold ckC; rw [tyo_some y1]; have fl9 := hLn r15; rw [ckF_2 (by omega) (by (try delta Hid at *); omega)]; rw [y14, rlen_s, tyo_s]; (repeat' split) <;> omega)⟩
            · replace c19 := cz_ltF gz18 c19
              clear gz18
              refine lv_lload_n hx hb dX8_failureOfHas_63 rfl (lv_at hl 0 rfl) ?_
              refine lv_aload_n hx hb dX8_failureOfHas_64 rfl (lv_at hl 1 rfl) ?_
              refine x_geto hx hb hf5 hw (by omega) (by omega) sl_26_0 lk161 dX8_failureOfHas_65 ?_
              have f20 : 0 ≤ ln r15 ∧ ln r15 ≤ 12 := hLn r15
              refine x_alenl hx hb hK.1 hw (by omega) (by omega) ar_27 (show lenE ln 27 r15 = ln r15 from rfl) (by omega) dX8_failureOfHas_68 ?_
              refine x_i2l hx hb (by omega) dX8_failureOfHas_69 ?_
              refine x_lcmp hx hb (by omega) (by omega) dX8_failureOfHas_70 ?_
              obtain ⟨z21, ez21⟩ : ∃ y : Int, y = cmpZ (X 16 x (X 25 g 2)) (ln r15) := ⟨_, rfl⟩
              rw [← ez21]
              have gz21 : (z21 < 0 ↔ ((X 16 x (X 25 g 2)) : Int) < (ln r15)) ∧ (z21 = 0 ↔ ((X 16 x (X 25 g 2)) : Int) = (ln r15)) ∧ -1 ≤ z21 ∧ z21 ≤ 1 := by rw [ez21]; exact ⟨cmpZ_lt, cmpZ_eq, (cmpZ_r _ _).1, (cmpZ_r _ _).2⟩
              clear ez21
              refine x_if_lt (tgt := 76) hx hb (by omega) dX8_failureOfHas_71 (by decide) (fun c22 => ?_) (fun c22 => ?_)
              · replace c22 := cz_ltT gz21 c22
                clear gz21
                refine lv_aload_n hx hb dX8_failureOfHas_76 rfl (lv_at hl 1 rfl) ?_
                refine x_geto hx hb hf5 hw (by omega) (by omega) sl_26_0 lk161 dX8_failureOfHas_77 ?_
                refine lv_lload_n hx hb dX8_failureOfHas_80 rfl (lv_at hl 0 rfl) ?_
                refine x_l2i hx hb dX8_failureOfHas_81 ?_
                have f23 : 0 ≤ ln r15 ∧ ln r15 ≤ 12 := hLn r15
                refine x_lald hx hb hK.1 hw (by omega) (by omega) ar_27 (show lenE ln 27 r15 = ln r15 from rfl) (by omega) (by omega) (by omega) dX8_failureOfHas_82 ?_
                have f24 : (-9223372036854775808) ≤ X 27 r15 (X 16 x (X 25 g 2)) ∧ X 27 r15 (X 16 x (X 25 g 2)) ≤ 9223372036854775807 := hR 27 r15 (X 16 x (X 25 g 2))
                refine lv_aload_n hx hb dX8_failureOfHas_83 rfl (lv_at hl 3 rfl) ?_
                refine x_getl (jz := 3) hx hb hf0 hw (by omega) (by omega) sl_25_3 rfl lk311 dX8_failureOfHas_84 ?_
                have f25 : (-9223372036854775808) ≤ X 25 g 3 ∧ X 25 g 3 ≤ 9223372036854775807 := hR 25 g 3
                refine x_lcmp hx hb (by omega) (by omega) dX8_failureOfHas_87 ?_
                obtain ⟨z26, ez26⟩ : ∃ y : Int, y = cmpZ (X 27 r15 (X 16 x (X 25 g 2))) (X 25 g 3) := ⟨_, rfl⟩
                rw [← ez26]
                have gz26 : (z26 < 0 ↔ ((X 27 r15 (X 16 x (X 25 g 2))) : Int) < (X 25 g 3)) ∧ (z26 = 0 ↔ ((X 27 r15 (X 16 x (X 25 g 2))) : Int) = (X 25 g 3)) ∧ -1 ≤ z26 ∧ z26 ≤ 1 := by rw [ez26]; exact ⟨cmpZ_lt, cmpZ_eq, (cmpZ_r _ _).1, (cmpZ_r _ _).2⟩
                clear ez26
                refine x_if_le (tgt := 95) hx hb (by omega) dX8_failureOfHas_88 (by decide) (fun c27 => ?_) (fun c27 => ?_)
                · replace c27 := cz_leT gz26 c27
                  clear gz26
                  refine lv_bipush (v := jI 6) hx hb dX8_failureOfHas_95 (by decide) ?_
                  rw [hQ9]
                  refine ret_i (mc := 0) (ms := 0) hx hb hr hlocks hw hS (by first | exact Nat.le_of_ble_eq_true rfl | omega) (by first | exact Nat.le_of_ble_eq_true rfl | omega) dX8_failureOfHas_97 ?_
                  exact ⟨rfl, by omega, fun hk9 => (by unfold ckC; rw [tyo_some y1]; have fl9 := hLn r15; rw [ckF_2 (by omega) (by (try delta Hid at *); omega)]; rw [y14, rlen_s, tyo_s]; (repeat' split) <;> omega)⟩
                · replace c27 := cz_leF gz26 c27
                  clear gz26
                  refine lv_iconst (v := jI 0) hx hb dX8_failureOfHas_91 rfl ?_
                  refine lv_goto (tgt := 97) hx hb dX8_failureOfHas_92 (by decide) ?_
                  rw [hQ9]
                  refine ret_i (mc := 0) (ms := 0) hx hb hr hlocks hw hS (by first | exact Nat.le_of_ble_eq_true rfl | omega) (by first | exact Nat.le_of_ble_eq_true rfl | omega) dX8_failureOfHas_97 ?_
                  exact ⟨rfl, by omega, fun hk9 => (by unfold ckC; rw [tyo_some y1]; have fl9 := hLn r15; rw [ckF_2 (by omega) (by (try delta Hid at *); omega)]; rw [y14, rlen_s, tyo_s]; (repeat' split) <;> omega)⟩
              · replace c22 := cz_ltF gz21 c22
                clear gz21
                refine lv_iconst (v := jI 2) hx hb dX8_failureOfHas_74 rfl ?_
                rw [hQ9]
                refine ret_i (mc := 0) (ms := 0) hx hb hr hlocks hw hS (by first | exact Nat.le_of_ble_eq_true rfl | omega) (by first | exact Nat.le_of_ble_eq_true rfl | omega) dX8_failureOfHas_75 ?_
                exact ⟨rfl, by omega, fun hk9 => (by unfold ckC; rw [tyo_some y1]; have fl9 := hLn r15; rw [ckF_2 (by omega) (by (try delta Hid at *); omega)]; rw [y14, rlen_s, tyo_s]; (repeat' split) <;> omega)⟩
        · subst ez10
          refine x_if_neF (tgt := 31) hx hb (by omega) (by decide) dX8_failureOfHas_26 (by decide) ?_
          refine lv_iconst (v := jI 4) hx hb dX8_failureOfHas_29 rfl ?_
          rw [hQ9]
          refine ret_i (mc := 0) (ms := 0) hx hb hr hlocks hw hS (by first | exact Nat.le_of_ble_eq_true rfl | omega) (by first | exact Nat.le_of_ble_eq_true rfl | omega) dX8_failureOfHas_30 ?_
          exact ⟨rfl, by omega, fun hk9 => (by unfold ckC; rw [tyo_some y1]; rw [ckF_c ⟨by omega, by omega⟩ (by (try delta Hid at *); omega)])⟩
    · subst ez4
      refine x_if_eqT (tgt := 29) hx hb (by omega) (by decide) dX8_failureOfHas_11 (by decide) ?_
      refine lv_iconst (v := jI 4) hx hb dX8_failureOfHas_29 rfl ?_
      rw [hQ9]
      refine ret_i (mc := 0) (ms := 0) hx hb hr hlocks hw hS (by first | exact Nat.le_of_ble_eq_true rfl | omega) (by first | exact Nat.le_of_ble_eq_true rfl | omega) dX8_failureOfHas_30 ?_
      exact ⟨rfl, by omega, fun hk9 => (by unfold ckC; rw [tyo_some y1]; rw [ckF_c ⟨by omega, by omega⟩ (by (try delta Hid at *); omega)])⟩

set_option maxHeartbeats 4000000 in
set_option maxRecDepth 100000 in
theorem c_X8_failureOfHolds (l : Launch) (D : va_G) (tc : Nat → ClassId) (base : Nat) (ad : Nat → Int → Nat) (cnt : Nat → Int) (X : Nat → Int → Int → Int) (Y : Nat → Int → Int → Option Int) (ln : Int → Int) (hR : Rng X) (hFx : Fx cnt) (hLn : LnOK ln) (hCI : CInv cnt X Y ln) (x g : Int) (hx0 : 0 ≤ x ∧ x ≤ 29) (hxt : x < X 0 0 3) (hg : 0 ≤ g ∧ g < cnt 25) : KI l D tc base yX8_failureOfHolds wsX8_failureOfHolds ({ frames := 3, cells := 0, slots := 0, locals := 64 } : Room) [.ref (ad 15 x), .ref (ad 25 g)] (ad, cnt, X, Y, ln) 0 0 (fun z u => u = (ad, cnt, X, Y, ln) ∧ (0 ≤ z ∧ z ≤ 10) ∧ (X 25 g 0 = 3 → z = ckC X Y ln x g)) := by
  refine K_of (cc := cX8_failureOfHolds) (maxL := 4) (ret := (some .int)) (by decide) rfl (Nat.le_of_ble_eq_true rfl) ?_
  intro p e s m below meth c ls hx hb hr hml hown hts hlocks hl hK hw hS
  have hown : s.vm.findClass RX8 = some m.cls := hown
  obtain ⟨av9, hav9⟩ : ∃ a9 : Array Value, a9 = ([.ref (ad 15 x), .ref (ad 25 g)] : List Value).toArray := ⟨_, rfl⟩
  rw [← hav9] at hts ⊢
  obtain ⟨Q9, hQ9⟩ : ∃ q9Q : State → Prop, q9Q = MQ below (QI D tc base (fun z u => u = (ad, cnt, X, Y, ln) ∧ (0 ≤ z ∧ z ≤ 10) ∧ (X 25 g 0 = 3 → z = ckC X Y ln x g))) av9 s 0 0 (frA base) := ⟨_, rfl⟩
  rw [← hQ9]
  have hi0 : ∀ w ∈ wsX00, w ∈ wsX8_failureOfHolds := fun w h => List.mem_cons_of_mem _ (List.mem_append_left _ (List.mem_append_right _ h))
  have hf0 : fctx s m _ RX8 wsX8_failureOfHolds D tc RX0 TX0 4 0 := ⟨hts, hi0, hown, hK.1, rfl⟩
  have hi6 : ∀ w ∈ wsX60, w ∈ wsX8_failureOfHolds := fun w h => List.mem_cons_of_mem _ (List.mem_append_left _ (List.mem_append_left _ (List.mem_append_right _ h)))
  have hf6 : fctx s m _ RX8 wsX8_failureOfHolds D tc RX6 TX6 4 6 := ⟨hts, hi6, hown, hK.1, rfl⟩
  have lk97 := hts (.fieldLink RX8 97 (TX6 0).1 (TX6 0).2.1 (TX6 0).2.2.1) (gj_X8_failureOfHolds_0 _ (gp_h))
  have lk193 := hts (.fieldLink RX8 193 (TX6 1).1 (TX6 1).2.1 (TX6 1).2.2.1) (gj_X8_failureOfHolds_0 _ (gp_1 (gp_1 gp_h)))
  have lk302 := hts (.fieldLink RX8 302 (TX0 1).1 (TX0 1).2.1 (TX0 1).2.2.1) (gj_X8_failureOfHolds_0 _ (gp_1 gp_h))
  have hc15 : cnt 15 = 30 := hFx.at 15 30 (by decide)
  have hc16 : cnt 16 = 30 := hFx.at 16 30 (by decide)
  have hc27 : cnt 27 = cnt 26 := hFx.2.2
  have hl : lv_has ls 4 [(0, .ref (ad 15 x)), (1, .ref (ad 25 g))] := hl
  have ftc : 0 ≤ X 0 0 3 ∧ X 0 0 3 ≤ 30 := hR 0 0 3
  have fty : 0 ≤ X 0 0 1 ∧ X 0 0 1 ≤ 8 := hR 0 0 1
  have hct : cnt 19 = X 0 0 1 := hCI.2.2.2.1.1
  have hfj : 0 ≤ X 29 0 3 ∧ X 29 0 3 ≤ 4 := hR 29 0 3
  have hfn : 0 ≤ X 29 0 1 ∧ X 29 0 1 ≤ 80 := hR 29 0 1
  have fka : 0 ≤ X 25 g 1 ∧ X 25 g 1 ≤ 4 := hR 25 g 1
  have fkb : 0 ≤ X 25 g 2 ∧ X 25 g 2 ≤ 4 := hR 25 g 2
  have fkk : 0 ≤ X 25 g 0 ∧ X 25 g 0 ≤ 5 := hR 25 g 0
  refine lv_aload_n hx hb dX8_failureOfHolds_0 rfl (lv_at hl 0 rfl) ?_
  refine x_getr (jz := 0) hx hb hf6 hw (by omega) (by omega) sl_15_0 rfl lk97 dX8_failureOfHolds_1 (fun y1 => ?_) (fun r2 y1 gr2 lr2 => ?_)
  · exfalso
    exact absurd y1 (hCI.2.2.2.2.1 x (by omega) (by omega))
  · refine lv_aload_n hx hb dX8_failureOfHolds_4 rfl (lv_at hl 1 rfl) ?_
    refine x_geti (jz := 1) hx hb hf0 hw (by omega) (by omega) sl_25_1 rfl lk302 dX8_failureOfHolds_5 ?_
    have f3 : 0 ≤ X 25 g 1 ∧ X 25 g 1 ≤ 4 := hR 25 g 1
    refine lv_iconst (v := jI 0) hx hb dX8_failureOfHolds_8 rfl ?_
    refine gos_i (run_V (As := [.int (jI (X 25 g 1)), .int (jI 0)]) (rest := []) hx hb hml hown hts (c_X7_hasLane l D tc base ad cnt X Y ln hR hFx hLn r2 (X 25 g 1) 0 (by omega) (by omega) (by omega)) (cwV 2 hts gX8_failureOfHolds_X7_hasLane rfl rfl rfl (by first | exact hd_X7_hasLane | decide +kernel) ⟨Nat.le_of_ble_eq_true rfl, Nat.le_of_ble_eq_true rfl⟩) hK hw (by first | exact Int.le_refl 0 | omega) (by first | exact zlt hc19 | omega) sl_19_0 rfl rfl hl.1 rfl (Nat.le_of_ble_eq_true rfl) dX8_failureOfHolds_9 ⟨Nat.le_of_ble_eq_true rfl, Nat.le_of_ble_eq_true rfl⟩) hS (fun z4 u5 H locs p6 hw hS => ?_)
    obtain ⟨eu5, p6⟩ := p6
    subst eu5
    rcases p6 with ⟨ez4, p6⟩ | ⟨ez4, p6⟩
    · subst ez4
      refine x_if_neT (tgt := 17) hx hb (by omega) (by decide) dX8_failureOfHolds_12 (by decide) ?_
      refine lv_aload_n hx hb dX8_failureOfHolds_17 rfl (lv_at hl 0 rfl) ?_
      refine x_geto hx hb hf6 hw (by omega) (by omega) sl_15_1 lk193 dX8_failureOfHolds_18 ?_
      refine lv_aload_n hx hb dX8_failureOfHolds_21 rfl (lv_at hl 1 rfl) ?_
      refine x_geti (jz := 1) hx hb hf0 hw (by omega) (by omega) sl_25_1 rfl lk302 dX8_failureOfHolds_22 ?_
      have f7 : 0 ≤ X 25 g 1 ∧ X 25 g 1 ≤ 4 := hR 25 g 1
      refine x_lald hx hb hK.1 hw (by omega) (by omega) ar_16 (len_E ar_16 (by first | exact Nat.ne_of_beq_eq_false rfl | decide)) (by omega) (by omega) (by omega) dX8_failureOfHolds_25 ?_
      have f8 : (-9223372036854775808) ≤ X 16 x (X 25 g 1) ∧ X 16 x (X 25 g 1) ≤ 9223372036854775807 := hR 16 x (X 25 g 1)
      refine lv_lstore_n (lv' := [(2, .long (jL (X 16 x (X 25 g 1)))), (0, .ref (ad 15 x)), (1, .ref (ad 25 g))]) hx hb dX8_failureOfHolds_26 rfl hl (by decide) rfl (fun ls hl => ?_)
      refine lv_lload_n hx hb dX8_failureOfHolds_27 rfl (lv_at hl 0 rfl) ?_
      refine lv_ldc2 (v := jL 12) hx hb hown (hts (.constantLong RX8 318 (12)) (by first | exact gj_X8_failureOfHolds_0 _ (gp_1 (gp_1 (gp_1 gp_h))) | decide +kernel)) dX8_failureOfHolds_28 ?_
      refine x_lcmp hx hb (by omega) (by omega) dX8_failureOfHolds_31 ?_
      obtain ⟨z9, ez9⟩ : ∃ y : Int, y = cmpZ (X 16 x (X 25 g 1)) 12 := ⟨_, rfl⟩
      rw [← ez9]
      have gz9 : (z9 < 0 ↔ ((X 16 x (X 25 g 1)) : Int) < 12) ∧ (z9 = 0 ↔ ((X 16 x (X 25 g 1)) : Int) = 12) ∧ -1 ≤ z9 ∧ z9 ≤ 1 := by rw [ez9]; exact ⟨cmpZ_lt, cmpZ_eq, (cmpZ_r _ _).1, (cmpZ_r _ _).2⟩
      clear ez9
      refine x_if_le (tgt := 38) hx hb (by omega) dX8_failureOfHolds_32 (by decide) (fun c10 => ?_) (fun c10 => ?_)
      · replace c10 := cz_leT gz9 c10
        clear gz9
        refine lv_lload_n hx hb dX8_failureOfHolds_38 rfl (lv_at hl 0 rfl) ?_
        refine lv_lconst (v := jL 0) hx hb dX8_failureOfHolds_39 (by decide) ?_
        refine x_lcmp hx hb (by omega) (by omega) dX8_failureOfHolds_40 ?_
        obtain ⟨z11, ez11⟩ : ∃ y : Int, y = cmpZ (X 16 x (X 25 g 1)) 0 := ⟨_, rfl⟩
        rw [← ez11]
        have gz11 : (z11 < 0 ↔ ((X 16 x (X 25 g 1)) : Int) < 0) ∧ (z11 = 0 ↔ ((X 16 x (X 25 g 1)) : Int) = 0) ∧ -1 ≤ z11 ∧ z11 ≤ 1 := by rw [ez11]; exact ⟨cmpZ_lt, cmpZ_eq, (cmpZ_r _ _).1, (cmpZ_r _ _).2⟩
        clear ez11
        refine x_if_ge (tgt := 48) hx hb (by omega) dX8_failureOfHolds_41 (by decide) (fun c12 => ?_) (fun c12 => ?_)
        · replace c12 := cz_geT gz11 c12
          clear gz11
          refine lv_iconst (v := jI 0) hx hb dX8_failureOfHolds_48 rfl ?_
          rw [hQ9]
          refine ret_i (mc := 0) (ms := 0) hx hb hr hlocks hw hS (by first | exact Nat.le_of_ble_eq_true rfl | omega) (by first | exact Nat.le_of_ble_eq_true rfl | omega) dX8_failureOfHolds_49 ?_
          exact ⟨rfl, by omega, fun hk9 => (by unfold ckC; rw [tyo_some y1]; rw [ckF_3 (by omega) (by (try delta Hid at *); omega)]; (repeat' split) <;> omega)⟩
        · replace c12 := cz_geF gz11 c12
          clear gz11
          refine lv_iconst (v := jI 3) hx hb dX8_failureOfHolds_44 rfl ?_
          refine lv_goto (tgt := 49) hx hb dX8_failureOfHolds_45 (by decide) ?_
          rw [hQ9]
          refine ret_i (mc := 0) (ms := 0) hx hb hr hlocks hw hS (by first | exact Nat.le_of_ble_eq_true rfl | omega) (by first | exact Nat.le_of_ble_eq_true rfl | omega) dX8_failureOfHolds_49 ?_
          exact ⟨rfl, by omega, fun hk9 => (by unfold ckC; rw [tyo_some y1]; rw [ckF_3 (by omega) (by (try delta Hid at *); omega)]; (repeat' split) <;> omega)⟩
      · replace c10 := cz_leF gz9 c10
        clear gz9
        refine lv_bipush (v := jI 6) hx hb dX8_failureOfHolds_35 (by decide) ?_
        rw [hQ9]
        refine ret_i (mc := 0) (ms := 0) hx hb hr hlocks hw hS (by first | exact Nat.le_of_ble_eq_true rfl | omega) (by first | exact Nat.le_of_ble_eq_true rfl | omega) dX8_failureOfHolds_37 ?_
        exact ⟨rfl, by omega, fun hk9 => (by unfold ckC; rw [tyo_some y1]; rw [ckF_3 (by omega) (by (try delta Hid at *); omega)]; (repeat' split) <;> omega)⟩
    · subst ez4
      refine x_if_neF (tgt := 17) hx hb (by omega) (by decide) dX8_failureOfHolds_12 (by decide) ?_
      refine lv_iconst (v := jI 4) hx hb dX8_failureOfHolds_15 rfl ?_
      rw [hQ9]
      refine ret_i (mc := 0) (ms := 0) hx hb hr hlocks hw hS (by first | exact Nat.le_of_ble_eq_true rfl | omega) (by first | exact Nat.le_of_ble_eq_true rfl | omega) dX8_failureOfHolds_16 ?_
      exact ⟨rfl, by omega, fun hk9 => (by unfold ckC; rw [tyo_some y1]; rw [ckF_c ⟨by omega, by omega⟩ (by (try delta Hid at *); omega)])⟩

set_option maxHeartbeats 4000000 in
set_option maxRecDepth 100000 in
theorem c_X8_failureOfLeast (l : Launch) (D : va_G) (tc : Nat → ClassId) (base : Nat) (ad : Nat → Int → Nat) (cnt : Nat → Int) (X : Nat → Int → Int → Int) (Y : Nat → Int → Int → Option Int) (ln : Int → Int) (hR : Rng X) (hFx : Fx cnt) (hLn : LnOK ln) (hCI : CInv cnt X Y ln) (x g : Int) (hx0 : 0 ≤ x ∧ x ≤ 29) (hxt : x < X 0 0 3) (hg : 0 ≤ g ∧ g < cnt 25) : KI l D tc base yX8_failureOfLeast wsX8_failureOfLeast ({ frames := 3, cells := 0, slots := 0, locals := 64 } : Room) [.ref (ad 15 x), .ref (ad 25 g)] (ad, cnt, X, Y, ln) 0 0 (fun z u => u = (ad, cnt, X, Y, ln) ∧ (0 ≤ z ∧ z ≤ 10) ∧ (X 25 g 0 = 4 → z = ckC X Y ln x g)) := by
  refine K_of (cc := cX8_failureOfLeast) (maxL := 2) (ret := (some .int)) (by decide) rfl (Nat.le_of_ble_eq_true rfl) ?_
  intro p e s m below meth c ls hx hb hr hml hown hts hlocks hl hK hw hS
  have hown : s.vm.findClass RX8 = some m.cls := hown
  obtain ⟨av9, hav9⟩ : ∃ a9 : Array Value, a9 = ([.ref (ad 15 x), .ref (ad 25 g)] : List Value).toArray := ⟨_, rfl⟩
  rw [← hav9] at hts ⊢
  obtain ⟨Q9, hQ9⟩ : ∃ q9Q : State → Prop, q9Q = MQ below (QI D tc base (fun z u => u = (ad, cnt, X, Y, ln) ∧ (0 ≤ z ∧ z ≤ 10) ∧ (X 25 g 0 = 4 → z = ckC X Y ln x g))) av9 s 0 0 (frA base) := ⟨_, rfl⟩
  rw [← hQ9]
  have hi0 : ∀ w ∈ wsX00, w ∈ wsX8_failureOfLeast := fun w h => List.mem_cons_of_mem _ (List.mem_append_left _ (List.mem_append_right _ h))
  have hf0 : fctx s m _ RX8 wsX8_failureOfLeast D tc RX0 TX0 4 0 := ⟨hts, hi0, hown, hK.1, rfl⟩
  have hi6 : ∀ w ∈ wsX60, w ∈ wsX8_failureOfLeast := fun w h => List.mem_cons_of_mem _ (List.mem_append_left _ (List.mem_append_left _ (List.mem_append_right _ h)))
  have hf6 : fctx s m _ RX8 wsX8_failureOfLeast D tc RX6 TX6 4 6 := ⟨hts, hi6, hown, hK.1, rfl⟩
  have lk97 := hts (.fieldLink RX8 97 (TX6 0).1 (TX6 0).2.1 (TX6 0).2.2.1) (gj_X8_failureOfLeast_0 _ (gp_h))
  have lk193 := hts (.fieldLink RX8 193 (TX6 1).1 (TX6 1).2.1 (TX6 1).2.2.1) (gj_X8_failureOfLeast_0 _ (gp_1 (gp_1 gp_h)))
  have lk302 := hts (.fieldLink RX8 302 (TX0 1).1 (TX0 1).2.1 (TX0 1).2.2.1) (gj_X8_failureOfLeast_0 _ (gp_1 gp_h))
  have lk311 := hts (.fieldLink RX8 311 (TX0 3).1 (TX0 3).2.1 (TX0 3).2.2.1) (gj_X8_failureOfLeast_0 _ (gp_1 (gp_1 (gp_1 gp_h))))
  have hc15 : cnt 15 = 30 := hFx.at 15 30 (by decide)
  have hc16 : cnt 16 = 30 := hFx.at 16 30 (by decide)
  have hc27 : cnt 27 = cnt 26 := hFx.2.2
  have hl : lv_has ls 2 [(0, .ref (ad 15 x)), (1, .ref (ad 25 g))] := hl
  have ftc : 0 ≤ X 0 0 3 ∧ X 0 0 3 ≤ 30 := hR 0 0 3
  have fty : 0 ≤ X 0 0 1 ∧ X 0 0 1 ≤ 8 := hR 0 0 1
  have hct : cnt 19 = X 0 0 1 := hCI.2.2.2.1.1
  have hfj : 0 ≤ X 29 0 3 ∧ X 29 0 3 ≤ 4 := hR 29 0 3
  have hfn : 0 ≤ X 29 0 1 ∧ X 29 0 1 ≤ 80 := hR 29 0 1
  have fka : 0 ≤ X 25 g 1 ∧ X 25 g 1 ≤ 4 := hR 25 g 1
  have fkb : 0 ≤ X 25 g 2 ∧ X 25 g 2 ≤ 4 := hR 25 g 2
  have fkk : 0 ≤ X 25 g 0 ∧ X 25 g 0 ≤ 5 := hR 25 g 0
  refine lv_aload_n hx hb dX8_failureOfLeast_0 rfl (lv_at hl 0 rfl) ?_
  refine x_getr (jz := 0) hx hb hf6 hw (by omega) (by omega) sl_15_0 rfl lk97 dX8_failureOfLeast_1 (fun y1 => ?_) (fun r2 y1 gr2 lr2 => ?_)
  · exfalso
    exact absurd y1 (hCI.2.2.2.2.1 x (by omega) (by omega))
  · refine lv_aload_n hx hb dX8_failureOfLeast_4 rfl (lv_at hl 1 rfl) ?_
    refine x_geti (jz := 1) hx hb hf0 hw (by omega) (by omega) sl_25_1 rfl lk302 dX8_failureOfLeast_5 ?_
    have f3 : 0 ≤ X 25 g 1 ∧ X 25 g 1 ≤ 4 := hR 25 g 1
    refine lv_iconst (v := jI 0) hx hb dX8_failureOfLeast_8 rfl ?_
    refine gos_i (run_V (As := [.int (jI (X 25 g 1)), .int (jI 0)]) (rest := []) hx hb hml hown hts (c_X7_hasLane l D tc base ad cnt X Y ln hR hFx hLn r2 (X 25 g 1) 0 (by omega) (by omega) (by omega)) (cwV 2 hts gX8_failureOfLeast_X7_hasLane rfl rfl rfl (by first | exact hd_X7_hasLane | decide +kernel) ⟨Nat.le_of_ble_eq_true rfl, Nat.le_of_ble_eq_true rfl⟩) hK hw (by first | exact Int.le_refl 0 | omega) (by first | exact zlt hc19 | omega) sl_19_0 rfl rfl hl.1 rfl (Nat.le_of_ble_eq_true rfl) dX8_failureOfLeast_9 ⟨Nat.le_of_ble_eq_true rfl, Nat.le_of_ble_eq_true rfl⟩) hS (fun z4 u5 H locs p6 hw hS => ?_)
    obtain ⟨eu5, p6⟩ := p6
    subst eu5
    rcases p6 with ⟨ez4, p6⟩ | ⟨ez4, p6⟩
    · subst ez4
      refine x_if_neT (tgt := 17) hx hb (by omega) (by decide) dX8_failureOfLeast_12 (by decide) ?_
      refine lv_aload_n hx hb dX8_failureOfLeast_17 rfl (lv_at hl 0 rfl) ?_
      refine x_geto hx hb hf6 hw (by omega) (by omega) sl_15_1 lk193 dX8_failureOfLeast_18 ?_
      refine lv_aload_n hx hb dX8_failureOfLeast_21 rfl (lv_at hl 1 rfl) ?_
      refine x_geti (jz := 1) hx hb hf0 hw (by omega) (by omega) sl_25_1 rfl lk302 dX8_failureOfLeast_22 ?_
      have f7 : 0 ≤ X 25 g 1 ∧ X 25 g 1 ≤ 4 := hR 25 g 1
      refine x_lald hx hb hK.1 hw (by omega) (by omega) ar_16 (len_E ar_16 (by first | exact Nat.ne_of_beq_eq_false rfl | decide)) (by omega) (by omega) (by omega) dX8_failureOfLeast_25 ?_
      have f8 : (-9223372036854775808) ≤ X 16 x (X 25 g 1) ∧ X 16 x (X 25 g 1) ≤ 9223372036854775807 := hR 16 x (X 25 g 1)
      refine lv_aload_n hx hb dX8_failureOfLeast_26 rfl (lv_at hl 1 rfl) ?_
      refine x_getl (jz := 3) hx hb hf0 hw (by omega) (by omega) sl_25_3 rfl lk311 dX8_failureOfLeast_27 ?_
      have f9 : (-9223372036854775808) ≤ X 25 g 3 ∧ X 25 g 3 ≤ 9223372036854775807 := hR 25 g 3
      refine x_lcmp hx hb (by omega) (by omega) dX8_failureOfLeast_30 ?_
      obtain ⟨z10, ez10⟩ : ∃ y : Int, y = cmpZ (X 16 x (X 25 g 1)) (X 25 g 3) := ⟨_, rfl⟩
      rw [← ez10]
      have gz10 : (z10 < 0 ↔ ((X 16 x (X 25 g 1)) : Int) < (X 25 g 3)) ∧ (z10 = 0 ↔ ((X 16 x (X 25 g 1)) : Int) = (X 25 g 3)) ∧ -1 ≤ z10 ∧ z10 ≤ 1 := by rw [ez10]; exact ⟨cmpZ_lt, cmpZ_eq, (cmpZ_r _ _).1, (cmpZ_r _ _).2⟩
      clear ez10
      refine x_if_ge (tgt := 39) hx hb (by omega) dX8_failureOfLeast_31 (by decide) (fun c11 => ?_) (fun c11 => ?_)
      · replace c11 := cz_geT gz10 c11
        clear gz10
        refine lv_iconst (v := jI 0) hx hb dX8_failureOfLeast_39 rfl ?_
        rw [hQ9]
        refine ret_i (mc := 0) (ms := 0) hx hb hr hlocks hw hS (by first | exact Nat.le_of_ble_eq_true rfl | omega) (by first | exact Nat.le_of_ble_eq_true rfl | omega) dX8_failureOfLeast_40 ?_
        exact ⟨rfl, by omega, fun hk9 => (by unfold ckC; rw [tyo_some y1]; rw [ckF_4 (by omega) (by (try delta Hid at *); omega)]; (repeat' split) <;> omega)⟩
      · replace c11 := cz_geF gz10 c11
        clear gz10
        refine lv_bipush (v := jI 6) hx hb dX8_failureOfLeast_34 (by decide) ?_
        refine lv_goto (tgt := 40) hx hb dX8_failureOfLeast_36 (by decide) ?_
        rw [hQ9]
        refine ret_i (mc := 0) (ms := 0) hx hb hr hlocks hw hS (by first | exact Nat.le_of_ble_eq_true rfl | omega) (by first | exact Nat.le_of_ble_eq_true rfl | omega) dX8_failureOfLeast_40 ?_
        exact ⟨rfl, by omega, fun hk9 => (by unfold ckC; rw [tyo_some y1]; rw [ckF_4 (by omega) (by (try delta Hid at *); omega)]; (repeat' split) <;> omega)⟩
    · subst ez4
      refine x_if_neF (tgt := 17) hx hb (by omega) (by decide) dX8_failureOfLeast_12 (by decide) ?_
      refine lv_iconst (v := jI 4) hx hb dX8_failureOfLeast_15 rfl ?_
      rw [hQ9]
      refine ret_i (mc := 0) (ms := 0) hx hb hr hlocks hw hS (by first | exact Nat.le_of_ble_eq_true rfl | omega) (by first | exact Nat.le_of_ble_eq_true rfl | omega) dX8_failureOfLeast_16 ?_
      exact ⟨rfl, by omega, fun hk9 => (by unfold ckC; rw [tyo_some y1]; rw [ckF_c ⟨by omega, by omega⟩ (by (try delta Hid at *); omega)])⟩

set_option maxHeartbeats 4000000 in
set_option maxRecDepth 100000 in
theorem c_X8_failureOfLeads (l : Launch) (D : va_G) (tc : Nat → ClassId) (base : Nat) (ad : Nat → Int → Nat) (cnt : Nat → Int) (X : Nat → Int → Int → Int) (Y : Nat → Int → Int → Option Int) (ln : Int → Int) (hR : Rng X) (hFx : Fx cnt) (hLn : LnOK ln) (hCI : CInv cnt X Y ln) (x g : Int) (hx0 : 0 ≤ x ∧ x ≤ 29) (hxt : x < X 0 0 3) (hg : 0 ≤ g ∧ g < cnt 25) : KI l D tc base yX8_failureOfLeads wsX8_failureOfLeads ({ frames := 3, cells := 0, slots := 0, locals := 64 } : Room) [.ref (ad 0 0), .ref (ad 15 x), .ref (ad 25 g)] (ad, cnt, X, Y, ln) 0 0 (fun z u => u = (ad, cnt, X, Y, ln) ∧ (0 ≤ z ∧ z ≤ 10) ∧ (X 25 g 0 = 5 → z = ckC X Y ln x g)) := by
  refine K_of (cc := cX8_failureOfLeads) (maxL := 5) (ret := (some .int)) (by decide) rfl (Nat.le_of_ble_eq_true rfl) ?_
  intro p e s m below meth c ls hx hb hr hml hown hts hlocks hl hK hw hS
  have hown : s.vm.findClass RX8 = some m.cls := hown
  obtain ⟨av9, hav9⟩ : ∃ a9 : Array Value, a9 = ([.ref (ad 0 0), .ref (ad 15 x), .ref (ad 25 g)] : List Value).toArray := ⟨_, rfl⟩
  rw [← hav9] at hts ⊢
  obtain ⟨Q9, hQ9⟩ : ∃ q9Q : State → Prop, q9Q = MQ below (QI D tc base (fun z u => u = (ad, cnt, X, Y, ln) ∧ (0 ≤ z ∧ z ≤ 10) ∧ (X 25 g 0 = 5 → z = ckC X Y ln x g))) av9 s 0 0 (frA base) := ⟨_, rfl⟩
  rw [← hQ9]
  have hi0 : ∀ w ∈ wsX00, w ∈ wsX8_failureOfLeads := fun w h => List.mem_cons_of_mem _ (List.mem_append_left _ (List.mem_append_left _ (List.mem_append_right _ h)))
  have hf0 : fctx s m _ RX8 wsX8_failureOfLeads D tc RX0 TX0 4 0 := ⟨hts, hi0, hown, hK.1, rfl⟩
  have hi6 : ∀ w ∈ wsX60, w ∈ wsX8_failureOfLeads := fun w h => List.mem_cons_of_mem _ (List.mem_append_left _ (List.mem_append_left _ (List.mem_append_left _ (List.mem_append_right _ h))))
  have hf6 : fctx s m _ RX8 wsX8_failureOfLeads D tc RX6 TX6 4 6 := ⟨hts, hi6, hown, hK.1, rfl⟩
  have hi7 : ∀ w ∈ wsX70, w ∈ wsX8_failureOfLeads := fun w h => List.mem_cons_of_mem _ (List.mem_append_left _ (List.mem_append_right _ h))
  have hf7 : fctx s m _ RX8 wsX8_failureOfLeads D tc RX7 TX7 8 7 := ⟨hts, hi7, hown, hK.1, rfl⟩
  have lk97 := hts (.fieldLink RX8 97 (TX6 0).1 (TX6 0).2.1 (TX6 0).2.2.1) (gj_X8_failureOfLeads_0 _ (gp_h))
  have lk193 := hts (.fieldLink RX8 193 (TX6 1).1 (TX6 1).2.1 (TX6 1).2.2.1) (gj_X8_failureOfLeads_0 _ (gp_1 (gp_1 gp_h)))
  have lk302 := hts (.fieldLink RX8 302 (TX0 1).1 (TX0 1).2.1 (TX0 1).2.2.1) (gj_X8_failureOfLeads_0 _ (gp_1 gp_h))
  have lk320 := hts (.fieldLink RX8 320 (TX7 2).1 (TX7 2).2.1 (TX7 2).2.2.1) (gj_X8_failureOfLeads_0 _ (gp_1 (gp_1 (gp_1 gp_h))))
  have hc0 : cnt 0 = 1 := hFx.at 0 1 (by decide)
  have hc15 : cnt 15 = 30 := hFx.at 15 30 (by decide)
  have hc16 : cnt 16 = 30 := hFx.at 16 30 (by decide)
  have hc20 : cnt 20 = cnt 19 := hFx.2.1 20 (by decide)
  have hc27 : cnt 27 = cnt 26 := hFx.2.2
  have hl : lv_has ls 5 [(0, .ref (ad 0 0)), (1, .ref (ad 15 x)), (2, .ref (ad 25 g))] := hl
  have ftc : 0 ≤ X 0 0 3 ∧ X 0 0 3 ≤ 30 := hR 0 0 3
  have fty : 0 ≤ X 0 0 1 ∧ X 0 0 1 ≤ 8 := hR 0 0 1
  have hct : cnt 19 = X 0 0 1 := hCI.2.2.2.1.1
  have hfj : 0 ≤ X 29 0 3 ∧ X 29 0 3 ≤ 4 := hR 29 0 3
  have hfn : 0 ≤ X 29 0 1 ∧ X 29 0 1 ≤ 80 := hR 29 0 1
  have fka : 0 ≤ X 25 g 1 ∧ X 25 g 1 ≤ 4 := hR 25 g 1
  have fkb : 0 ≤ X 25 g 2 ∧ X 25 g 2 ≤ 4 := hR 25 g 2
  have fkk : 0 ≤ X 25 g 0 ∧ X 25 g 0 ≤ 5 := hR 25 g 0
  refine lv_aload_n hx hb dX8_failureOfLeads_0 rfl (lv_at hl 1 rfl) ?_
  refine x_getr (jz := 0) hx hb hf6 hw (by omega) (by omega) sl_15_0 rfl lk97 dX8_failureOfLeads_1 (fun y1 => ?_) (fun r2 y1 gr2 lr2 => ?_)
  · exfalso
    exact absurd y1 (hCI.2.2.2.2.1 x (by omega) (by omega))
  · refine lv_aload_n hx hb dX8_failureOfLeads_4 rfl (lv_at hl 2 rfl) ?_
    refine x_geti (jz := 1) hx hb hf0 hw (by omega) (by omega) sl_25_1 rfl lk302 dX8_failureOfLeads_5 ?_
    have f3 : 0 ≤ X 25 g 1 ∧ X 25 g 1 ≤ 4 := hR 25 g 1
    refine lv_iconst (v := jI 2) hx hb dX8_failureOfLeads_8 rfl ?_
    refine gos_i (run_V (As := [.int (jI (X 25 g 1)), .int (jI 2)]) (rest := []) hx hb hml hown hts (c_X7_hasLane l D tc base ad cnt X Y ln hR hFx hLn r2 (X 25 g 1) 2 (by omega) (by omega) (by omega)) (cwV 2 hts gX8_failureOfLeads_X7_hasLane rfl rfl rfl (by first | exact hd_X7_hasLane | decide +kernel) ⟨Nat.le_of_ble_eq_true rfl, Nat.le_of_ble_eq_true rfl⟩) hK hw (by first | exact Int.le_refl 0 | omega) (by first | exact zlt hc19 | omega) sl_19_0 rfl rfl hl.1 rfl (Nat.le_of_ble_eq_true rfl) dX8_failureOfLeads_9 ⟨Nat.le_of_ble_eq_true rfl, Nat.le_of_ble_eq_true rfl⟩) hS (fun z4 u5 H locs p6 hw hS => ?_)
    obtain ⟨eu5, p6⟩ := p6
    subst eu5
    rcases p6 with ⟨ez4, p6⟩ | ⟨ez4, p6⟩
    · subst ez4
      refine x_if_neT (tgt := 17) hx hb (by omega) (by decide) dX8_failureOfLeads_12 (by decide) ?_
      refine lv_aload_n hx hb dX8_failureOfLeads_17 rfl (lv_at hl 0 rfl) ?_
      refine lv_aload_n hx hb dX8_failureOfLeads_18 rfl (lv_at hl 1 rfl) ?_
      refine x_geto hx hb hf6 hw (by omega) (by omega) sl_15_1 lk193 dX8_failureOfLeads_19 ?_
      refine lv_aload_n hx hb dX8_failureOfLeads_22 rfl (lv_at hl 2 rfl) ?_
      refine x_geti (jz := 1) hx hb hf0 hw (by omega) (by omega) sl_25_1 rfl lk302 dX8_failureOfLeads_23 ?_
      have f7 : 0 ≤ X 25 g 1 ∧ X 25 g 1 ≤ 4 := hR 25 g 1
      refine x_lald hx hb hK.1 hw (by omega) (by omega) ar_16 (len_E ar_16 (by first | exact Nat.ne_of_beq_eq_false rfl | decide)) (by omega) (by omega) (by omega) dX8_failureOfLeads_26 ?_
      have f8 : (-9223372036854775808) ≤ X 16 x (X 25 g 1) ∧ X 16 x (X 25 g 1) ≤ 9223372036854775807 := hR 16 x (X 25 g 1)
      refine gos_r (run_V (As := [.long (jL (X 16 x (X 25 g 1)))]) (rest := []) hx hb hml hown hts (c_X8_thingNumbered l D tc base ad cnt X Y ln hR hFx hLn hCI (X 16 x (X 25 g 1)) (by omega)) (cwV 1 hts gX8_failureOfLeads_X8_thingNumbered rfl rfl rfl (by first | exact hd_X8_thingNumbered | decide +kernel) ⟨Nat.le_of_ble_eq_true rfl, Nat.le_of_ble_eq_true rfl⟩) hK hw (by first | exact Int.le_refl 0 | omega) (by first | exact zlt hc0 | omega) sl_0_0 rfl rfl hl.1 rfl (Nat.le_of_ble_eq_true rfl) dX8_failureOfLeads_27 ⟨Nat.le_of_ble_eq_true rfl, Nat.le_of_ble_eq_true rfl⟩) hS (fun u10 H locs p11 hw hS => ?_) (fun z9 u10 H locs p11 hw hS => ?_)
      · obtain ⟨eu10, hsp11, hnp11⟩ := p11
        subst eu10
        refine lv_astore_nN (lv' := [(3, .null), (0, .ref (ad 0 0)), (1, .ref (ad 15 x)), (2, .ref (ad 25 g))]) hx hb dX8_failureOfLeads_30 rfl hl (by decide) rfl (fun ls hl => ?_)
        refine lv_aload_nN hx hb dX8_failureOfLeads_31 rfl (lv_at hl 0 rfl) ?_
        refine lv_ifnonnullN hx hb dX8_failureOfLeads_32 ?_
        refine lv_iconst (v := jI 1) hx hb dX8_failureOfLeads_35 rfl ?_
        rw [hQ9]
        refine ret_i (mc := 0) (ms := 0) hx hb hr hlocks hw hS (by first | exact Nat.le_of_ble_eq_true rfl | omega) (by first | exact Nat.le_of_ble_eq_true rfl | omega) dX8_failureOfLeads_36 ?_
        exact ⟨rfl, by omega, fun hk9 => (by unfold ckC; rw [tyo_some y1]; rw [ckF_5 (by omega) (by (try delta Hid at *); omega)]; rw [if_neg (show ¬ (0 ≤ X 16 x (X 25 g 1) ∧ X 16 x (X 25 g 1) < X 0 0 3) from hnp11 rfl), if_pos (by omega)])⟩
      · obtain ⟨eu10, hsp11, hnp11⟩ := p11
        subst eu10
        obtain ⟨ezz9, p11⟩ := hsp11 z9 rfl
        refine lv_astore_n (lv' := [(3, .ref (ad 15 z9)), (0, .ref (ad 0 0)), (1, .ref (ad 15 x)), (2, .ref (ad 25 g))]) hx hb dX8_failureOfLeads_30 rfl hl (by decide) rfl (fun ls hl => ?_)
        refine lv_aload_n hx hb dX8_failureOfLeads_31 rfl (lv_at hl 0 rfl) ?_
        refine lv_ifnonnull (tgt := 37) hx hb dX8_failureOfLeads_32 (by decide) ?_
        refine lv_aload_n hx hb dX8_failureOfLeads_37 rfl (lv_at hl 0 rfl) ?_
        refine x_getr (jz := 0) hx hb hf6 hw (by omega) (by omega) sl_15_0 rfl lk97 dX8_failureOfLeads_38 (fun y12 => ?_) (fun r13 y12 gr13 lr13 => ?_)
        · exfalso
          exact absurd y12 (hCI.2.2.2.2.1 z9 (by omega) (by omega))
        · refine lv_aload_n hx hb dX8_failureOfLeads_41 rfl (lv_at hl 2 rfl) ?_
          refine x_getr (jz := 0) hx hb hf6 hw (by omega) (by omega) sl_15_0 rfl lk97 dX8_failureOfLeads_42 (fun y14 => ?_) (fun r15 y14 gr15 lr15 => ?_)
          · exfalso
            rw [y1] at y14; cases y14
          · have er15 : r15 = r2 := by rw [y1] at y14; cases y14; rfl
            rw [er15]
            refine x_geto hx hb hf7 hw (by omega) (by omega) sl_19_2 lk320 dX8_failureOfLeads_45 ?_
            refine lv_aload_n hx hb dX8_failureOfLeads_48 rfl (lv_at hl 3 rfl) ?_
            refine x_geti (jz := 1) hx hb hf0 hw (by omega) (by omega) sl_25_1 rfl lk302 dX8_failureOfLeads_49 ?_
            have f16 : 0 ≤ X 25 g 1 ∧ X 25 g 1 ≤ 4 := hR 25 g 1
            refine x_iald hx hb hK.1 hw (by omega) (by omega) ar_20 (len_E ar_20 (by first | exact Nat.ne_of_beq_eq_false rfl | decide)) (by omega) (by omega) (by omega) dX8_failureOfLeads_52 ?_
            have f17 : 0 ≤ X 20 r2 (X 25 g 1) ∧ X 20 r2 (X 25 g 1) ≤ 19 := hR 20 r2 (X 25 g 1)
            refine gos_i (run_V (As := [.int (jI (X 20 r2 (X 25 g 1)))]) (rest := []) hx hb hml hown hts (c_X7_fieldNamed l D tc base ad cnt X Y ln hR hFx hLn r13 (X 20 r2 (X 25 g 1)) (by omega) (by omega)) (cwV 1 hts gX8_failureOfLeads_X7_fieldNamed rfl rfl rfl (by first | exact hd_X7_fieldNamed | decide +kernel) ⟨Nat.le_of_ble_eq_true rfl, Nat.le_of_ble_eq_true rfl⟩) hK hw (by first | exact Int.le_refl 0 | omega) (by first | exact zlt hc19 | omega) sl_19_0 rfl rfl hl.1 rfl (Nat.le_of_ble_eq_true rfl) dX8_failureOfLeads_53 ⟨Nat.le_of_ble_eq_true rfl, Nat.le_of_ble_eq_true rfl⟩) hS (fun z18 u19 H locs p20 hw hS => ?_)
            obtain ⟨eu19, p20⟩ := p20
            subst eu19
            refine lv_istore (lv' := [(4, .int (jI z18)), (3, .ref (ad 15 z9)), (0, .ref (ad 0 0)), (1, .ref (ad 15 x)), (2, .ref (ad 25 g))]) hx hb dX8_failureOfLeads_56 hl (by decide) rfl (fun ls hl => ?_)
            refine lv_aload_n hx hb dX8_failureOfLeads_58 rfl (lv_at hl 1 rfl) ?_
            refine x_getr (jz := 0) hx hb hf6 hw (by omega) (by omega) sl_15_0 rfl lk97 dX8_failureOfLeads_59 (fun y21 => ?_) (fun r22 y21 gr22 lr22 => ?_)
            · exfalso
              rw [y12] at y21; cases y21
            · have er22 : r22 = r13 := by rw [y12] at y21; cases y21; rfl
              rw [er22]
              refine lv_iload hx hb dX8_failureOfLeads_62 (lv_at hl 0 rfl) ?_
              refine lv_iconst (v := jI 2) hx hb dX8_failureOfLeads_64 rfl ?_
              refine gos_i (run_V (As := [.int (jI z18), .int (jI 2)]) (rest := []) hx hb hml hown hts (c_X7_hasLane l D tc base ad cnt X Y ln hR hFx hLn r13 z18 2 (by omega) (by omega) (by omega)) (cwV 2 hts gX8_failureOfLeads_X7_hasLane rfl rfl rfl (by first | exact hd_X7_hasLane | decide +kernel) ⟨Nat.le_of_ble_eq_true rfl, Nat.le_of_ble_eq_true rfl⟩) hK hw (by first | exact Int.le_refl 0 | omega) (by first | exact zlt hc19 | omega) sl_19_0 rfl rfl hl.1 rfl (Nat.le_of_ble_eq_true rfl) dX8_failureOfLeads_65 ⟨Nat.le_of_ble_eq_true rfl, Nat.le_of_ble_eq_true rfl⟩) hS (fun z23 u24 H locs p25 hw hS => ?_)
              obtain ⟨eu24, p25⟩ := p25
              subst eu24
              rcases p25 with ⟨ez23, p25⟩ | ⟨ez23, p25⟩
              · subst ez23
                refine x_if_neT (tgt := 73) hx hb (by omega) (by decide) dX8_failureOfLeads_68 (by decide) ?_
                refine lv_aload_n hx hb dX8_failureOfLeads_73 rfl (lv_at hl 2 rfl) ?_
                refine lv_aload_n hx hb dX8_failureOfLeads_74 rfl (lv_at hl 1 rfl) ?_
                refine x_geto hx hb hf6 hw (by omega) (by omega) sl_15_1 lk193 dX8_failureOfLeads_75 ?_
                refine lv_iload hx hb dX8_failureOfLeads_78 (lv_at hl 0 rfl) ?_
                refine x_lald hx hb hK.1 hw (by omega) (by omega) ar_16 (len_E ar_16 (by first | exact Nat.ne_of_beq_eq_false rfl | decide)) (by omega) (by omega) (by omega) dX8_failureOfLeads_80 ?_
                have f26 : (-9223372036854775808) ≤ X 16 z9 z18 ∧ X 16 z9 z18 ≤ 9223372036854775807 := hR 16 z9 z18
                refine gos_r (run_V (As := [.long (jL (X 16 z9 z18))]) (rest := []) hx hb hml hown hts (c_X8_thingNumbered l D tc base ad cnt X Y ln hR hFx hLn hCI (X 16 z9 z18) (by omega)) (cwV 1 hts gX8_failureOfLeads_X8_thingNumbered rfl rfl rfl (by first | exact hd_X8_thingNumbered | decide +kernel) ⟨Nat.le_of_ble_eq_true rfl, Nat.le_of_ble_eq_true rfl⟩) hK hw (by first | exact Int.le_refl 0 | omega) (by first | exact zlt hc0 | omega) sl_0_0 rfl rfl hl.1 rfl (Nat.le_of_ble_eq_true rfl) dX8_failureOfLeads_81 ⟨Nat.le_of_ble_eq_true rfl, Nat.le_of_ble_eq_true rfl⟩) hS (fun u28 H locs p29 hw hS => ?_) (fun z27 u28 H locs p29 hw hS => ?_)
                · obtain ⟨eu28, hsp29, hnp29⟩ := p29
                  subst eu28
                  refine lv_ifnonnullN hx hb dX8_failureOfLeads_84 ?_
                  refine lv_iconst (v := jI 1) hx hb dX8_failureOfLeads_87 rfl ?_
                  refine lv_goto (tgt := 92) hx hb dX8_failureOfLeads_88 (by decide) ?_
                  rw [hQ9]
                  refine ret_i (mc := 0) (ms := 0) hx hb hr hlocks hw hS (by first | exact Nat.le_of_ble_eq_true rfl | omega) (by first | exact Nat.le_of_ble_eq_true rfl | omega) dX8_failureOfLeads_92 ?_
                  exact ⟨rfl, by omega, fun hk9 => (by unfold ckC; rw [tyo_some y1]; rw [ckF_5 (by omega) (by (try delta Hid at *); omega)]; have hmt : (if 0 ≤ X 16 x (X 25 g 1) ∧ X 16 x (X 25 g 1) < X 0 0 3 then X 19 (tyo (Y 15 (X 16 x (X 25 g 1)) 0)) 0 else -1) = X 19 r13 0 := (by rw [if_pos ⟨by omega, by omega⟩, ← ezz9, tyo_some y12]); have f19 : 0 ≤ X 19 r13 0 ∧ X 19 r13 0 ≤ 7 := hR 19 r13 0; rw [hmt]; unfold ldC; rw [← ezz9, tyo_some y12, tyo_some y1, ← p20.2.2.2]; have h9n : ¬ (0 ≤ X 16 z9 z18 ∧ X 16 z9 z18 < X 0 0 3) := hnp29 rfl; (try delta Hid at *); (repeat' split) <;> omega)⟩
                · obtain ⟨eu28, hsp29, hnp29⟩ := p29
                  subst eu28
                  obtain ⟨ezz27, p29⟩ := hsp29 z27 rfl
                  refine lv_ifnonnull (tgt := 91) hx hb dX8_failureOfLeads_84 (by decide) ?_
                  refine lv_iconst (v := jI 0) hx hb dX8_failureOfLeads_91 rfl ?_
                  rw [hQ9]
                  refine ret_i (mc := 0) (ms := 0) hx hb hr hlocks hw hS (by first | exact Nat.le_of_ble_eq_true rfl | omega) (by first | exact Nat.le_of_ble_eq_true rfl | omega) dX8_failureOfLeads_92 ?_
                  exact ⟨rfl, by omega, fun hk9 => (by unfold ckC; rw [tyo_some y1]; rw [ckF_5 (by omega) (by (try delta Hid at *); omega)]; have hmt : (if 0 ≤ X 16 x (X 25 g 1) ∧ X 16 x (X 25 g 1) < X 0 0 3 then X 19 (tyo (Y 15 (X 16 x (X 25 g 1)) 0)) 0 else -1) = X 19 r13 0 := (by rw [if_pos ⟨by omega, by omega⟩, ← ezz9, tyo_some y12]); have f19 : 0 ≤ X 19 r13 0 ∧ X 19 r13 0 ≤ 7 := hR 19 r13 0; rw [hmt]; unfold ldC; rw [← ezz9, tyo_some y12, tyo_some y1, ← p20.2.2.2]; (try delta Hid at *); (repeat' split) <;> omega)⟩
              · subst ez23
                refine x_if_neF (tgt := 73) hx hb (by omega) (by decide) dX8_failureOfLeads_68 (by decide) ?_
                refine lv_iconst (v := jI 4) hx hb dX8_failureOfLeads_71 rfl ?_
                rw [hQ9]
                refine ret_i (mc := 0) (ms := 0) hx hb hr hlocks hw hS (by first | exact Nat.le_of_ble_eq_true rfl | omega) (by first | exact Nat.le_of_ble_eq_true rfl | omega) dX8_failureOfLeads_72 ?_
                exact ⟨rfl, by omega, fun hk9 => (by unfold ckC; rw [tyo_some y1]; rw [ckF_5 (by omega) (by (try delta Hid at *); omega)]; have hmt : (if 0 ≤ X 16 x (X 25 g 1) ∧ X 16 x (X 25 g 1) < X 0 0 3 then X 19 (tyo (Y 15 (X 16 x (X 25 g 1)) 0)) 0 else -1) = X 19 r13 0 := (by rw [if_pos ⟨by omega, by omega⟩, ← ezz9, tyo_some y12]); have f19 : 0 ≤ X 19 r13 0 ∧ X 19 r13 0 ≤ 7 := hR 19 r13 0; rw [hmt]; unfold ldC; rw [← ezz9, tyo_some y12, tyo_some y1, ← p20.2.2.2]; (try delta Hid at *); (repeat' split) <;> omega)⟩
    · subst ez4
      refine x_if_neF (tgt := 17) hx hb (by omega) (by decide) dX8_failureOfLeads_12 (by decide) ?_
      refine lv_iconst (v := jI 4) hx hb dX8_failureOfLeads_15 rfl ?_
      rw [hQ9]
      refine ret_i (mc := 0) (ms := 0) hx hb hr hlocks hw hS (by first | exact Nat.le_of_ble_eq_true rfl | omega) (by first | exact Nat.le_of_ble_eq_true rfl | omega) dX8_failureOfLeads_16 ?_
      exact ⟨rfl, by omega, fun hk9 => (by unfold ckC; rw [tyo_some y1]; rw [ckF_c ⟨by omega, by omega⟩ (by (try delta Hid at *); omega)])⟩

set_option maxHeartbeats 4000000 in
set_option maxRecDepth 100000 in
theorem c_X8_failureOf (l : Launch) (D : va_G) (tc : Nat → ClassId) (base : Nat) (ad : Nat → Int → Nat) (cnt : Nat → Int) (X : Nat → Int → Int → Int) (Y : Nat → Int → Int → Option Int) (ln : Int → Int) (hR : Rng X) (hFx : Fx cnt) (hLn : LnOK ln) (hCI : CInv cnt X Y ln) (x g : Int) (hx0 : 0 ≤ x ∧ x ≤ 29) (hxt : x < X 0 0 3) (hg : 0 ≤ g ∧ g < cnt 25) : KI l D tc base yX8_failureOf wsX8_failureOf ({ frames := 4, cells := 0, slots := 0, locals := 88 } : Room) [.ref (ad 0 0), .ref (ad 15 x), .ref (ad 25 g)] (ad, cnt, X, Y, ln) 0 0 (fun z u => u = (ad, cnt, X, Y, ln) ∧ (0 ≤ z ∧ z ≤ 10) ∧ z = ckC X Y ln x g) := by
  refine K_of (cc := cX8_failureOf) (maxL := 3) (ret := (some .int)) (by decide) rfl (Nat.le_of_ble_eq_true rfl) ?_
  intro p e s m below meth c ls hx hb hr hml hown hts hlocks hl hK hw hS
  have hown : s.vm.findClass RX8 = some m.cls := hown
  obtain ⟨av9, hav9⟩ : ∃ a9 : Array Value, a9 = ([.ref (ad 0 0), .ref (ad 15 x), .ref (ad 25 g)] : List Value).toArray := ⟨_, rfl⟩
  rw [← hav9] at hts ⊢
  obtain ⟨Q9, hQ9⟩ : ∃ q9Q : State → Prop, q9Q = MQ below (QI D tc base (fun z u => u = (ad, cnt, X, Y, ln) ∧ (0 ≤ z ∧ z ≤ 10) ∧ z = ckC X Y ln x g)) av9 s 0 0 (frA base) := ⟨_, rfl⟩
  rw [← hQ9]
  have hi0 : ∀ w ∈ wsX00, w ∈ wsX8_failureOf := fun w h => List.mem_cons_of_mem _ (List.mem_append_left _ (List.mem_append_left _ (List.mem_append_left _ (List.mem_append_left _ (List.mem_append_right _ h)))))
  have hf0 : fctx s m _ RX8 wsX8_failureOf D tc RX0 TX0 4 0 := ⟨hts, hi0, hown, hK.1, rfl⟩
  have lk281 := hts (.fieldLink RX8 281 (TX0 0).1 (TX0 0).2.1 (TX0 0).2.2.1) (gj_X8_failureOf_0 _ (gp_h))
  have hc0 : cnt 0 = 1 := hFx.at 0 1 (by decide)
  have hc15 : cnt 15 = 30 := hFx.at 15 30 (by decide)
  have hl : lv_has ls 3 [(0, .ref (ad 0 0)), (1, .ref (ad 15 x)), (2, .ref (ad 25 g))] := hl
  have ftc : 0 ≤ X 0 0 3 ∧ X 0 0 3 ≤ 30 := hR 0 0 3
  have fty : 0 ≤ X 0 0 1 ∧ X 0 0 1 ≤ 8 := hR 0 0 1
  have hct : cnt 19 = X 0 0 1 := hCI.2.2.2.1.1
  have hfj : 0 ≤ X 29 0 3 ∧ X 29 0 3 ≤ 4 := hR 29 0 3
  have hfn : 0 ≤ X 29 0 1 ∧ X 29 0 1 ≤ 80 := hR 29 0 1
  have fka : 0 ≤ X 25 g 1 ∧ X 25 g 1 ≤ 4 := hR 25 g 1
  have fkb : 0 ≤ X 25 g 2 ∧ X 25 g 2 ≤ 4 := hR 25 g 2
  have fkk : 0 ≤ X 25 g 0 ∧ X 25 g 0 ≤ 5 := hR 25 g 0
  refine lv_aload_n hx hb dX8_failureOf_0 rfl (lv_at hl 2 rfl) ?_
  refine x_geti (jz := 0) hx hb hf0 hw (by omega) (by omega) sl_25_0 rfl lk281 dX8_failureOf_1 ?_
  have f1 : 0 ≤ X 25 g 0 ∧ X 25 g 0 ≤ 5 := hR 25 g 0
  have tc2 : (jI (X 25 g 0)).toInt = (X 25 g 0) := jI_toInt (by omega)
  by_cases c2 : (X 25 g 0) < 0 ∨ 4 < (X 25 g 0)
  · refine lv_tableOut (tgt := 71) hx hb dX8_failureOf_4 (by rw [tc2]; exact c2) (by decide) ?_
    refine lv_aload_n hx hb dX8_failureOf_71 rfl (lv_at hl 0 rfl) ?_
    refine lv_aload_n hx hb dX8_failureOf_72 rfl (lv_at hl 1 rfl) ?_
    refine lv_aload_n hx hb dX8_failureOf_73 rfl (lv_at hl 2 rfl) ?_
    refine gos_i (run_V (As := [.ref (ad 15 x), .ref (ad 25 g)]) (rest := []) hx hb hml hown hts (c_X8_failureOfLeads l D tc base ad cnt X Y ln hR hFx hLn hCI x g (by omega) (by omega) (by omega)) (cwV 2 hts gX8_failureOf_X8_failureOfLeads rfl rfl rfl (by first | exact hd_X8_failureOfLeads | decide +kernel) ⟨Nat.le_of_ble_eq_true rfl, Nat.le_of_ble_eq_true rfl⟩) hK hw (by first | exact Int.le_refl 0 | omega) (by first | exact zlt hc0 | omega) sl_0_0 rfl rfl hl.1 rfl (Nat.le_of_ble_eq_true rfl) dX8_failureOf_74 ⟨Nat.le_of_ble_eq_true rfl, Nat.le_of_ble_eq_true rfl⟩) hS (fun z3 u4 H locs p5 hw hS => ?_)
    obtain ⟨eu4, p5⟩ := p5
    subst eu4
    rw [hQ9]
    refine ret_i (mc := 0) (ms := 0) hx hb hr hlocks hw hS (by first | exact Nat.le_of_ble_eq_true rfl | omega) (by first | exact Nat.le_of_ble_eq_true rfl | omega) dX8_failureOf_77 ?_
    exact ⟨rfl, by omega, p5.2 (by omega)⟩
  by_cases c6 : (X 25 g 0) = 0
  · refine lv_tableIn (off := 36) (tgt := 40) hx hb dX8_failureOf_4 (by rw [tc2]; omega) (by rw [tc2]; omega) (by rw [tc2, c6]; rfl) (by decide) ?_
    refine lv_aload_n hx hb dX8_failureOf_40 rfl (lv_at hl 1 rfl) ?_
    refine lv_aload_n hx hb dX8_failureOf_41 rfl (lv_at hl 2 rfl) ?_
    refine gos_i (run_S (As := [.ref (ad 15 x), .ref (ad 25 g)]) (rest := []) hx hb hml hown hts (c_X8_failureOfDivides l D tc base ad cnt X Y ln hR hFx hLn hCI x g (by omega) (by omega) (by omega)) (cwS 2 hts gX8_failureOf_X8_failureOfDivides rfl rfl rfl (by first | exact hd_X8_failureOfDivides | decide +kernel) ⟨Nat.le_of_ble_eq_true rfl, Nat.le_of_ble_eq_true rfl⟩) hK hw rfl hl.1 rfl (Nat.le_of_ble_eq_true rfl) dX8_failureOf_42 ⟨Nat.le_of_ble_eq_true rfl, Nat.le_of_ble_eq_true rfl⟩) hS (fun z7 u8 H locs p9 hw hS => ?_)
    obtain ⟨eu8, p9⟩ := p9
    subst eu8
    rw [hQ9]
    refine ret_i (mc := 0) (ms := 0) hx hb hr hlocks hw hS (by first | exact Nat.le_of_ble_eq_true rfl | omega) (by first | exact Nat.le_of_ble_eq_true rfl | omega) dX8_failureOf_45 ?_
    exact ⟨rfl, by omega, p9.2 (by omega)⟩
  by_cases c10 : (X 25 g 0) = 1
  · refine lv_tableIn (off := 42) (tgt := 46) hx hb dX8_failureOf_4 (by rw [tc2]; omega) (by rw [tc2]; omega) (by rw [tc2, c10]; rfl) (by decide) ?_
    refine lv_aload_n hx hb dX8_failureOf_46 rfl (lv_at hl 0 rfl) ?_
    refine lv_aload_n hx hb dX8_failureOf_47 rfl (lv_at hl 1 rfl) ?_
    refine lv_aload_n hx hb dX8_failureOf_48 rfl (lv_at hl 2 rfl) ?_
    refine gos_i (run_V (As := [.ref (ad 15 x), .ref (ad 25 g)]) (rest := []) hx hb hml hown hts (c_X8_failureOfMeets l D tc base ad cnt X Y ln hR hFx hLn hCI x g (by omega) (by omega) (by omega)) (cwV 2 hts gX8_failureOf_X8_failureOfMeets rfl rfl rfl (by first | exact hd_X8_failureOfMeets | decide +kernel) ⟨Nat.le_of_ble_eq_true rfl, Nat.le_of_ble_eq_true rfl⟩) hK hw (by first | exact Int.le_refl 0 | omega) (by first | exact zlt hc0 | omega) sl_0_0 rfl rfl hl.1 rfl (Nat.le_of_ble_eq_true rfl) dX8_failureOf_49 ⟨Nat.le_of_ble_eq_true rfl, Nat.le_of_ble_eq_true rfl⟩) hS (fun z11 u12 H locs p13 hw hS => ?_)
    obtain ⟨eu12, p13⟩ := p13
    subst eu12
    rw [hQ9]
    refine ret_i (mc := 0) (ms := 0) hx hb hr hlocks hw hS (by first | exact Nat.le_of_ble_eq_true rfl | omega) (by first | exact Nat.le_of_ble_eq_true rfl | omega) dX8_failureOf_52 ?_
    exact ⟨rfl, by omega, p13.2 (by omega)⟩
  by_cases c14 : (X 25 g 0) = 2
  · refine lv_tableIn (off := 49) (tgt := 53) hx hb dX8_failureOf_4 (by rw [tc2]; omega) (by rw [tc2]; omega) (by rw [tc2, c14]; rfl) (by decide) ?_
    refine lv_aload_n hx hb dX8_failureOf_53 rfl (lv_at hl 1 rfl) ?_
    refine lv_aload_n hx hb dX8_failureOf_54 rfl (lv_at hl 2 rfl) ?_
    refine gos_i (run_S (As := [.ref (ad 15 x), .ref (ad 25 g)]) (rest := []) hx hb hml hown hts (c_X8_failureOfHas l D tc base ad cnt X Y ln hR hFx hLn hCI x g (by omega) (by omega) (by omega)) (cwS 2 hts gX8_failureOf_X8_failureOfHas rfl rfl rfl (by first | exact hd_X8_failureOfHas | decide +kernel) ⟨Nat.le_of_ble_eq_true rfl, Nat.le_of_ble_eq_true rfl⟩) hK hw rfl hl.1 rfl (Nat.le_of_ble_eq_true rfl) dX8_failureOf_55 ⟨Nat.le_of_ble_eq_true rfl, Nat.le_of_ble_eq_true rfl⟩) hS (fun z15 u16 H locs p17 hw hS => ?_)
    obtain ⟨eu16, p17⟩ := p17
    subst eu16
    rw [hQ9]
    refine ret_i (mc := 0) (ms := 0) hx hb hr hlocks hw hS (by first | exact Nat.le_of_ble_eq_true rfl | omega) (by first | exact Nat.le_of_ble_eq_true rfl | omega) dX8_failureOf_58 ?_
    exact ⟨rfl, by omega, p17.2 (by omega)⟩
  by_cases c18 : (X 25 g 0) = 3
  · refine lv_tableIn (off := 55) (tgt := 59) hx hb dX8_failureOf_4 (by rw [tc2]; omega) (by rw [tc2]; omega) (by rw [tc2, c18]; rfl) (by decide) ?_
    refine lv_aload_n hx hb dX8_failureOf_59 rfl (lv_at hl 1 rfl) ?_
    refine lv_aload_n hx hb dX8_failureOf_60 rfl (lv_at hl 2 rfl) ?_
    refine gos_i (run_S (As := [.ref (ad 15 x), .ref (ad 25 g)]) (rest := []) hx hb hml hown hts (c_X8_failureOfHolds l D tc base ad cnt X Y ln hR hFx hLn hCI x g (by omega) (by omega) (by omega)) (cwS 2 hts gX8_failureOf_X8_failureOfHolds rfl rfl rfl (by first | exact hd_X8_failureOfHolds | decide +kernel) ⟨Nat.le_of_ble_eq_true rfl, Nat.le_of_ble_eq_true rfl⟩) hK hw rfl hl.1 rfl (Nat.le_of_ble_eq_true rfl) dX8_failureOf_61 ⟨Nat.le_of_ble_eq_true rfl, Nat.le_of_ble_eq_true rfl⟩) hS (fun z19 u20 H locs p21 hw hS => ?_)
    obtain ⟨eu20, p21⟩ := p21
    subst eu20
    rw [hQ9]
    refine ret_i (mc := 0) (ms := 0) hx hb hr hlocks hw hS (by first | exact Nat.le_of_ble_eq_true rfl | omega) (by first | exact Nat.le_of_ble_eq_true rfl | omega) dX8_failureOf_64 ?_
    exact ⟨rfl, by omega, p21.2 (by omega)⟩
  have c22 : (X 25 g 0) = 4 := by omega
  refine lv_tableIn (off := 61) (tgt := 65) hx hb dX8_failureOf_4 (by rw [tc2]; omega) (by rw [tc2]; omega) (by rw [tc2, c22]; rfl) (by decide) ?_
  refine lv_aload_n hx hb dX8_failureOf_65 rfl (lv_at hl 1 rfl) ?_
  refine lv_aload_n hx hb dX8_failureOf_66 rfl (lv_at hl 2 rfl) ?_
  refine gos_i (run_S (As := [.ref (ad 15 x), .ref (ad 25 g)]) (rest := []) hx hb hml hown hts (c_X8_failureOfLeast l D tc base ad cnt X Y ln hR hFx hLn hCI x g (by omega) (by omega) (by omega)) (cwS 2 hts gX8_failureOf_X8_failureOfLeast rfl rfl rfl (by first | exact hd_X8_failureOfLeast | decide +kernel) ⟨Nat.le_of_ble_eq_true rfl, Nat.le_of_ble_eq_true rfl⟩) hK hw rfl hl.1 rfl (Nat.le_of_ble_eq_true rfl) dX8_failureOf_67 ⟨Nat.le_of_ble_eq_true rfl, Nat.le_of_ble_eq_true rfl⟩) hS (fun z23 u24 H locs p25 hw hS => ?_)
  obtain ⟨eu24, p25⟩ := p25
  subst eu24
  rw [hQ9]
  refine ret_i (mc := 0) (ms := 0) hx hb hr hlocks hw hS (by first | exact Nat.le_of_ble_eq_true rfl | omega) (by first | exact Nat.le_of_ble_eq_true rfl | omega) dX8_failureOf_70 ?_
  exact ⟨rfl, by omega, p25.2 (by omega)⟩

set_option maxHeartbeats 4000000 in
set_option maxRecDepth 100000 in
theorem c_X8_firstFailingCheck (l : Launch) (D : va_G) (tc : Nat → ClassId) (base : Nat) (ad : Nat → Int → Nat) (cnt : Nat → Int) (X : Nat → Int → Int → Int) (Y : Nat → Int → Int → Option Int) (ln : Int → Int) (hR : Rng X) (hFx : Fx cnt) (hLn : LnOK ln) (hCI : CInv cnt X Y ln) (x : Int) (hx0 : 0 ≤ x ∧ x ≤ 29) (hxt : x < X 0 0 3) : KI l D tc base yX8_firstFailingCheck wsX8_firstFailingCheck ({ frames := 5, cells := 0, slots := 0, locals := 110 } : Room) [.ref (ad 0 0), .ref (ad 15 x)] (ad, cnt, X, Y, ln) 0 0 (fun z u => u = (ad, cnt, X, Y, ln) ∧ (-1 ≤ z ∧ z ≤ 3) ∧ (∀ t, Y 15 x 0 = some t → z < X 19 t 6) ∧ ((z = -1 ∧ ∀ c, 0 ≤ c → c < X 19 (tyo (Y 15 x 0)) 6 → ckC X Y ln x (tyo (Y 24 (tyo (Y 15 x 0)) c)) = 0) ∨ (0 ≤ z ∧ z < X 19 (tyo (Y 15 x 0)) 6 ∧ (∀ c, 0 ≤ c → c < z → ckC X Y ln x (tyo (Y 24 (tyo (Y 15 x 0)) c)) = 0) ∧ ckC X Y ln x (tyo (Y 24 (tyo (Y 15 x 0)) z)) ≠ 0))) := by
  refine K_of (cc := cX8_firstFailingCheck) (maxL := 3) (ret := (some .int)) (by decide) rfl (Nat.le_of_ble_eq_true rfl) ?_
  intro p e s m below meth c ls hx hb hr hml hown hts hlocks hl hK hw hS
  have hown : s.vm.findClass RX8 = some m.cls := hown
  obtain ⟨av9, hav9⟩ : ∃ a9 : Array Value, a9 = ([.ref (ad 0 0), .ref (ad 15 x)] : List Value).toArray := ⟨_, rfl⟩
  rw [← hav9] at hts ⊢
  obtain ⟨Q9, hQ9⟩ : ∃ q9Q : State → Prop, q9Q = MQ below (QI D tc base (fun z u => u = (ad, cnt, X, Y, ln) ∧ (-1 ≤ z ∧ z ≤ 3) ∧ (∀ t, Y 15 x 0 = some t → z < X 19 t 6) ∧ ((z = -1 ∧ ∀ c, 0 ≤ c → c < X 19 (tyo (Y 15 x 0)) 6 → ckC X Y ln x (tyo (Y 24 (tyo (Y 15 x 0)) c)) = 0) ∨ (0 ≤ z ∧ z < X 19 (tyo (Y 15 x 0)) 6 ∧ (∀ c, 0 ≤ c → c < z → ckC X Y ln x (tyo (Y 24 (tyo (Y 15 x 0)) c)) = 0) ∧ ckC X Y ln x (tyo (Y 24 (tyo (Y 15 x 0)) z)) ≠ 0)))) av9 s 0 0 (frA base) := ⟨_, rfl⟩
  rw [← hQ9]
  have hi6 : ∀ w ∈ wsX60, w ∈ wsX8_firstFailingCheck := fun w h => List.mem_cons_of_mem _ (List.mem_append_left _ (List.mem_append_left _ (List.mem_append_left _ (List.mem_append_left _ (List.mem_append_right _ h)))))
  have hf6 : fctx s m _ RX8 wsX8_firstFailingCheck D tc RX6 TX6 4 6 := ⟨hts, hi6, hown, hK.1, rfl⟩
  have hi7 : ∀ w ∈ wsX70, w ∈ wsX8_firstFailingCheck := fun w h => List.mem_cons_of_mem _ (List.mem_append_left _ (List.mem_append_left _ (List.mem_append_left _ (List.mem_append_right _ h))))
  have hf7 : fctx s m _ RX8 wsX8_firstFailingCheck D tc RX7 TX7 8 7 := ⟨hts, hi7, hown, hK.1, rfl⟩
  have lk97 := hts (.fieldLink RX8 97 (TX6 0).1 (TX6 0).2.1 (TX6 0).2.2.1) (gj_X8_firstFailingCheck_0 _ (gp_h))
  have lk115 := hts (.fieldLink RX8 115 (TX7 6).1 (TX7 6).2.1 (TX7 6).2.2.1) (gj_X8_firstFailingCheck_0 _ (gp_1 gp_h))
  have lk118 := hts (.fieldLink RX8 118 (TX7 7).1 (TX7 7).2.1 (TX7 7).2.2.1) (gj_X8_firstFailingCheck_0 _ (gp_1 (gp_1 gp_h)))
  have hc0 : cnt 0 = 1 := hFx.at 0 1 (by decide)
  have hc15 : cnt 15 = 30 := hFx.at 15 30 (by decide)
  have hc24 : cnt 24 = cnt 19 := hFx.2.1 24 (by decide)
  have hl : lv_has ls 3 [(0, .ref (ad 0 0)), (1, .ref (ad 15 x))] := hl
  have ftc : 0 ≤ X 0 0 3 ∧ X 0 0 3 ≤ 30 := hR 0 0 3
  have fty : 0 ≤ X 0 0 1 ∧ X 0 0 1 ≤ 8 := hR 0 0 1
  have hct : cnt 19 = X 0 0 1 := hCI.2.2.2.1.1
  have hfj : 0 ≤ X 29 0 3 ∧ X 29 0 3 ≤ 4 := hR 29 0 3
  have hfn : 0 ≤ X 29 0 1 ∧ X 29 0 1 ≤ 80 := hR 29 0 1
  refine lv_iconst (v := jI 0) hx hb dX8_firstFailingCheck_0 rfl ?_
  refine lv_istore_n (lv' := [(2, .int (jI 0)), (0, .ref (ad 0 0)), (1, .ref (ad 15 x))]) hx hb dX8_firstFailingCheck_1 rfl hl (by decide) rfl (fun ls hl => ?_)
  have lp2 : ∀ (nn : Nat) (cz : Int) (H : Heap) (locs : List Loc) (ls : Array Slot), (4 - cz) < (nn : Int) → (0 ≤ cz ∧ cz ≤ 4) → (∀ c, 0 ≤ c → c < cz → ckC X Y ln x (tyo (Y 24 (tyo (Y 15 x 0)) c)) = 0) → wd D tc base (ad, cnt, X, Y, ln) H → va_S (frA base) s.heap H locs → lv_has ls 3 [(0, .ref (ad 0 0)), (1, .ref (ad 15 x)), (2, .int (jI cz))] → W p l e ({ frames := 5, cells := 0, slots := 0, locals := 110 } : Room) s m av9 below meth c H locs 0 0 Q9 (F0 m 2 ls []) := by
    intro nn
    induction nn with
    | zero => intro cz H locs ls hm hcz hcl hw hS hl; exfalso; omega
    | succ nn ih2 =>
      intro cz H locs ls hm hcz hcl hw hS hl
      refine lv_iload_n hx hb dX8_firstFailingCheck_2 rfl (lv_at hl 2 rfl) ?_
      refine lv_aload_n hx hb dX8_firstFailingCheck_3 rfl (lv_at hl 1 rfl) ?_
      refine x_getr (jz := 0) hx hb hf6 hw (by omega) (by omega) sl_15_0 rfl lk97 dX8_firstFailingCheck_4 (fun y1 => ?_) (fun r2 y1 gr2 lr2 => ?_)
      · exfalso
        exact absurd y1 (hCI.2.2.2.2.1 x (by omega) (by omega))
      · refine x_geti (jz := 6) hx hb hf7 hw (by omega) (by omega) sl_19_6 rfl lk115 dX8_firstFailingCheck_7 ?_
        have f3 : 0 ≤ X 19 r2 6 ∧ X 19 r2 6 ≤ 4 := hR 19 r2 6
        refine x_icmp_ge (tgt := 38) hx hb (by omega) (by omega) dX8_firstFailingCheck_10 (by decide) (fun c4 => ?_) (fun c4 => ?_)
        · refine lv_iconst (v := jI (-1)) hx hb dX8_firstFailingCheck_38 rfl ?_
          rw [hQ9]
          refine ret_i (mc := 0) (ms := 0) hx hb hr hlocks hw hS (by first | exact Nat.le_of_ble_eq_true rfl | omega) (by first | exact Nat.le_of_ble_eq_true rfl | omega) dX8_firstFailingCheck_39 ?_
          exact ⟨rfl, by omega, fun t ht => (by rw [y1] at ht; cases ht; omega), (by rw [tyo_some y1]; exact Or.inl ⟨rfl, fun c a b => (by have h9 := hcl c a (by omega); first | exact h9 | (rw [tyo_some y1] at h9; exact h9))⟩)⟩
        · refine lv_aload_n hx hb dX8_firstFailingCheck_13 rfl (lv_at hl 0 rfl) ?_
          refine lv_aload_n hx hb dX8_firstFailingCheck_14 rfl (lv_at hl 1 rfl) ?_
          refine lv_aload_n hx hb dX8_firstFailingCheck_15 rfl (lv_at hl 1 rfl) ?_
          refine x_getr (jz := 0) hx hb hf6 hw (by omega) (by omega) sl_15_0 rfl lk97 dX8_firstFailingCheck_16 (fun y5 => ?_) (fun r6 y5 gr6 lr6 => ?_)
          · exfalso
            rw [y1] at y5; cases y5
          · have er6 : r6 = r2 := by rw [y1] at y5; cases y5; rfl
            rw [er6]
            refine x_geto hx hb hf7 hw (by omega) (by omega) sl_19_7 lk118 dX8_firstFailingCheck_19 ?_
            refine lv_iload_n hx hb dX8_firstFailingCheck_22 rfl (lv_at hl 2 rfl) ?_
            refine x_aald hx hb hK.1 hw (by omega) (by omega) ar_24 rfl (len_E ar_24 (by first | exact Nat.ne_of_beq_eq_false rfl | decide)) (by omega) (by omega) (by omega) dX8_firstFailingCheck_23 (fun y7 => ?_) (fun r8 y7 gr8 lr8 => ?_)
            · exfalso
              exact absurd y7 (hCI.2.2.2.2.2.1 r2 cz (by omega) (by omega) (by omega) (by omega))
            · refine gos_i (run_V (As := [.ref (ad 15 x), .ref (ad 25 r8)]) (rest := []) hx hb hml hown hts (c_X8_failureOf l D tc base ad cnt X Y ln hR hFx hLn hCI x r8 (by omega) (by omega) (by omega)) (cwV 2 hts gX8_firstFailingCheck_X8_failureOf rfl rfl rfl (by first | exact hd_X8_failureOf | decide +kernel) ⟨Nat.le_of_ble_eq_true rfl, Nat.le_of_ble_eq_true rfl⟩) hK hw (by first | exact Int.le_refl 0 | omega) (by first | exact zlt hc0 | omega) sl_0_0 rfl rfl hl.1 rfl (Nat.le_of_ble_eq_true rfl) dX8_firstFailingCheck_24 ⟨Nat.le_of_ble_eq_true rfl, Nat.le_of_ble_eq_true rfl⟩) hS (fun z9 u10 H locs p11 hw hS => ?_)
              obtain ⟨eu10, p11⟩ := p11
              subst eu10
              refine x_if_eq (tgt := 32) hx hb (by omega) dX8_firstFailingCheck_27 (by decide) (fun c12 => ?_) (fun c12 => ?_)
              · refine lv_iinc (v := jI (cz + 1)) (lv' := [(2, .int (jI (cz + 1))), (0, .ref (ad 0 0)), (1, .ref (ad 15 x))]) hx hb dX8_firstFailingCheck_32 hl (k := 2) rfl (jI_add _ _) (by decide) rfl (fun ls hl => ?_)
                refine lv_goto (tgt := 2) hx hb dX8_firstFailingCheck_35 (by decide) ?_
                exact ih2 (cz + 1) _ _ _ (by omega) (by omega) (fun c a b => if hc9 : c = cz then (by rw [hc9, tyo_some y1, tyo_some y7]; omega) else hcl c a (by omega)) hw hS (lv_sub hl [1, 2, 0] rfl)
              · refine lv_iload_n hx hb dX8_firstFailingCheck_30 rfl (lv_at hl 2 rfl) ?_
                rw [hQ9]
                refine ret_i (mc := 0) (ms := 0) hx hb hr hlocks hw hS (by first | exact Nat.le_of_ble_eq_true rfl | omega) (by first | exact Nat.le_of_ble_eq_true rfl | omega) dX8_firstFailingCheck_31 ?_
                exact ⟨rfl, by omega, fun t ht => (by rw [y1] at ht; cases ht; omega), (by rw [tyo_some y1]; have h8 := hcl; rw [tyo_some y1] at h8; exact Or.inr ⟨by omega, by omega, h8, (by rw [tyo_some y7]; omega)⟩)⟩
  exact lp2 (4 - 0 : Int).toNat.succ 0 _ _ _ (by omega) (by omega) (fun c a b => by omega) hw hS (lv_sub hl [1, 2, 0] rfl)
end
section
set_option maxHeartbeats 4000000 in
set_option maxRecDepth 100000 in
theorem c_X1_tell (l : Launch) (D : va_G) (tc : Nat → ClassId) (base : Nat) (ad : Nat → Int → Nat) (cnt : Nat → Int) (X : Nat → Int → Int → Int) (Y : Nat → Int → Int → Option Int) (ln : Int → Int) (hR : Rng X) (hFx : Fx cnt) (hLn : LnOK ln) (hCI : CInv cnt X Y ln) (a b d : Int) (ha : -2147483648 ≤ a ∧ a ≤ 2147483647) (hb : -2147483648 ≤ b ∧ b ≤ 2147483647) (hd : -2147483648 ≤ d ∧ d ≤ 2147483647) : KV l D tc base yX1_tell wsX1_tell ({ frames := 0, cells := 0, slots := 0, locals := 0 } : Room) [.ref (ad 32 0), .int (jI a), .int (jI b), .int (jI d)] (ad, cnt, X, Y, ln) 0 0 (fun u => ∃ (X1 : Nat → Int → Int → Int), u = (ad, cnt, X1, Y, ln) ∧ Rng X1 ∧ Frm [3201, 3202, 3203, 3204] X X1 ∧ CInv cnt X1 Y ln ∧ (0 : Int) ≤ 0) := by
  refine K_of (cc := cX1_tell) (maxL := 4) (ret := none) (by decide) rfl (Nat.le_of_ble_eq_true rfl) ?_
  intro p e s m below meth c ls hx hb hr hml hown hts hlocks hl hK hw hS
  have hown : s.vm.findClass RX1 = some m.cls := hown
  obtain ⟨av9, hav9⟩ : ∃ a9 : Array Value, a9 = ([.ref (ad 32 0), .int (jI a), .int (jI b), .int (jI d)] : List Value).toArray := ⟨_, rfl⟩
  rw [← hav9] at hts ⊢
  obtain ⟨Q9, hQ9⟩ : ∃ q9Q : State → Prop, q9Q = MQ below (QV D tc base (fun u => ∃ (X1 : Nat → Int → Int → Int), u = (ad, cnt, X1, Y, ln) ∧ Rng X1 ∧ Frm [3201, 3202, 3203, 3204] X X1 ∧ CInv cnt X1 Y ln ∧ (0 : Int) ≤ 0)) av9 s 0 0 (frA base) := ⟨_, rfl⟩
  rw [← hQ9]
  have hi1 : ∀ w ∈ wsX10, w ∈ wsX1_tell := fun w h => List.mem_cons_of_mem _ (List.mem_append_right _ h)
  have hf1 : fctx s m _ RX1 wsX1_tell D tc RX1 TX1 4 1 := ⟨hts, hi1, hown, hK.1, rfl⟩
  have lk7 := hts (.fieldLink RX1 7 (TX1 0).1 (TX1 0).2.1 (TX1 0).2.2.1) (gj_X1_tell_0 _ (gp_h))
  have lk13 := hts (.fieldLink RX1 13 (TX1 1).1 (TX1 1).2.1 (TX1 1).2.2.1) (gj_X1_tell_0 _ (gp_1 gp_h))
  have lk17 := hts (.fieldLink RX1 17 (TX1 2).1 (TX1 2).2.1 (TX1 2).2.2.1) (gj_X1_tell_0 _ (gp_1 (gp_1 gp_h)))
  have lk20 := hts (.fieldLink RX1 20 (TX1 3).1 (TX1 3).2.1 (TX1 3).2.2.1) (gj_X1_tell_0 _ (gp_1 (gp_1 (gp_1 gp_h))))
  have hc32 : cnt 32 = 1 := hFx.at 32 1 (by decide)
  have hl : lv_has ls 4 [(0, .ref (ad 32 0)), (1, .int (jI a)), (2, .int (jI b)), (3, .int (jI d))] := hl
  have ftc : 0 ≤ X 0 0 3 ∧ X 0 0 3 ≤ 30 := hR 0 0 3
  have fty : 0 ≤ X 0 0 1 ∧ X 0 0 1 ≤ 8 := hR 0 0 1
  have hct : cnt 19 = X 0 0 1 := hCI.2.2.2.1.1
  have hfj : 0 ≤ X 29 0 3 ∧ X 29 0 3 ≤ 4 := hR 29 0 3
  have hfn : 0 ≤ X 29 0 1 ∧ X 29 0 1 ≤ 80 := hR 29 0 1
  refine lv_aload_n hx hb dX1_tell_0 rfl (lv_at hl 0 rfl) ?_
  refine lv_iconst (v := jI 1) hx hb dX1_tell_1 rfl ?_
  refine x_puti (jz := 0) hx hb hf1 ⟨tyX1_ok, nmX1⟩ hw hS (by first | exact Int.le_refl 0 | omega) (by first | exact zlt hc32 | omega) sl_32_0 rfl lk7 rfl (tyX1_ok 0 (by decide)) (by decide) (by decide) dX1_tell_2 (fun H locs hw hS => ?_)
  obtain ⟨X1, hX1⟩ : ∃ Xq, Xq = u3 X 32 0 0 1 := ⟨_, rfl⟩
  rw [← hX1] at hw
  have hRX1 : Rng X1 := by rw [hX1]; exact rng_set hR (show 0 ≤ 1 ∧ 1 ≤ 1 by omega)
  have hVX1 : X1 32 0 0 = 1 := by rw [hX1]; exact u3_s _ _ _ _ _
  have hFX1 : Frm [3201, 3202, 3203, 3204] X X1 := by rw [hX1]; exact Frm.set Frm.rf (show 3201 ∈ [3201, 3202, 3203, 3204] by first | exact nlm_in rfl | decide)
  refine lv_aload_n hx hb dX1_tell_5 rfl (lv_at hl 0 rfl) ?_
  refine lv_iload_n hx hb dX1_tell_6 rfl (lv_at hl 1 rfl) ?_
  refine x_puti (jz := 1) hx hb hf1 ⟨tyX1_ok, nmX1⟩ hw hS (by first | exact Int.le_refl 0 | omega) (by first | exact zlt hc32 | omega) sl_32_1 rfl lk13 rfl (tyX1_ok 1 (by decide)) rfl rfl dX1_tell_7 (fun H locs hw hS => ?_)
  obtain ⟨X2, hX2⟩ : ∃ Xq, Xq = u3 X1 32 0 1 a := ⟨_, rfl⟩
  rw [← hX2] at hw
  have hRX2 : Rng X2 := by rw [hX2]; exact rng_set hRX1 (show (-2147483648) ≤ a ∧ a ≤ 2147483647 by omega)
  have hVX2 : X2 32 0 1 = a := by rw [hX2]; exact u3_s _ _ _ _ _
  have hFX2 : Frm [3201, 3202, 3203, 3204] X X2 := by rw [hX2]; exact Frm.set hFX1 (show 3202 ∈ [3201, 3202, 3203, 3204] by first | exact nlm_in rfl | decide)
  refine lv_aload_n hx hb dX1_tell_10 rfl (lv_at hl 0 rfl) ?_
  refine lv_iload_n hx hb dX1_tell_11 rfl (lv_at hl 2 rfl) ?_
  refine x_puti (jz := 2) hx hb hf1 ⟨tyX1_ok, nmX1⟩ hw hS (by first | exact Int.le_refl 0 | omega) (by first | exact zlt hc32 | omega) sl_32_2 rfl lk17 rfl (tyX1_ok 2 (by decide)) rfl rfl dX1_tell_12 (fun H locs hw hS => ?_)
  obtain ⟨X3, hX3⟩ : ∃ Xq, Xq = u3 X2 32 0 2 b := ⟨_, rfl⟩
  rw [← hX3] at hw
  have hRX3 : Rng X3 := by rw [hX3]; exact rng_set hRX2 (show (-2147483648) ≤ b ∧ b ≤ 2147483647 by omega)
  have hVX3 : X3 32 0 2 = b := by rw [hX3]; exact u3_s _ _ _ _ _
  have hFX3 : Frm [3201, 3202, 3203, 3204] X X3 := by rw [hX3]; exact Frm.set hFX2 (show 3203 ∈ [3201, 3202, 3203, 3204] by first | exact nlm_in rfl | decide)
  refine lv_aload_n hx hb dX1_tell_15 rfl (lv_at hl 0 rfl) ?_
  refine lv_iload_n hx hb dX1_tell_16 rfl (lv_at hl 3 rfl) ?_
  refine x_puti (jz := 3) hx hb hf1 ⟨tyX1_ok, nmX1⟩ hw hS (by first | exact Int.le_refl 0 | omega) (by first | exact zlt hc32 | omega) sl_32_3 rfl lk20 rfl (tyX1_ok 3 (by decide)) rfl rfl dX1_tell_17 (fun H locs hw hS => ?_)
  obtain ⟨X4, hX4⟩ : ∃ Xq, Xq = u3 X3 32 0 3 d := ⟨_, rfl⟩
  rw [← hX4] at hw
  have hRX4 : Rng X4 := by rw [hX4]; exact rng_set hRX3 (show (-2147483648) ≤ d ∧ d ≤ 2147483647 by omega)
  have hVX4 : X4 32 0 3 = d := by rw [hX4]; exact u3_s _ _ _ _ _
  have hFX4 : Frm [3201, 3202, 3203, 3204] X X4 := by rw [hX4]; exact Frm.set hFX3 (show 3204 ∈ [3201, 3202, 3203, 3204] by first | exact nlm_in rfl | decide)
  rw [hQ9]
  refine ret_v (mc := 0) (ms := 0) hx hb hr hlocks hw hS (by first | exact Nat.le_of_ble_eq_true rfl | omega) (by first | exact Nat.le_of_ble_eq_true rfl | omega) dX1_tell_20 ?_
  have q5 : Frm [3201, 3202, 3203, 3204] X X1 := by rw [hX1]; exact Frm.set Frm.rf (show 3201 ∈ [3201, 3202, 3203, 3204] by first | exact nlm_in rfl | decide)
  have q6 : Frm [3201, 3202, 3203, 3204] X X2 := by rw [hX2]; exact Frm.set q5 (show 3202 ∈ [3201, 3202, 3203, 3204] by first | exact nlm_in rfl | decide)
  have q7 : Frm [3201, 3202, 3203, 3204] X X3 := by rw [hX3]; exact Frm.set q6 (show 3203 ∈ [3201, 3202, 3203, 3204] by first | exact nlm_in rfl | decide)
  have q8 : Frm [3201, 3202, 3203, 3204] X X4 := by rw [hX4]; exact Frm.set q7 (show 3204 ∈ [3201, 3202, 3203, 3204] by first | exact nlm_in rfl | decide)
  have hCq9 : CInv cnt X4 Y ln := cinv_frm (M := [3201, 3202, 3203, 3204]) (N := []) hCI q8 Frm.rf (by decide) (by decide)
  exact ⟨X4, rfl, hRX4, hFX4, hCq9, by omega⟩

set_option maxHeartbeats 4000000 in
set_option maxRecDepth 100000 in
theorem c_X2_isFull (l : Launch) (D : va_G) (tc : Nat → ClassId) (base : Nat) (ad : Nat → Int → Nat) (cnt : Nat → Int) (X : Nat → Int → Int → Int) (Y : Nat → Int → Int → Option Int) (ln : Int → Int) (hR : Rng X) (hFx : Fx cnt) (hLn : LnOK ln) (hCI : CInv cnt X Y ln) : KI l D tc base yX2_isFull wsX2_isFull ({ frames := 0, cells := 0, slots := 0, locals := 0 } : Room) [.ref (ad 29 0)] (ad, cnt, X, Y, ln) 0 0 (fun z u => u = (ad, cnt, X, Y, ln) ∧ ((z = 1 ∧ 80 ≤ X 29 0 1) ∨ (z = 0 ∧ X 29 0 1 ≤ 79))) := by
  refine K_of (cc := cX2_isFull) (maxL := 1) (ret := (some .boolean)) (by decide) rfl (Nat.le_of_ble_eq_true rfl) ?_
  intro p e s m below meth c ls hx hb hr hml hown hts hlocks hl hK hw hS
  have hown : s.vm.findClass RX2 = some m.cls := hown
  obtain ⟨av9, hav9⟩ : ∃ a9 : Array Value, a9 = ([.ref (ad 29 0)] : List Value).toArray := ⟨_, rfl⟩
  rw [← hav9] at hts ⊢
  obtain ⟨Q9, hQ9⟩ : ∃ q9Q : State → Prop, q9Q = MQ below (QI D tc base (fun z u => u = (ad, cnt, X, Y, ln) ∧ ((z = 1 ∧ 80 ≤ X 29 0 1) ∨ (z = 0 ∧ X 29 0 1 ≤ 79)))) av9 s 0 0 (frA base) := ⟨_, rfl⟩
  rw [← hQ9]
  have hi2 : ∀ w ∈ wsX20, w ∈ wsX2_isFull := fun w h => List.mem_cons_of_mem _ (List.mem_append_right _ h)
  have hf2 : fctx s m _ RX2 wsX2_isFull D tc RX2 TX2 4 2 := ⟨hts, hi2, hown, hK.1, rfl⟩
  have lk22 := hts (.fieldLink RX2 22 (TX2 1).1 (TX2 1).2.1 (TX2 1).2.2.1) (gj_X2_isFull_0 _ (gp_h))
  have hc29 : cnt 29 = 1 := hFx.at 29 1 (by decide)
  have hl : lv_has ls 1 [(0, .ref (ad 29 0))] := hl
  have ftc : 0 ≤ X 0 0 3 ∧ X 0 0 3 ≤ 30 := hR 0 0 3
  have fty : 0 ≤ X 0 0 1 ∧ X 0 0 1 ≤ 8 := hR 0 0 1
  have hct : cnt 19 = X 0 0 1 := hCI.2.2.2.1.1
  have hfj : 0 ≤ X 29 0 3 ∧ X 29 0 3 ≤ 4 := hR 29 0 3
  have hfn : 0 ≤ X 29 0 1 ∧ X 29 0 1 ≤ 80 := hR 29 0 1
  refine lv_aload_n hx hb dX2_isFull_0 rfl (lv_at hl 0 rfl) ?_
  refine x_geti (jz := 1) hx hb hf2 hw (by first | exact Int.le_refl 0 | omega) (by first | exact zlt hc29 | omega) sl_29_1 rfl lk22 dX2_isFull_1 ?_
  have f1 : 0 ≤ X 29 0 1 ∧ X 29 0 1 ≤ 80 := hR 29 0 1
  refine lv_bipush (v := jI 80) hx hb dX2_isFull_4 (by decide) ?_
  refine x_icmp_lt (tgt := 13) hx hb (by omega) (by omega) dX2_isFull_6 (by decide) (fun c2 => ?_) (fun c2 => ?_)
  · refine lv_iconst (v := jI 0) hx hb dX2_isFull_13 rfl ?_
    rw [hQ9]
    refine ret_z (mc := 0) (ms := 0) hx hb hr hlocks hw hS (by first | exact Nat.le_of_ble_eq_true rfl | omega) (by first | exact Nat.le_of_ble_eq_true rfl | omega) dX2_isFull_14 (by omega) ?_
    exact ⟨rfl, Or.inr ⟨rfl, (by first | omega | (intro q; first | omega | (simp only [Hid] at *; omega)))⟩⟩
  · refine lv_iconst (v := jI 1) hx hb dX2_isFull_9 rfl ?_
    refine lv_goto (tgt := 14) hx hb dX2_isFull_10 (by decide) ?_
    rw [hQ9]
    refine ret_z (mc := 0) (ms := 0) hx hb hr hlocks hw hS (by first | exact Nat.le_of_ble_eq_true rfl | omega) (by first | exact Nat.le_of_ble_eq_true rfl | omega) dX2_isFull_14 (by omega) ?_
    exact ⟨rfl, Or.inl ⟨rfl, by omega⟩⟩

set_option maxHeartbeats 4000000 in
set_option maxRecDepth 100000 in
theorem c_X2_write_rr (l : Launch) (D : va_G) (tc : Nat → ClassId) (base : Nat) (ad : Nat → Int → Nat) (cnt : Nat → Int) (X : Nat → Int → Int → Int) (Y : Nat → Int → Int → Option Int) (ln : Int → Int) (hR : Rng X) (hFx : Fx cnt) (hLn : LnOK ln) (hCI : CInv cnt X Y ln) (x i v g : Int) (hx0 : 0 ≤ x ∧ x ≤ 29) (hi : 0 ≤ i ∧ i ≤ 4) (hv : -9223372036854775808 ≤ v ∧ v ≤ 9223372036854775807) (hg : 0 ≤ g ∧ g < cnt 26) (hnf : X 29 0 1 ≤ 79) : KV l D tc base yX2_write wsX2_write ({ frames := 1, cells := 0, slots := 0, locals := 20 } : Room) [.ref (ad 29 0), .ref (ad 15 x), .int (jI i), .long (jL v), .ref (ad 26 g)] (ad, cnt, X, Y, ln) 0 0 (fun u => ∃ (X1 : Nat → Int → Int → Int) (Y1 : Nat → Int → Int → Option Int), u = (ad, cnt, X1, Y1, ln) ∧ Rng X1 ∧ Frm [2802, 2803, 2902] X X1 ∧ Frm [2801, 2804] Y Y1 ∧ CInv cnt X1 Y1 ln ∧ (0 : Int) ≤ 0 ∧ eNoteC X X1 Y Y1 (some x) i v (some g)) := by
  refine K_of (cc := cX2_write) (maxL := 7) (ret := none) (by decide) rfl (Nat.le_of_ble_eq_true rfl) ?_
  intro p e s m below meth c ls hx hb hr hml hown hts hlocks hl hK hw hS
  have hown : s.vm.findClass RX2 = some m.cls := hown
  obtain ⟨av9, hav9⟩ : ∃ a9 : Array Value, a9 = ([.ref (ad 29 0), .ref (ad 15 x), .int (jI i), .long (jL v), .ref (ad 26 g)] : List Value).toArray := ⟨_, rfl⟩
  rw [← hav9] at hts ⊢
  obtain ⟨Q9, hQ9⟩ : ∃ q9Q : State → Prop, q9Q = MQ below (QV D tc base (fun u => ∃ (X1 : Nat → Int → Int → Int) (Y1 : Nat → Int → Int → Option Int), u = (ad, cnt, X1, Y1, ln) ∧ Rng X1 ∧ Frm [2802, 2803, 2902] X X1 ∧ Frm [2801, 2804] Y Y1 ∧ CInv cnt X1 Y1 ln ∧ (0 : Int) ≤ 0 ∧ eNoteC X X1 Y Y1 (some x) i v (some g))) av9 s 0 0 (frA base) := ⟨_, rfl⟩
  rw [← hQ9]
  have hi2 : ∀ w ∈ wsX20, w ∈ wsX2_write := fun w h => List.mem_cons_of_mem _ (List.mem_append_left _ (List.mem_append_right _ h))
  have hf2 : fctx s m _ RX2 wsX2_write D tc RX2 TX2 4 2 := ⟨hts, hi2, hown, hK.1, rfl⟩
  have hi3 : ∀ w ∈ wsX30, w ∈ wsX2_write := fun w h => List.mem_cons_of_mem _ (List.mem_append_right _ h)
  have hf3 : fctx s m _ RX2 wsX2_write D tc RX3 TX3 4 3 := ⟨hts, hi3, hown, hK.1, rfl⟩
  have lk11 := hts (.fieldLink RX2 11 (TX2 0).1 (TX2 0).2.1 (TX2 0).2.2.1) (gj_X2_write_0 _ (gp_1 gp_h))
  have lk22 := hts (.fieldLink RX2 22 (TX2 1).1 (TX2 1).2.1 (TX2 1).2.2.1) (gj_X2_write_0 _ (gp_1 (gp_1 gp_h)))
  have lk45 := hts (.fieldLink RX2 45 (TX2 3).1 (TX2 3).2.1 (TX2 3).2.2.1) (gj_X2_write_0 _ (gp_h))
  have lk52 := hts (.fieldLink RX2 52 (TX3 0).1 (TX3 0).2.1 (TX3 0).2.2.1) (gj_X2_write_0 _ (gp_1 (gp_1 (gp_1 gp_h))))
  have lk56 := hts (.fieldLink RX2 56 (TX3 1).1 (TX3 1).2.1 (TX3 1).2.2.1) (gj_X2_write_0 _ (gp_4 gp_h))
  have lk59 := hts (.fieldLink RX2 59 (TX3 2).1 (TX3 2).2.1 (TX3 2).2.2.1) (gj_X2_write_0 _ (gp_4 (gp_1 gp_h)))
  have lk63 := hts (.fieldLink RX2 63 (TX3 3).1 (TX3 3).2.1 (TX3 3).2.2.1) (gj_X2_write_0 _ (gp_4 (gp_1 (gp_1 gp_h))))
  have hc15 : cnt 15 = 30 := hFx.at 15 30 (by decide)
  have hc28 : cnt 28 = 80 := hFx.at 28 80 (by decide)
  have hc29 : cnt 29 = 1 := hFx.at 29 1 (by decide)
  have hc30 : cnt 30 = 1 := hFx.at 30 1 (by decide)
  have hl : lv_has ls 7 [(0, .ref (ad 29 0)), (1, .ref (ad 15 x)), (2, .int (jI i)), (3, .long (jL v)), (5, .ref (ad 26 g))] := hl
  have ftc : 0 ≤ X 0 0 3 ∧ X 0 0 3 ≤ 30 := hR 0 0 3
  have fty : 0 ≤ X 0 0 1 ∧ X 0 0 1 ≤ 8 := hR 0 0 1
  have hct : cnt 19 = X 0 0 1 := hCI.2.2.2.1.1
  have hfj : 0 ≤ X 29 0 3 ∧ X 29 0 3 ≤ 4 := hR 29 0 3
  have hfn : 0 ≤ X 29 0 1 ∧ X 29 0 1 ≤ 80 := hR 29 0 1
  refine lv_aload_n hx hb dX2_write_0 rfl (lv_at hl 0 rfl) ?_
  refine x_geti (jz := 3) hx hb hf2 hw (by first | exact Int.le_refl 0 | omega) (by first | exact zlt hc29 | omega) sl_29_3 rfl lk45 dX2_write_1 ?_
  have f1 : 0 ≤ X 29 0 3 ∧ X 29 0 3 ≤ 4 := hR 29 0 3
  refine x_if_eq (tgt := 14) hx hb (by omega) dX2_write_4 (by decide) (fun c2 => ?_) (fun c2 => ?_)
  · rw [hQ9]
    refine ret_v (mc := 0) (ms := 0) hx hb hr hlocks hw hS (by first | exact Nat.le_of_ble_eq_true rfl | omega) (by first | exact Nat.le_of_ble_eq_true rfl | omega) dX2_write_14 ?_
    exact ⟨X, Y, rfl, hR, Frm.rf, Frm.rf, hCI, by omega, (by first | exact Or.inl ⟨by omega, rfl, rfl, rfl⟩ | (exfalso; omega))⟩
  · refine lv_aload_n hx hb dX2_write_7 rfl (lv_at hl 0 rfl) ?_
    refine gos_i (run_V (As := []) (rest := []) hx hb hml hown hts (c_X2_isFull l D tc base ad cnt X Y ln hR hFx hLn hCI) (cwV 0 hts gX2_write_X2_isFull rfl rfl rfl (by first | exact hd_X2_isFull | decide +kernel) ⟨Nat.le_of_ble_eq_true rfl, Nat.le_of_ble_eq_true rfl⟩) hK hw (by first | exact Int.le_refl 0 | omega) (by first | exact zlt hc29 | omega) sl_29_0 rfl rfl hl.1 rfl (Nat.le_of_ble_eq_true rfl) dX2_write_8 ⟨Nat.le_of_ble_eq_true rfl, Nat.le_of_ble_eq_true rfl⟩) hS (fun z3 u4 H locs p5 hw hS => ?_)
    obtain ⟨eu4, p5⟩ := p5
    subst eu4
    rcases p5 with ⟨ez3, p5⟩ | ⟨ez3, p5⟩
    · subst ez3
      refine x_if_eqF (tgt := 15) hx hb (by omega) (by decide) dX2_write_11 (by decide) ?_
      rw [hQ9]
      refine ret_v (mc := 0) (ms := 0) hx hb hr hlocks hw hS (by first | exact Nat.le_of_ble_eq_true rfl | omega) (by first | exact Nat.le_of_ble_eq_true rfl | omega) dX2_write_14 ?_
      exact ⟨X, Y, rfl, hR, Frm.rf, Frm.rf, hCI, by omega, (by first | exact Or.inl ⟨by omega, rfl, rfl, rfl⟩ | (exfalso; omega))⟩
    · subst ez3
      refine x_if_eqT (tgt := 15) hx hb (by omega) (by decide) dX2_write_11 (by decide) ?_
      refine lv_aload_n hx hb dX2_write_15 rfl (lv_at hl 0 rfl) ?_
      refine x_geto hx hb hf2 hw (by first | exact Int.le_refl 0 | omega) (by first | exact zlt hc29 | omega) sl_29_0 lk11 dX2_write_16 ?_
      refine lv_aload_n hx hb dX2_write_19 rfl (lv_at hl 0 rfl) ?_
      refine x_geti (jz := 1) hx hb hf2 hw (by first | exact Int.le_refl 0 | omega) (by first | exact zlt hc29 | omega) sl_29_1 rfl lk22 dX2_write_20 ?_
      have f6 : 0 ≤ X 29 0 1 ∧ X 29 0 1 ≤ 80 := hR 29 0 1
      refine x_aald hx hb hK.1 hw (by first | exact Int.le_refl 0 | omega) (by first | exact zlt hc30 | omega) ar_30 rfl (len_E ar_30 (by first | exact Nat.ne_of_beq_eq_false rfl | decide)) (by omega) (by omega) (by omega) dX2_write_23 (fun y7 => ?_) (fun r8 y7 gr8 lr8 => ?_)
      · exfalso
        have h9 := hCI.2.1 (X 29 0 1) (by omega) (by omega); rw [h9] at y7; cases y7
      · have er8 : r8 = (X 29 0 1) := by have h9 := hCI.2.1 (X 29 0 1) (by omega) (by omega); rw [h9] at y7; cases y7; rfl
        rw [er8]
        refine lv_astore (lv' := [(6, .ref (ad 28 (X 29 0 1))), (0, .ref (ad 29 0)), (1, .ref (ad 15 x)), (2, .int (jI i)), (3, .long (jL v)), (5, .ref (ad 26 g))]) hx hb dX2_write_24 hl (by decide) rfl (fun ls hl => ?_)
        refine lv_aload hx hb dX2_write_26 (lv_at hl 0 rfl) ?_
        refine lv_aload_n hx hb dX2_write_28 rfl (lv_at hl 2 rfl) ?_
        refine x_putr (jz := 0) hx hb hf3 ⟨tyX3_ok, nmX3⟩ hw hS (by omega) (by omega) sl_28_0 rfl lk52 rfl (by omega) (by omega) (tyX3_ok 0 (by decide)) dX2_write_29 (fun H locs hw hS => ?_)
        obtain ⟨Y9, hY9⟩ : ∃ Yq, Yq = u3 Y 28 (X 29 0 1) 0 (some x) := ⟨_, rfl⟩
        rw [← hY9] at hw
        have hVY9 : Y9 28 (X 29 0 1) 0 = (some x) := by rw [hY9]; exact u3_s _ _ _ _ _
        have hHY9 : Frm [2801, 2804] Y Y9 := by rw [hY9]; exact Frm.set Frm.rf (show 2801 ∈ [2801, 2804] by first | exact nlm_in rfl | decide)
        refine lv_aload hx hb dX2_write_32 (lv_at hl 0 rfl) ?_
        refine lv_iload_n hx hb dX2_write_34 rfl (lv_at hl 3 rfl) ?_
        refine x_puti (jz := 1) hx hb hf3 ⟨tyX3_ok, nmX3⟩ hw hS (by omega) (by omega) sl_28_1 rfl lk56 rfl (tyX3_ok 1 (by decide)) rfl rfl dX2_write_35 (fun H locs hw hS => ?_)
        obtain ⟨X10, hX10⟩ : ∃ Xq, Xq = u3 X 28 (X 29 0 1) 1 i := ⟨_, rfl⟩
        rw [← hX10] at hw
        have hRX10 : Rng X10 := by rw [hX10]; exact rng_set hR (show 0 ≤ i ∧ i ≤ 11 by omega)
        have hVX10 : X10 28 (X 29 0 1) 1 = i := by rw [hX10]; exact u3_s _ _ _ _ _
        have hFX10 : Frm [2802, 2803, 2902] X X10 := by rw [hX10]; exact Frm.set Frm.rf (show 2802 ∈ [2802, 2803, 2902] by first | exact nlm_in rfl | decide)
        refine lv_aload hx hb dX2_write_38 (lv_at hl 0 rfl) ?_
        refine lv_lload_n hx hb dX2_write_40 rfl (lv_at hl 4 rfl) ?_
        refine x_putl (jz := 2) hx hb hf3 ⟨tyX3_ok, nmX3⟩ hw hS (by omega) (by omega) sl_28_2 rfl lk59 rfl (tyX3_ok 2 (by decide)) dX2_write_41 (fun H locs hw hS => ?_)
        obtain ⟨X11, hX11⟩ : ∃ Xq, Xq = u3 X10 28 (X 29 0 1) 2 v := ⟨_, rfl⟩
        rw [← hX11] at hw
        have hRX11 : Rng X11 := by rw [hX11]; exact rng_set hRX10 (show (-9223372036854775808) ≤ v ∧ v ≤ 9223372036854775807 by omega)
        have hVX11 : X11 28 (X 29 0 1) 2 = v := by rw [hX11]; exact u3_s _ _ _ _ _
        have hFX11 : Frm [2802, 2803, 2902] X X11 := by rw [hX11]; exact Frm.set hFX10 (show 2803 ∈ [2802, 2803, 2902] by first | exact nlm_in rfl | decide)
        refine lv_aload hx hb dX2_write_44 (lv_at hl 0 rfl) ?_
        refine lv_aload hx hb dX2_write_46 (lv_at hl 5 rfl) ?_
        refine x_putr (jz := 3) hx hb hf3 ⟨tyX3_ok, nmX3⟩ hw hS (by omega) (by omega) sl_28_3 rfl lk63 rfl (by omega) (by omega) (tyX3_ok 3 (by decide)) dX2_write_48 (fun H locs hw hS => ?_)
        obtain ⟨Y12, hY12⟩ : ∃ Yq, Yq = u3 Y9 28 (X 29 0 1) 3 (some g) := ⟨_, rfl⟩
        rw [← hY12] at hw
        have hVY12 : Y12 28 (X 29 0 1) 3 = (some g) := by rw [hY12]; exact u3_s _ _ _ _ _
        have hHY12 : Frm [2801, 2804] Y Y12 := by rw [hY12]; exact Frm.set hHY9 (show 2804 ∈ [2801, 2804] by first | exact nlm_in rfl | decide)
        refine lv_aload_n hx hb dX2_write_51 rfl (lv_at hl 1 rfl) ?_
        refine lv_dup hx hb dX2_write_52 rfl ?_
        refine x_geti (jz := 1) hx hb hf2 hw (by first | exact Int.le_refl 0 | omega) (by first | exact zlt hc29 | omega) sl_29_1 rfl lk22 dX2_write_53 ?_
        have e13 : X11 29 0 1 = X 29 0 1 := by rw [hX11, u3_k _ _ _ _ (by first | exact Nat.ne_of_beq_eq_false rfl | decide), hX10, u3_k _ _ _ _ (by first | exact Nat.ne_of_beq_eq_false rfl | decide)]
        rw [e13]
        have f14 : 0 ≤ X 29 0 1 ∧ X 29 0 1 ≤ 80 := hR 29 0 1
        refine lv_iconst (v := jI 1) hx hb dX2_write_56 rfl ?_
        refine x_iadd hx hb dX2_write_57 ?_
        refine x_puti (jz := 1) hx hb hf2 ⟨tyX2_ok, nmX2⟩ hw hS (by first | exact Int.le_refl 0 | omega) (by first | exact zlt hc29 | omega) sl_29_1 rfl lk22 rfl (tyX2_ok 1 (by decide)) rfl rfl dX2_write_58 (fun H locs hw hS => ?_)
        obtain ⟨X15, hX15⟩ : ∃ Xq, Xq = u3 X11 29 0 1 ((X 29 0 1) + 1) := ⟨_, rfl⟩
        rw [← hX15] at hw
        have hRX15 : Rng X15 := by rw [hX15]; exact rng_set hRX11 (show 0 ≤ ((X 29 0 1) + 1) ∧ ((X 29 0 1) + 1) ≤ 80 by omega)
        have hVX15 : X15 29 0 1 = ((X 29 0 1) + 1) := by rw [hX15]; exact u3_s _ _ _ _ _
        have hFX15 : Frm [2802, 2803, 2902] X X15 := by rw [hX15]; exact Frm.set hFX11 (show 2902 ∈ [2802, 2803, 2902] by first | exact nlm_in rfl | decide)
        rw [hQ9]
        refine ret_v (mc := 0) (ms := 0) hx hb hr hlocks hw hS (by first | exact Nat.le_of_ble_eq_true rfl | omega) (by first | exact Nat.le_of_ble_eq_true rfl | omega) dX2_write_61 ?_
        have e16 : X15 28 (X 29 0 1) 1 = i := (by rw [hX15, u3_k _ _ _ _ (by first | exact Nat.ne_of_beq_eq_false rfl | decide), hX11, u3_ij (by omega)]; exact hVX10)
        have e17 : Y12 28 (X 29 0 1) 0 = (some x) := (by rw [hY12, u3_ij (by omega)]; exact hVY9)
        have e18 : Y12 28 (X 29 0 1) 3 = (some g) := (by exact hVY12)
        exact ⟨X15, Y12, rfl, hRX15, hFX15, hHY12, cinv_note (n := (X 29 0 1)) hCI hFX15 hHY12 (fun m hm => ⟨(by rw [hX15, u3_k _ _ _ _ (by first | exact Nat.ne_of_beq_eq_false rfl | decide), hX11, u3_ij (by omega), hX10, u3_ij (by omega)]), (by rw [hY12, u3_ij (by omega), hY9, u3_ij (by omega)]), (by rw [hY12, u3_ij (by omega), hY9, u3_ij (by omega)])⟩) ⟨fun _ => by rw [e16]; omega, fun h => by rw [e17] at h; cases h⟩, by omega, Or.inr ⟨by omega, (by exact hVX15), ⟨(by rw [hY12, u3_ij (by omega)]; exact hVY9), (by rw [hX15, u3_k _ _ _ _ (by first | exact Nat.ne_of_beq_eq_false rfl | decide), hX11, u3_ij (by omega)]; exact hVX10), (by rw [hX15, u3_k _ _ _ _ (by first | exact Nat.ne_of_beq_eq_false rfl | decide)]; exact hVX11), (by exact hVY12)⟩, fun n hn => ⟨fun j => (by rw [hX15, u3_k _ _ _ _ (by first | exact Nat.ne_of_beq_eq_false rfl | decide), hX11, u3_ij (fun q => hn q.1), hX10, u3_ij (fun q => hn q.1)]), fun j => (by rw [hY12, u3_ij (fun q => hn q.1), hY9, u3_ij (fun q => hn q.1)])⟩⟩⟩

set_option maxHeartbeats 4000000 in
set_option maxRecDepth 100000 in
theorem c_X2_write_rn (l : Launch) (D : va_G) (tc : Nat → ClassId) (base : Nat) (ad : Nat → Int → Nat) (cnt : Nat → Int) (X : Nat → Int → Int → Int) (Y : Nat → Int → Int → Option Int) (ln : Int → Int) (hR : Rng X) (hFx : Fx cnt) (hLn : LnOK ln) (hCI : CInv cnt X Y ln) (x i v : Int) (hx0 : 0 ≤ x ∧ x ≤ 29) (hi : 0 ≤ i ∧ i ≤ 4) (hv : -9223372036854775808 ≤ v ∧ v ≤ 9223372036854775807) (hnf : X 29 0 1 ≤ 79) : KV l D tc base yX2_write wsX2_write ({ frames := 1, cells := 0, slots := 0, locals := 20 } : Room) [.ref (ad 29 0), .ref (ad 15 x), .int (jI i), .long (jL v), .null] (ad, cnt, X, Y, ln) 0 0 (fun u => ∃ (X1 : Nat → Int → Int → Int) (Y1 : Nat → Int → Int → Option Int), u = (ad, cnt, X1, Y1, ln) ∧ Rng X1 ∧ Frm [2802, 2803, 2902] X X1 ∧ Frm [2801, 2804] Y Y1 ∧ CInv cnt X1 Y1 ln ∧ (0 : Int) ≤ 0 ∧ eNoteC X X1 Y Y1 (some x) i v none) := by
  refine K_of (cc := cX2_write) (maxL := 7) (ret := none) (by decide) rfl (Nat.le_of_ble_eq_true rfl) ?_
  intro p e s m below meth c ls hx hb hr hml hown hts hlocks hl hK hw hS
  have hown : s.vm.findClass RX2 = some m.cls := hown
  obtain ⟨av9, hav9⟩ : ∃ a9 : Array Value, a9 = ([.ref (ad 29 0), .ref (ad 15 x), .int (jI i), .long (jL v), .null] : List Value).toArray := ⟨_, rfl⟩
  rw [← hav9] at hts ⊢
  obtain ⟨Q9, hQ9⟩ : ∃ q9Q : State → Prop, q9Q = MQ below (QV D tc base (fun u => ∃ (X1 : Nat → Int → Int → Int) (Y1 : Nat → Int → Int → Option Int), u = (ad, cnt, X1, Y1, ln) ∧ Rng X1 ∧ Frm [2802, 2803, 2902] X X1 ∧ Frm [2801, 2804] Y Y1 ∧ CInv cnt X1 Y1 ln ∧ (0 : Int) ≤ 0 ∧ eNoteC X X1 Y Y1 (some x) i v none)) av9 s 0 0 (frA base) := ⟨_, rfl⟩
  rw [← hQ9]
  have hi2 : ∀ w ∈ wsX20, w ∈ wsX2_write := fun w h => List.mem_cons_of_mem _ (List.mem_append_left _ (List.mem_append_right _ h))
  have hf2 : fctx s m _ RX2 wsX2_write D tc RX2 TX2 4 2 := ⟨hts, hi2, hown, hK.1, rfl⟩
  have hi3 : ∀ w ∈ wsX30, w ∈ wsX2_write := fun w h => List.mem_cons_of_mem _ (List.mem_append_right _ h)
  have hf3 : fctx s m _ RX2 wsX2_write D tc RX3 TX3 4 3 := ⟨hts, hi3, hown, hK.1, rfl⟩
  have lk11 := hts (.fieldLink RX2 11 (TX2 0).1 (TX2 0).2.1 (TX2 0).2.2.1) (gj_X2_write_0 _ (gp_1 gp_h))
  have lk22 := hts (.fieldLink RX2 22 (TX2 1).1 (TX2 1).2.1 (TX2 1).2.2.1) (gj_X2_write_0 _ (gp_1 (gp_1 gp_h)))
  have lk45 := hts (.fieldLink RX2 45 (TX2 3).1 (TX2 3).2.1 (TX2 3).2.2.1) (gj_X2_write_0 _ (gp_h))
  have lk52 := hts (.fieldLink RX2 52 (TX3 0).1 (TX3 0).2.1 (TX3 0).2.2.1) (gj_X2_write_0 _ (gp_1 (gp_1 (gp_1 gp_h))))
  have lk56 := hts (.fieldLink RX2 56 (TX3 1).1 (TX3 1).2.1 (TX3 1).2.2.1) (gj_X2_write_0 _ (gp_4 gp_h))
  have lk59 := hts (.fieldLink RX2 59 (TX3 2).1 (TX3 2).2.1 (TX3 2).2.2.1) (gj_X2_write_0 _ (gp_4 (gp_1 gp_h)))
  have lk63 := hts (.fieldLink RX2 63 (TX3 3).1 (TX3 3).2.1 (TX3 3).2.2.1) (gj_X2_write_0 _ (gp_4 (gp_1 (gp_1 gp_h))))
  have hc15 : cnt 15 = 30 := hFx.at 15 30 (by decide)
  have hc28 : cnt 28 = 80 := hFx.at 28 80 (by decide)
  have hc29 : cnt 29 = 1 := hFx.at 29 1 (by decide)
  have hc30 : cnt 30 = 1 := hFx.at 30 1 (by decide)
  have hl : lv_has ls 7 [(0, .ref (ad 29 0)), (1, .ref (ad 15 x)), (2, .int (jI i)), (3, .long (jL v)), (5, .null)] := hl
  have ftc : 0 ≤ X 0 0 3 ∧ X 0 0 3 ≤ 30 := hR 0 0 3
  have fty : 0 ≤ X 0 0 1 ∧ X 0 0 1 ≤ 8 := hR 0 0 1
  have hct : cnt 19 = X 0 0 1 := hCI.2.2.2.1.1
  have hfj : 0 ≤ X 29 0 3 ∧ X 29 0 3 ≤ 4 := hR 29 0 3
  have hfn : 0 ≤ X 29 0 1 ∧ X 29 0 1 ≤ 80 := hR 29 0 1
  refine lv_aload_n hx hb dX2_write_0 rfl (lv_at hl 0 rfl) ?_
  refine x_geti (jz := 3) hx hb hf2 hw (by first | exact Int.le_refl 0 | omega) (by first | exact zlt hc29 | omega) sl_29_3 rfl lk45 dX2_write_1 ?_
  have f1 : 0 ≤ X 29 0 3 ∧ X 29 0 3 ≤ 4 := hR 29 0 3
  refine x_if_eq (tgt := 14) hx hb (by omega) dX2_write_4 (by decide) (fun c2 => ?_) (fun c2 => ?_)
  · rw [hQ9]
    refine ret_v (mc := 0) (ms := 0) hx hb hr hlocks hw hS (by first | exact Nat.le_of_ble_eq_true rfl | omega) (by first | exact Nat.le_of_ble_eq_true rfl | omega) dX2_write_14 ?_
    exact ⟨X, Y, rfl, hR, Frm.rf, Frm.rf, hCI, by omega, (by first | exact Or.inl ⟨by omega, rfl, rfl, rfl⟩ | (exfalso; omega))⟩
  · refine lv_aload_n hx hb dX2_write_7 rfl (lv_at hl 0 rfl) ?_
    refine gos_i (run_V (As := []) (rest := []) hx hb hml hown hts (c_X2_isFull l D tc base ad cnt X Y ln hR hFx hLn hCI) (cwV 0 hts gX2_write_X2_isFull rfl rfl rfl (by first | exact hd_X2_isFull | decide +kernel) ⟨Nat.le_of_ble_eq_true rfl, Nat.le_of_ble_eq_true rfl⟩) hK hw (by first | exact Int.le_refl 0 | omega) (by first | exact zlt hc29 | omega) sl_29_0 rfl rfl hl.1 rfl (Nat.le_of_ble_eq_true rfl) dX2_write_8 ⟨Nat.le_of_ble_eq_true rfl, Nat.le_of_ble_eq_true rfl⟩) hS (fun z3 u4 H locs p5 hw hS => ?_)
    obtain ⟨eu4, p5⟩ := p5
    subst eu4
    rcases p5 with ⟨ez3, p5⟩ | ⟨ez3, p5⟩
    · subst ez3
      refine x_if_eqF (tgt := 15) hx hb (by omega) (by decide) dX2_write_11 (by decide) ?_
      rw [hQ9]
      refine ret_v (mc := 0) (ms := 0) hx hb hr hlocks hw hS (by first | exact Nat.le_of_ble_eq_true rfl | omega) (by first | exact Nat.le_of_ble_eq_true rfl | omega) dX2_write_14 ?_
      exact ⟨X, Y, rfl, hR, Frm.rf, Frm.rf, hCI, by omega, (by first | exact Or.inl ⟨by omega, rfl, rfl, rfl⟩ | (exfalso; omega))⟩
    · subst ez3
      refine x_if_eqT (tgt := 15) hx hb (by omega) (by decide) dX2_write_11 (by decide) ?_
      refine lv_aload_n hx hb dX2_write_15 rfl (lv_at hl 0 rfl) ?_
      refine x_geto hx hb hf2 hw (by first | exact Int.le_refl 0 | omega) (by first | exact zlt hc29 | omega) sl_29_0 lk11 dX2_write_16 ?_
      refine lv_aload_n hx hb dX2_write_19 rfl (lv_at hl 0 rfl) ?_
      refine x_geti (jz := 1) hx hb hf2 hw (by first | exact Int.le_refl 0 | omega) (by first | exact zlt hc29 | omega) sl_29_1 rfl lk22 dX2_write_20 ?_
      have f6 : 0 ≤ X 29 0 1 ∧ X 29 0 1 ≤ 80 := hR 29 0 1
      refine x_aald hx hb hK.1 hw (by first | exact Int.le_refl 0 | omega) (by first | exact zlt hc30 | omega) ar_30 rfl (len_E ar_30 (by first | exact Nat.ne_of_beq_eq_false rfl | decide)) (by omega) (by omega) (by omega) dX2_write_23 (fun y7 => ?_) (fun r8 y7 gr8 lr8 => ?_)
      · exfalso
        have h9 := hCI.2.1 (X 29 0 1) (by omega) (by omega); rw [h9] at y7; cases y7
      · have er8 : r8 = (X 29 0 1) := by have h9 := hCI.2.1 (X 29 0 1) (by omega) (by omega); rw [h9] at y7; cases y7; rfl
        rw [er8]
        refine lv_astore (lv' := [(6, .ref (ad 28 (X 29 0 1))), (0, .ref (ad 29 0)), (1, .ref (ad 15 x)), (2, .int (jI i)), (3, .long (jL v)), (5, .null)]) hx hb dX2_write_24 hl (by decide) rfl (fun ls hl => ?_)
        refine lv_aload hx hb dX2_write_26 (lv_at hl 0 rfl) ?_
        refine lv_aload_n hx hb dX2_write_28 rfl (lv_at hl 2 rfl) ?_
        refine x_putr (jz := 0) hx hb hf3 ⟨tyX3_ok, nmX3⟩ hw hS (by omega) (by omega) sl_28_0 rfl lk52 rfl (by omega) (by omega) (tyX3_ok 0 (by decide)) dX2_write_29 (fun H locs hw hS => ?_)
        obtain ⟨Y9, hY9⟩ : ∃ Yq, Yq = u3 Y 28 (X 29 0 1) 0 (some x) := ⟨_, rfl⟩
        rw [← hY9] at hw
        have hVY9 : Y9 28 (X 29 0 1) 0 = (some x) := by rw [hY9]; exact u3_s _ _ _ _ _
        have hHY9 : Frm [2801, 2804] Y Y9 := by rw [hY9]; exact Frm.set Frm.rf (show 2801 ∈ [2801, 2804] by first | exact nlm_in rfl | decide)
        refine lv_aload hx hb dX2_write_32 (lv_at hl 0 rfl) ?_
        refine lv_iload_n hx hb dX2_write_34 rfl (lv_at hl 3 rfl) ?_
        refine x_puti (jz := 1) hx hb hf3 ⟨tyX3_ok, nmX3⟩ hw hS (by omega) (by omega) sl_28_1 rfl lk56 rfl (tyX3_ok 1 (by decide)) rfl rfl dX2_write_35 (fun H locs hw hS => ?_)
        obtain ⟨X10, hX10⟩ : ∃ Xq, Xq = u3 X 28 (X 29 0 1) 1 i := ⟨_, rfl⟩
        rw [← hX10] at hw
        have hRX10 : Rng X10 := by rw [hX10]; exact rng_set hR (show 0 ≤ i ∧ i ≤ 11 by omega)
        have hVX10 : X10 28 (X 29 0 1) 1 = i := by rw [hX10]; exact u3_s _ _ _ _ _
        have hFX10 : Frm [2802, 2803, 2902] X X10 := by rw [hX10]; exact Frm.set Frm.rf (show 2802 ∈ [2802, 2803, 2902] by first | exact nlm_in rfl | decide)
        refine lv_aload hx hb dX2_write_38 (lv_at hl 0 rfl) ?_
        refine lv_lload_n hx hb dX2_write_40 rfl (lv_at hl 4 rfl) ?_
        refine x_putl (jz := 2) hx hb hf3 ⟨tyX3_ok, nmX3⟩ hw hS (by omega) (by omega) sl_28_2 rfl lk59 rfl (tyX3_ok 2 (by decide)) dX2_write_41 (fun H locs hw hS => ?_)
        obtain ⟨X11, hX11⟩ : ∃ Xq, Xq = u3 X10 28 (X 29 0 1) 2 v := ⟨_, rfl⟩
        rw [← hX11] at hw
        have hRX11 : Rng X11 := by rw [hX11]; exact rng_set hRX10 (show (-9223372036854775808) ≤ v ∧ v ≤ 9223372036854775807 by omega)
        have hVX11 : X11 28 (X 29 0 1) 2 = v := by rw [hX11]; exact u3_s _ _ _ _ _
        have hFX11 : Frm [2802, 2803, 2902] X X11 := by rw [hX11]; exact Frm.set hFX10 (show 2803 ∈ [2802, 2803, 2902] by first | exact nlm_in rfl | decide)
        refine lv_aload hx hb dX2_write_44 (lv_at hl 0 rfl) ?_
        refine lv_aloadN hx hb dX2_write_46 (lv_at hl 5 rfl) ?_
        refine x_putn (jz := 3) hx hb hf3 ⟨tyX3_ok, nmX3⟩ hw hS (by omega) (by omega) sl_28_3 rfl lk63 rfl (tyX3_ok 3 (by decide)) dX2_write_48 (fun H locs hw hS => ?_)
        obtain ⟨Y12, hY12⟩ : ∃ Yq, Yq = u3 Y9 28 (X 29 0 1) 3 none := ⟨_, rfl⟩
        rw [← hY12] at hw
        have hVY12 : Y12 28 (X 29 0 1) 3 = none := by rw [hY12]; exact u3_s _ _ _ _ _
        have hHY12 : Frm [2801, 2804] Y Y12 := by rw [hY12]; exact Frm.set hHY9 (show 2804 ∈ [2801, 2804] by first | exact nlm_in rfl | decide)
        refine lv_aload_n hx hb dX2_write_51 rfl (lv_at hl 1 rfl) ?_
        refine lv_dup hx hb dX2_write_52 rfl ?_
        refine x_geti (jz := 1) hx hb hf2 hw (by first | exact Int.le_refl 0 | omega) (by first | exact zlt hc29 | omega) sl_29_1 rfl lk22 dX2_write_53 ?_
        have e13 : X11 29 0 1 = X 29 0 1 := by rw [hX11, u3_k _ _ _ _ (by first | exact Nat.ne_of_beq_eq_false rfl | decide), hX10, u3_k _ _ _ _ (by first | exact Nat.ne_of_beq_eq_false rfl | decide)]
        rw [e13]
        have f14 : 0 ≤ X 29 0 1 ∧ X 29 0 1 ≤ 80 := hR 29 0 1
        refine lv_iconst (v := jI 1) hx hb dX2_write_56 rfl ?_
        refine x_iadd hx hb dX2_write_57 ?_
        refine x_puti (jz := 1) hx hb hf2 ⟨tyX2_ok, nmX2⟩ hw hS (by first | exact Int.le_refl 0 | omega) (by first | exact zlt hc29 | omega) sl_29_1 rfl lk22 rfl (tyX2_ok 1 (by decide)) rfl rfl dX2_write_58 (fun H locs hw hS => ?_)
        obtain ⟨X15, hX15⟩ : ∃ Xq, Xq = u3 X11 29 0 1 ((X 29 0 1) + 1) := ⟨_, rfl⟩
        rw [← hX15] at hw
        have hRX15 : Rng X15 := by rw [hX15]; exact rng_set hRX11 (show 0 ≤ ((X 29 0 1) + 1) ∧ ((X 29 0 1) + 1) ≤ 80 by omega)
        have hVX15 : X15 29 0 1 = ((X 29 0 1) + 1) := by rw [hX15]; exact u3_s _ _ _ _ _
        have hFX15 : Frm [2802, 2803, 2902] X X15 := by rw [hX15]; exact Frm.set hFX11 (show 2902 ∈ [2802, 2803, 2902] by first | exact nlm_in rfl | decide)
        rw [hQ9]
        refine ret_v (mc := 0) (ms := 0) hx hb hr hlocks hw hS (by first | exact Nat.le_of_ble_eq_true rfl | omega) (by first | exact Nat.le_of_ble_eq_true rfl | omega) dX2_write_61 ?_
        have e16 : X15 28 (X 29 0 1) 1 = i := (by rw [hX15, u3_k _ _ _ _ (by first | exact Nat.ne_of_beq_eq_false rfl | decide), hX11, u3_ij (by omega)]; exact hVX10)
        have e17 : Y12 28 (X 29 0 1) 0 = (some x) := (by rw [hY12, u3_ij (by omega)]; exact hVY9)
        have e18 : Y12 28 (X 29 0 1) 3 = none := (by exact hVY12)
        exact ⟨X15, Y12, rfl, hRX15, hFX15, hHY12, cinv_note (n := (X 29 0 1)) hCI hFX15 hHY12 (fun m hm => ⟨(by rw [hX15, u3_k _ _ _ _ (by first | exact Nat.ne_of_beq_eq_false rfl | decide), hX11, u3_ij (by omega), hX10, u3_ij (by omega)]), (by rw [hY12, u3_ij (by omega), hY9, u3_ij (by omega)]), (by rw [hY12, u3_ij (by omega), hY9, u3_ij (by omega)])⟩) ⟨fun _ => by rw [e16]; omega, fun h => by rw [e17] at h; cases h⟩, by omega, Or.inr ⟨by omega, (by exact hVX15), ⟨(by rw [hY12, u3_ij (by omega)]; exact hVY9), (by rw [hX15, u3_k _ _ _ _ (by first | exact Nat.ne_of_beq_eq_false rfl | decide), hX11, u3_ij (by omega)]; exact hVX10), (by rw [hX15, u3_k _ _ _ _ (by first | exact Nat.ne_of_beq_eq_false rfl | decide)]; exact hVX11), (by exact hVY12)⟩, fun n hn => ⟨fun j => (by rw [hX15, u3_k _ _ _ _ (by first | exact Nat.ne_of_beq_eq_false rfl | decide), hX11, u3_ij (fun q => hn q.1), hX10, u3_ij (fun q => hn q.1)]), fun j => (by rw [hY12, u3_ij (fun q => hn q.1), hY9, u3_ij (fun q => hn q.1)])⟩⟩⟩

set_option maxHeartbeats 4000000 in
set_option maxRecDepth 100000 in
theorem c_X2_write_nr (l : Launch) (D : va_G) (tc : Nat → ClassId) (base : Nat) (ad : Nat → Int → Nat) (cnt : Nat → Int) (X : Nat → Int → Int → Int) (Y : Nat → Int → Int → Option Int) (ln : Int → Int) (hR : Rng X) (hFx : Fx cnt) (hLn : LnOK ln) (hCI : CInv cnt X Y ln) (i v g : Int) (hi : 0 ≤ i ∧ i < ln g ∧ i ≤ 11) (hv : -9223372036854775808 ≤ v ∧ v ≤ 9223372036854775807) (hg : 0 ≤ g ∧ g < cnt 26) (hnf : X 29 0 1 ≤ 79) : KV l D tc base yX2_write wsX2_write ({ frames := 1, cells := 0, slots := 0, locals := 20 } : Room) [.ref (ad 29 0), .null, .int (jI i), .long (jL v), .ref (ad 26 g)] (ad, cnt, X, Y, ln) 0 0 (fun u => ∃ (X1 : Nat → Int → Int → Int) (Y1 : Nat → Int → Int → Option Int), u = (ad, cnt, X1, Y1, ln) ∧ Rng X1 ∧ Frm [2802, 2803, 2902] X X1 ∧ Frm [2801, 2804] Y Y1 ∧ CInv cnt X1 Y1 ln ∧ (0 : Int) ≤ 0 ∧ eNoteC X X1 Y Y1 none i v (some g)) := by
  refine K_of (cc := cX2_write) (maxL := 7) (ret := none) (by decide) rfl (Nat.le_of_ble_eq_true rfl) ?_
  intro p e s m below meth c ls hx hb hr hml hown hts hlocks hl hK hw hS
  have hown : s.vm.findClass RX2 = some m.cls := hown
  obtain ⟨av9, hav9⟩ : ∃ a9 : Array Value, a9 = ([.ref (ad 29 0), .null, .int (jI i), .long (jL v), .ref (ad 26 g)] : List Value).toArray := ⟨_, rfl⟩
  rw [← hav9] at hts ⊢
  obtain ⟨Q9, hQ9⟩ : ∃ q9Q : State → Prop, q9Q = MQ below (QV D tc base (fun u => ∃ (X1 : Nat → Int → Int → Int) (Y1 : Nat → Int → Int → Option Int), u = (ad, cnt, X1, Y1, ln) ∧ Rng X1 ∧ Frm [2802, 2803, 2902] X X1 ∧ Frm [2801, 2804] Y Y1 ∧ CInv cnt X1 Y1 ln ∧ (0 : Int) ≤ 0 ∧ eNoteC X X1 Y Y1 none i v (some g))) av9 s 0 0 (frA base) := ⟨_, rfl⟩
  rw [← hQ9]
  have hi2 : ∀ w ∈ wsX20, w ∈ wsX2_write := fun w h => List.mem_cons_of_mem _ (List.mem_append_left _ (List.mem_append_right _ h))
  have hf2 : fctx s m _ RX2 wsX2_write D tc RX2 TX2 4 2 := ⟨hts, hi2, hown, hK.1, rfl⟩
  have hi3 : ∀ w ∈ wsX30, w ∈ wsX2_write := fun w h => List.mem_cons_of_mem _ (List.mem_append_right _ h)
  have hf3 : fctx s m _ RX2 wsX2_write D tc RX3 TX3 4 3 := ⟨hts, hi3, hown, hK.1, rfl⟩
  have lk11 := hts (.fieldLink RX2 11 (TX2 0).1 (TX2 0).2.1 (TX2 0).2.2.1) (gj_X2_write_0 _ (gp_1 gp_h))
  have lk22 := hts (.fieldLink RX2 22 (TX2 1).1 (TX2 1).2.1 (TX2 1).2.2.1) (gj_X2_write_0 _ (gp_1 (gp_1 gp_h)))
  have lk45 := hts (.fieldLink RX2 45 (TX2 3).1 (TX2 3).2.1 (TX2 3).2.2.1) (gj_X2_write_0 _ (gp_h))
  have lk52 := hts (.fieldLink RX2 52 (TX3 0).1 (TX3 0).2.1 (TX3 0).2.2.1) (gj_X2_write_0 _ (gp_1 (gp_1 (gp_1 gp_h))))
  have lk56 := hts (.fieldLink RX2 56 (TX3 1).1 (TX3 1).2.1 (TX3 1).2.2.1) (gj_X2_write_0 _ (gp_4 gp_h))
  have lk59 := hts (.fieldLink RX2 59 (TX3 2).1 (TX3 2).2.1 (TX3 2).2.2.1) (gj_X2_write_0 _ (gp_4 (gp_1 gp_h)))
  have lk63 := hts (.fieldLink RX2 63 (TX3 3).1 (TX3 3).2.1 (TX3 3).2.2.1) (gj_X2_write_0 _ (gp_4 (gp_1 (gp_1 gp_h))))
  have hc15 : cnt 15 = 30 := hFx.at 15 30 (by decide)
  have hc28 : cnt 28 = 80 := hFx.at 28 80 (by decide)
  have hc29 : cnt 29 = 1 := hFx.at 29 1 (by decide)
  have hc30 : cnt 30 = 1 := hFx.at 30 1 (by decide)
  have hl : lv_has ls 7 [(0, .ref (ad 29 0)), (1, .null), (2, .int (jI i)), (3, .long (jL v)), (5, .ref (ad 26 g))] := hl
  have ftc : 0 ≤ X 0 0 3 ∧ X 0 0 3 ≤ 30 := hR 0 0 3
  have fty : 0 ≤ X 0 0 1 ∧ X 0 0 1 ≤ 8 := hR 0 0 1
  have hct : cnt 19 = X 0 0 1 := hCI.2.2.2.1.1
  have hfj : 0 ≤ X 29 0 3 ∧ X 29 0 3 ≤ 4 := hR 29 0 3
  have hfn : 0 ≤ X 29 0 1 ∧ X 29 0 1 ≤ 80 := hR 29 0 1
  refine lv_aload_n hx hb dX2_write_0 rfl (lv_at hl 0 rfl) ?_
  refine x_geti (jz := 3) hx hb hf2 hw (by first | exact Int.le_refl 0 | omega) (by first | exact zlt hc29 | omega) sl_29_3 rfl lk45 dX2_write_1 ?_
  have f1 : 0 ≤ X 29 0 3 ∧ X 29 0 3 ≤ 4 := hR 29 0 3
  refine x_if_eq (tgt := 14) hx hb (by omega) dX2_write_4 (by decide) (fun c2 => ?_) (fun c2 => ?_)
  · rw [hQ9]
    refine ret_v (mc := 0) (ms := 0) hx hb hr hlocks hw hS (by first | exact Nat.le_of_ble_eq_true rfl | omega) (by first | exact Nat.le_of_ble_eq_true rfl | omega) dX2_write_14 ?_
    exact ⟨X, Y, rfl, hR, Frm.rf, Frm.rf, hCI, by omega, (by first | exact Or.inl ⟨by omega, rfl, rfl, rfl⟩ | (exfalso; omega))⟩
  · refine lv_aload_n hx hb dX2_write_7 rfl (lv_at hl 0 rfl) ?_
    refine gos_i (run_V (As := []) (rest := []) hx hb hml hown hts (c_X2_isFull l D tc base ad cnt X Y ln hR hFx hLn hCI) (cwV 0 hts gX2_write_X2_isFull rfl rfl rfl (by first | exact hd_X2_isFull | decide +kernel) ⟨Nat.le_of_ble_eq_true rfl, Nat.le_of_ble_eq_true rfl⟩) hK hw (by first | exact Int.le_refl 0 | omega) (by first | exact zlt hc29 | omega) sl_29_0 rfl rfl hl.1 rfl (Nat.le_of_ble_eq_true rfl) dX2_write_8 ⟨Nat.le_of_ble_eq_true rfl, Nat.le_of_ble_eq_true rfl⟩) hS (fun z3 u4 H locs p5 hw hS => ?_)
    obtain ⟨eu4, p5⟩ := p5
    subst eu4
    rcases p5 with ⟨ez3, p5⟩ | ⟨ez3, p5⟩
    · subst ez3
      refine x_if_eqF (tgt := 15) hx hb (by omega) (by decide) dX2_write_11 (by decide) ?_
      rw [hQ9]
      refine ret_v (mc := 0) (ms := 0) hx hb hr hlocks hw hS (by first | exact Nat.le_of_ble_eq_true rfl | omega) (by first | exact Nat.le_of_ble_eq_true rfl | omega) dX2_write_14 ?_
      exact ⟨X, Y, rfl, hR, Frm.rf, Frm.rf, hCI, by omega, (by first | exact Or.inl ⟨by omega, rfl, rfl, rfl⟩ | (exfalso; omega))⟩
    · subst ez3
      refine x_if_eqT (tgt := 15) hx hb (by omega) (by decide) dX2_write_11 (by decide) ?_
      refine lv_aload_n hx hb dX2_write_15 rfl (lv_at hl 0 rfl) ?_
      refine x_geto hx hb hf2 hw (by first | exact Int.le_refl 0 | omega) (by first | exact zlt hc29 | omega) sl_29_0 lk11 dX2_write_16 ?_
      refine lv_aload_n hx hb dX2_write_19 rfl (lv_at hl 0 rfl) ?_
      refine x_geti (jz := 1) hx hb hf2 hw (by first | exact Int.le_refl 0 | omega) (by first | exact zlt hc29 | omega) sl_29_1 rfl lk22 dX2_write_20 ?_
      have f6 : 0 ≤ X 29 0 1 ∧ X 29 0 1 ≤ 80 := hR 29 0 1
      refine x_aald hx hb hK.1 hw (by first | exact Int.le_refl 0 | omega) (by first | exact zlt hc30 | omega) ar_30 rfl (len_E ar_30 (by first | exact Nat.ne_of_beq_eq_false rfl | decide)) (by omega) (by omega) (by omega) dX2_write_23 (fun y7 => ?_) (fun r8 y7 gr8 lr8 => ?_)
      · exfalso
        have h9 := hCI.2.1 (X 29 0 1) (by omega) (by omega); rw [h9] at y7; cases y7
      · have er8 : r8 = (X 29 0 1) := by have h9 := hCI.2.1 (X 29 0 1) (by omega) (by omega); rw [h9] at y7; cases y7; rfl
        rw [er8]
        refine lv_astore (lv' := [(6, .ref (ad 28 (X 29 0 1))), (0, .ref (ad 29 0)), (1, .null), (2, .int (jI i)), (3, .long (jL v)), (5, .ref (ad 26 g))]) hx hb dX2_write_24 hl (by decide) rfl (fun ls hl => ?_)
        refine lv_aload hx hb dX2_write_26 (lv_at hl 0 rfl) ?_
        refine lv_aload_nN hx hb dX2_write_28 rfl (lv_at hl 2 rfl) ?_
        refine x_putn (jz := 0) hx hb hf3 ⟨tyX3_ok, nmX3⟩ hw hS (by omega) (by omega) sl_28_0 rfl lk52 rfl (tyX3_ok 0 (by decide)) dX2_write_29 (fun H locs hw hS => ?_)
        obtain ⟨Y9, hY9⟩ : ∃ Yq, Yq = u3 Y 28 (X 29 0 1) 0 none := ⟨_, rfl⟩
        rw [← hY9] at hw
        have hVY9 : Y9 28 (X 29 0 1) 0 = none := by rw [hY9]; exact u3_s _ _ _ _ _
        have hHY9 : Frm [2801, 2804] Y Y9 := by rw [hY9]; exact Frm.set Frm.rf (show 2801 ∈ [2801, 2804] by first | exact nlm_in rfl | decide)
        refine lv_aload hx hb dX2_write_32 (lv_at hl 0 rfl) ?_
        refine lv_iload_n hx hb dX2_write_34 rfl (lv_at hl 3 rfl) ?_
        refine x_puti (jz := 1) hx hb hf3 ⟨tyX3_ok, nmX3⟩ hw hS (by omega) (by omega) sl_28_1 rfl lk56 rfl (tyX3_ok 1 (by decide)) rfl rfl dX2_write_35 (fun H locs hw hS => ?_)
        obtain ⟨X10, hX10⟩ : ∃ Xq, Xq = u3 X 28 (X 29 0 1) 1 i := ⟨_, rfl⟩
        rw [← hX10] at hw
        have hRX10 : Rng X10 := by rw [hX10]; exact rng_set hR (show 0 ≤ i ∧ i ≤ 11 by omega)
        have hVX10 : X10 28 (X 29 0 1) 1 = i := by rw [hX10]; exact u3_s _ _ _ _ _
        have hFX10 : Frm [2802, 2803, 2902] X X10 := by rw [hX10]; exact Frm.set Frm.rf (show 2802 ∈ [2802, 2803, 2902] by first | exact nlm_in rfl | decide)
        refine lv_aload hx hb dX2_write_38 (lv_at hl 0 rfl) ?_
        refine lv_lload_n hx hb dX2_write_40 rfl (lv_at hl 4 rfl) ?_
        refine x_putl (jz := 2) hx hb hf3 ⟨tyX3_ok, nmX3⟩ hw hS (by omega) (by omega) sl_28_2 rfl lk59 rfl (tyX3_ok 2 (by decide)) dX2_write_41 (fun H locs hw hS => ?_)
        obtain ⟨X11, hX11⟩ : ∃ Xq, Xq = u3 X10 28 (X 29 0 1) 2 v := ⟨_, rfl⟩
        rw [← hX11] at hw
        have hRX11 : Rng X11 := by rw [hX11]; exact rng_set hRX10 (show (-9223372036854775808) ≤ v ∧ v ≤ 9223372036854775807 by omega)
        have hVX11 : X11 28 (X 29 0 1) 2 = v := by rw [hX11]; exact u3_s _ _ _ _ _
        have hFX11 : Frm [2802, 2803, 2902] X X11 := by rw [hX11]; exact Frm.set hFX10 (show 2803 ∈ [2802, 2803, 2902] by first | exact nlm_in rfl | decide)
        refine lv_aload hx hb dX2_write_44 (lv_at hl 0 rfl) ?_
        refine lv_aload hx hb dX2_write_46 (lv_at hl 5 rfl) ?_
        refine x_putr (jz := 3) hx hb hf3 ⟨tyX3_ok, nmX3⟩ hw hS (by omega) (by omega) sl_28_3 rfl lk63 rfl (by omega) (by omega) (tyX3_ok 3 (by decide)) dX2_write_48 (fun H locs hw hS => ?_)
        obtain ⟨Y12, hY12⟩ : ∃ Yq, Yq = u3 Y9 28 (X 29 0 1) 3 (some g) := ⟨_, rfl⟩
        rw [← hY12] at hw
        have hVY12 : Y12 28 (X 29 0 1) 3 = (some g) := by rw [hY12]; exact u3_s _ _ _ _ _
        have hHY12 : Frm [2801, 2804] Y Y12 := by rw [hY12]; exact Frm.set hHY9 (show 2804 ∈ [2801, 2804] by first | exact nlm_in rfl | decide)
        refine lv_aload_n hx hb dX2_write_51 rfl (lv_at hl 1 rfl) ?_
        refine lv_dup hx hb dX2_write_52 rfl ?_
        refine x_geti (jz := 1) hx hb hf2 hw (by first | exact Int.le_refl 0 | omega) (by first | exact zlt hc29 | omega) sl_29_1 rfl lk22 dX2_write_53 ?_
        have e13 : X11 29 0 1 = X 29 0 1 := by rw [hX11, u3_k _ _ _ _ (by first | exact Nat.ne_of_beq_eq_false rfl | decide), hX10, u3_k _ _ _ _ (by first | exact Nat.ne_of_beq_eq_false rfl | decide)]
        rw [e13]
        have f14 : 0 ≤ X 29 0 1 ∧ X 29 0 1 ≤ 80 := hR 29 0 1
        refine lv_iconst (v := jI 1) hx hb dX2_write_56 rfl ?_
        refine x_iadd hx hb dX2_write_57 ?_
        refine x_puti (jz := 1) hx hb hf2 ⟨tyX2_ok, nmX2⟩ hw hS (by first | exact Int.le_refl 0 | omega) (by first | exact zlt hc29 | omega) sl_29_1 rfl lk22 rfl (tyX2_ok 1 (by decide)) rfl rfl dX2_write_58 (fun H locs hw hS => ?_)
        obtain ⟨X15, hX15⟩ : ∃ Xq, Xq = u3 X11 29 0 1 ((X 29 0 1) + 1) := ⟨_, rfl⟩
        rw [← hX15] at hw
        have hRX15 : Rng X15 := by rw [hX15]; exact rng_set hRX11 (show 0 ≤ ((X 29 0 1) + 1) ∧ ((X 29 0 1) + 1) ≤ 80 by omega)
        have hVX15 : X15 29 0 1 = ((X 29 0 1) + 1) := by rw [hX15]; exact u3_s _ _ _ _ _
        have hFX15 : Frm [2802, 2803, 2902] X X15 := by rw [hX15]; exact Frm.set hFX11 (show 2902 ∈ [2802, 2803, 2902] by first | exact nlm_in rfl | decide)
        rw [hQ9]
        refine ret_v (mc := 0) (ms := 0) hx hb hr hlocks hw hS (by first | exact Nat.le_of_ble_eq_true rfl | omega) (by first | exact Nat.le_of_ble_eq_true rfl | omega) dX2_write_61 ?_
        have e16 : X15 28 (X 29 0 1) 1 = i := (by rw [hX15, u3_k _ _ _ _ (by first | exact Nat.ne_of_beq_eq_false rfl | decide), hX11, u3_ij (by omega)]; exact hVX10)
        have e17 : Y12 28 (X 29 0 1) 0 = none := (by rw [hY12, u3_ij (by omega)]; exact hVY9)
        have e18 : Y12 28 (X 29 0 1) 3 = (some g) := (by exact hVY12)
        exact ⟨X15, Y12, rfl, hRX15, hFX15, hHY12, cinv_note (n := (X 29 0 1)) hCI hFX15 hHY12 (fun m hm => ⟨(by rw [hX15, u3_k _ _ _ _ (by first | exact Nat.ne_of_beq_eq_false rfl | decide), hX11, u3_ij (by omega), hX10, u3_ij (by omega)]), (by rw [hY12, u3_ij (by omega), hY9, u3_ij (by omega)]), (by rw [hY12, u3_ij (by omega), hY9, u3_ij (by omega)])⟩) ⟨fun h => absurd e17 h, fun _ w h => by rw [e18] at h; cases h; rw [e16]; omega⟩, by omega, Or.inr ⟨by omega, (by exact hVX15), ⟨(by rw [hY12, u3_ij (by omega)]; exact hVY9), (by rw [hX15, u3_k _ _ _ _ (by first | exact Nat.ne_of_beq_eq_false rfl | decide), hX11, u3_ij (by omega)]; exact hVX10), (by rw [hX15, u3_k _ _ _ _ (by first | exact Nat.ne_of_beq_eq_false rfl | decide)]; exact hVX11), (by exact hVY12)⟩, fun n hn => ⟨fun j => (by rw [hX15, u3_k _ _ _ _ (by first | exact Nat.ne_of_beq_eq_false rfl | decide), hX11, u3_ij (fun q => hn q.1), hX10, u3_ij (fun q => hn q.1)]), fun j => (by rw [hY12, u3_ij (fun q => hn q.1), hY9, u3_ij (fun q => hn q.1)])⟩⟩⟩

set_option maxHeartbeats 4000000 in
set_option maxRecDepth 100000 in
theorem c_X2_noteField (l : Launch) (D : va_G) (tc : Nat → ClassId) (base : Nat) (ad : Nat → Int → Nat) (cnt : Nat → Int) (X : Nat → Int → Int → Int) (Y : Nat → Int → Int → Option Int) (ln : Int → Int) (hR : Rng X) (hFx : Fx cnt) (hLn : LnOK ln) (hCI : CInv cnt X Y ln) (x k : Int) (hx0 : 0 ≤ x ∧ x ≤ 29) (hk0 : 0 ≤ k ∧ k ≤ 4) (hnf : X 29 0 1 ≤ 79) : KV l D tc base yX2_noteField wsX2_noteField ({ frames := 2, cells := 0, slots := 0, locals := 46 } : Room) [.ref (ad 29 0), .ref (ad 15 x), .int (jI k)] (ad, cnt, X, Y, ln) 0 0 (fun u => ∃ (X1 : Nat → Int → Int → Int) (Y1 : Nat → Int → Int → Option Int), u = (ad, cnt, X1, Y1, ln) ∧ Rng X1 ∧ Frm [2802, 2803, 2902] X X1 ∧ Frm [2801, 2804] Y Y1 ∧ CInv cnt X1 Y1 ln ∧ (0 : Int) ≤ 0 ∧ eNoteC X X1 Y Y1 (some x) k (X 16 x k) (Y 17 x k)) := by
  refine K_of (cc := cX2_noteField) (maxL := 3) (ret := none) (by decide) rfl (Nat.le_of_ble_eq_true rfl) ?_
  intro p e s m below meth c ls hx hb hr hml hown hts hlocks hl hK hw hS
  have hown : s.vm.findClass RX2 = some m.cls := hown
  obtain ⟨av9, hav9⟩ : ∃ a9 : Array Value, a9 = ([.ref (ad 29 0), .ref (ad 15 x), .int (jI k)] : List Value).toArray := ⟨_, rfl⟩
  rw [← hav9] at hts ⊢
  obtain ⟨Q9, hQ9⟩ : ∃ q9Q : State → Prop, q9Q = MQ below (QV D tc base (fun u => ∃ (X1 : Nat → Int → Int → Int) (Y1 : Nat → Int → Int → Option Int), u = (ad, cnt, X1, Y1, ln) ∧ Rng X1 ∧ Frm [2802, 2803, 2902] X X1 ∧ Frm [2801, 2804] Y Y1 ∧ CInv cnt X1 Y1 ln ∧ (0 : Int) ≤ 0 ∧ eNoteC X X1 Y Y1 (some x) k (X 16 x k) (Y 17 x k))) av9 s 0 0 (frA base) := ⟨_, rfl⟩
  rw [← hQ9]
  have hi6 : ∀ w ∈ wsX60, w ∈ wsX2_noteField := fun w h => List.mem_cons_of_mem _ (List.mem_append_left _ (List.mem_append_left _ (List.mem_append_right _ h)))
  have hf6 : fctx s m _ RX2 wsX2_noteField D tc RX6 TX6 4 6 := ⟨hts, hi6, hown, hK.1, rfl⟩
  have lk26 := hts (.fieldLink RX2 26 (TX6 1).1 (TX6 1).2.1 (TX6 1).2.2.1) (gj_X2_noteField_0 _ (gp_h))
  have lk32 := hts (.fieldLink RX2 32 (TX6 2).1 (TX6 2).2.1 (TX6 2).2.2.1) (gj_X2_noteField_0 _ (gp_1 gp_h))
  have hc15 : cnt 15 = 30 := hFx.at 15 30 (by decide)
  have hc16 : cnt 16 = 30 := hFx.at 16 30 (by decide)
  have hc17 : cnt 17 = 30 := hFx.at 17 30 (by decide)
  have hc29 : cnt 29 = 1 := hFx.at 29 1 (by decide)
  have hl : lv_has ls 3 [(0, .ref (ad 29 0)), (1, .ref (ad 15 x)), (2, .int (jI k))] := hl
  have ftc : 0 ≤ X 0 0 3 ∧ X 0 0 3 ≤ 30 := hR 0 0 3
  have fty : 0 ≤ X 0 0 1 ∧ X 0 0 1 ≤ 8 := hR 0 0 1
  have hct : cnt 19 = X 0 0 1 := hCI.2.2.2.1.1
  have hfj : 0 ≤ X 29 0 3 ∧ X 29 0 3 ≤ 4 := hR 29 0 3
  have hfn : 0 ≤ X 29 0 1 ∧ X 29 0 1 ≤ 80 := hR 29 0 1
  refine lv_aload_n hx hb dX2_noteField_0 rfl (lv_at hl 0 rfl) ?_
  refine lv_aload_n hx hb dX2_noteField_1 rfl (lv_at hl 1 rfl) ?_
  refine lv_iload_n hx hb dX2_noteField_2 rfl (lv_at hl 2 rfl) ?_
  refine lv_aload_n hx hb dX2_noteField_3 rfl (lv_at hl 1 rfl) ?_
  refine x_geto hx hb hf6 hw (by omega) (by omega) sl_15_1 lk26 dX2_noteField_4 ?_
  refine lv_iload_n hx hb dX2_noteField_7 rfl (lv_at hl 2 rfl) ?_
  refine x_lald hx hb hK.1 hw (by omega) (by omega) ar_16 (len_E ar_16 (by first | exact Nat.ne_of_beq_eq_false rfl | decide)) (by omega) (by omega) (by omega) dX2_noteField_8 ?_
  have f1 : (-9223372036854775808) ≤ X 16 x k ∧ X 16 x k ≤ 9223372036854775807 := hR 16 x k
  refine lv_aload_n hx hb dX2_noteField_9 rfl (lv_at hl 1 rfl) ?_
  refine x_geto hx hb hf6 hw (by omega) (by omega) sl_15_2 lk32 dX2_noteField_10 ?_
  refine lv_iload_n hx hb dX2_noteField_13 rfl (lv_at hl 2 rfl) ?_
  refine x_aald hx hb hK.1 hw (by omega) (by omega) ar_17 rfl (len_E ar_17 (by first | exact Nat.ne_of_beq_eq_false rfl | decide)) (by omega) (by omega) (by omega) dX2_noteField_14 (fun y2 => ?_) (fun r3 y2 gr3 lr3 => ?_)
  · refine gos_v (run_V (As := [.ref (ad 15 x), .int (jI k), .long (jL (X 16 x k)), .null]) (rest := []) hx hb hml hown hts (c_X2_write_rn l D tc base ad cnt X Y ln hR hFx hLn hCI x k (X 16 x k) (by omega) (by omega) (by omega) (by omega)) (cwV 4 hts gX2_noteField_X2_write rfl rfl rfl (by first | exact hd_X2_write | decide +kernel) ⟨Nat.le_of_ble_eq_true rfl, Nat.le_of_ble_eq_true rfl⟩) hK hw (by first | exact Int.le_refl 0 | omega) (by first | exact zlt hc29 | omega) sl_29_0 rfl rfl hl.1 rfl (Nat.le_of_ble_eq_true rfl) dX2_noteField_15 ⟨Nat.le_of_ble_eq_true rfl, Nat.le_of_ble_eq_true rfl⟩) hS (fun u5 H locs p6 hw hS => ?_)
    obtain ⟨X7, Y8, eu5, hRX7, hG9, hJ10, hCIX7, p6, hntX7⟩ := p6
    subst eu5
    have hFX7 : Frm [2802, 2803, 2902] X X7 := Frm.tr Frm.rf (Frm.mono hG9 (by first | exact nls_of rfl | decide))
    have hHY8 : Frm [2801, 2804] Y Y8 := Frm.tr Frm.rf (Frm.mono hJ10 (by first | exact nls_of rfl | decide))
    rw [hQ9]
    refine ret_v (mc := 0) (ms := 0) hx hb hr hlocks hw hS (by first | exact Nat.le_of_ble_eq_true rfl | omega) (by first | exact Nat.le_of_ble_eq_true rfl | omega) dX2_noteField_18 ?_
    exact ⟨X7, Y8, rfl, hRX7, hFX7, hHY8, hCIX7, by omega, (by rw [y2]; exact hntX7)⟩
  · refine gos_v (run_V (As := [.ref (ad 15 x), .int (jI k), .long (jL (X 16 x k)), .ref (ad 26 r3)]) (rest := []) hx hb hml hown hts (c_X2_write_rr l D tc base ad cnt X Y ln hR hFx hLn hCI x k (X 16 x k) r3 (by omega) (by omega) (by omega) (by omega) (by omega)) (cwV 4 hts gX2_noteField_X2_write rfl rfl rfl (by first | exact hd_X2_write | decide +kernel) ⟨Nat.le_of_ble_eq_true rfl, Nat.le_of_ble_eq_true rfl⟩) hK hw (by first | exact Int.le_refl 0 | omega) (by first | exact zlt hc29 | omega) sl_29_0 rfl rfl hl.1 rfl (Nat.le_of_ble_eq_true rfl) dX2_noteField_15 ⟨Nat.le_of_ble_eq_true rfl, Nat.le_of_ble_eq_true rfl⟩) hS (fun u12 H locs p13 hw hS => ?_)
    obtain ⟨X14, Y15, eu12, hRX14, hG16, hJ17, hCIX14, p13, hntX14⟩ := p13
    subst eu12
    have hFX14 : Frm [2802, 2803, 2902] X X14 := Frm.tr Frm.rf (Frm.mono hG16 (by first | exact nls_of rfl | decide))
    have hHY15 : Frm [2801, 2804] Y Y15 := Frm.tr Frm.rf (Frm.mono hJ17 (by first | exact nls_of rfl | decide))
    rw [hQ9]
    refine ret_v (mc := 0) (ms := 0) hx hb hr hlocks hw hS (by first | exact Nat.le_of_ble_eq_true rfl | omega) (by first | exact Nat.le_of_ble_eq_true rfl | omega) dX2_noteField_18 ?_
    exact ⟨X14, Y15, rfl, hRX14, hFX14, hHY15, hCIX14, by omega, (by rw [y2]; exact hntX14)⟩

set_option maxHeartbeats 4000000 in
set_option maxRecDepth 100000 in
theorem c_X2_noteItem (l : Launch) (D : va_G) (tc : Nat → ClassId) (base : Nat) (ad : Nat → Int → Nat) (cnt : Nat → Int) (X : Nat → Int → Int → Int) (Y : Nat → Int → Int → Option Int) (ln : Int → Int) (hR : Rng X) (hFx : Fx cnt) (hLn : LnOK ln) (hCI : CInv cnt X Y ln) (g i : Int) (hg : 0 ≤ g ∧ g < cnt 26) (hi : 0 ≤ i ∧ i < ln g) (hnf : X 29 0 1 ≤ 79) : KV l D tc base yX2_noteItem wsX2_noteItem ({ frames := 2, cells := 0, slots := 0, locals := 46 } : Room) [.ref (ad 29 0), .ref (ad 26 g), .int (jI i)] (ad, cnt, X, Y, ln) 0 0 (fun u => ∃ (X1 : Nat → Int → Int → Int) (Y1 : Nat → Int → Int → Option Int), u = (ad, cnt, X1, Y1, ln) ∧ Rng X1 ∧ Frm [2802, 2803, 2902] X X1 ∧ Frm [2801, 2804] Y Y1 ∧ CInv cnt X1 Y1 ln ∧ (0 : Int) ≤ 0 ∧ eNoteC X X1 Y Y1 none i (X 27 g i) (some g)) := by
  refine K_of (cc := cX2_noteItem) (maxL := 3) (ret := none) (by decide) rfl (Nat.le_of_ble_eq_true rfl) ?_
  intro p e s m below meth c ls hx hb hr hml hown hts hlocks hl hK hw hS
  have hown : s.vm.findClass RX2 = some m.cls := hown
  obtain ⟨av9, hav9⟩ : ∃ a9 : Array Value, a9 = ([.ref (ad 29 0), .ref (ad 26 g), .int (jI i)] : List Value).toArray := ⟨_, rfl⟩
  rw [← hav9] at hts ⊢
  obtain ⟨Q9, hQ9⟩ : ∃ q9Q : State → Prop, q9Q = MQ below (QV D tc base (fun u => ∃ (X1 : Nat → Int → Int → Int) (Y1 : Nat → Int → Int → Option Int), u = (ad, cnt, X1, Y1, ln) ∧ Rng X1 ∧ Frm [2802, 2803, 2902] X X1 ∧ Frm [2801, 2804] Y Y1 ∧ CInv cnt X1 Y1 ln ∧ (0 : Int) ≤ 0 ∧ eNoteC X X1 Y Y1 none i (X 27 g i) (some g))) av9 s 0 0 (frA base) := ⟨_, rfl⟩
  rw [← hQ9]
  have hi5 : ∀ w ∈ wsX50, w ∈ wsX2_noteItem := fun w h => List.mem_cons_of_mem _ (List.mem_append_left _ (List.mem_append_left _ (List.mem_append_right _ h)))
  have hf5 : fctx s m _ RX2 wsX2_noteItem D tc RX5 TX5 2 5 := ⟨hts, hi5, hown, hK.1, rfl⟩
  have lk40 := hts (.fieldLink RX2 40 (TX5 0).1 (TX5 0).2.1 (TX5 0).2.2.1) (gj_X2_noteItem_0 _ (gp_h))
  have hc27 : cnt 27 = cnt 26 := hFx.2.2
  have hc29 : cnt 29 = 1 := hFx.at 29 1 (by decide)
  have hl : lv_has ls 3 [(0, .ref (ad 29 0)), (1, .ref (ad 26 g)), (2, .int (jI i))] := hl
  have ftc : 0 ≤ X 0 0 3 ∧ X 0 0 3 ≤ 30 := hR 0 0 3
  have fty : 0 ≤ X 0 0 1 ∧ X 0 0 1 ≤ 8 := hR 0 0 1
  have hct : cnt 19 = X 0 0 1 := hCI.2.2.2.1.1
  have hfj : 0 ≤ X 29 0 3 ∧ X 29 0 3 ≤ 4 := hR 29 0 3
  have hfn : 0 ≤ X 29 0 1 ∧ X 29 0 1 ≤ 80 := hR 29 0 1
  refine lv_aload_n hx hb dX2_noteItem_0 rfl (lv_at hl 0 rfl) ?_
  refine lv_null hx hb dX2_noteItem_1 ?_
  refine lv_iload_n hx hb dX2_noteItem_2 rfl (lv_at hl 2 rfl) ?_
  refine lv_aload_n hx hb dX2_noteItem_3 rfl (lv_at hl 1 rfl) ?_
  refine x_geto hx hb hf5 hw (by omega) (by omega) sl_26_0 lk40 dX2_noteItem_4 ?_
  refine lv_iload_n hx hb dX2_noteItem_7 rfl (lv_at hl 2 rfl) ?_
  have f1 : 0 ≤ ln g ∧ ln g ≤ 12 := hLn g
  refine x_lald hx hb hK.1 hw (by omega) (by omega) ar_27 (show lenE ln 27 g = ln g from rfl) (by omega) (by omega) (by omega) dX2_noteItem_8 ?_
  have f2 : (-9223372036854775808) ≤ X 27 g i ∧ X 27 g i ≤ 9223372036854775807 := hR 27 g i
  refine lv_aload_n hx hb dX2_noteItem_9 rfl (lv_at hl 1 rfl) ?_
  refine gos_v (run_V (As := [.null, .int (jI i), .long (jL (X 27 g i)), .ref (ad 26 g)]) (rest := []) hx hb hml hown hts (c_X2_write_nr l D tc base ad cnt X Y ln hR hFx hLn hCI i (X 27 g i) g (by omega) (by omega) (by omega) (by omega)) (cwV 4 hts gX2_noteItem_X2_write rfl rfl rfl (by first | exact hd_X2_write | decide +kernel) ⟨Nat.le_of_ble_eq_true rfl, Nat.le_of_ble_eq_true rfl⟩) hK hw (by first | exact Int.le_refl 0 | omega) (by first | exact zlt hc29 | omega) sl_29_0 rfl rfl hl.1 rfl (Nat.le_of_ble_eq_true rfl) dX2_noteItem_10 ⟨Nat.le_of_ble_eq_true rfl, Nat.le_of_ble_eq_true rfl⟩) hS (fun u4 H locs p5 hw hS => ?_)
  obtain ⟨X6, Y7, eu4, hRX6, hG8, hJ9, hCIX6, p5, hntX6⟩ := p5
  subst eu4
  have hFX6 : Frm [2802, 2803, 2902] X X6 := Frm.tr Frm.rf (Frm.mono hG8 (by first | exact nls_of rfl | decide))
  have hHY7 : Frm [2801, 2804] Y Y7 := Frm.tr Frm.rf (Frm.mono hJ9 (by first | exact nls_of rfl | decide))
  rw [hQ9]
  refine ret_v (mc := 0) (ms := 0) hx hb hr hlocks hw hS (by first | exact Nat.le_of_ble_eq_true rfl | omega) (by first | exact Nat.le_of_ble_eq_true rfl | omega) dX2_noteItem_13 ?_
  exact ⟨X6, Y7, rfl, hRX6, hFX6, hHY7, hCIX6, by omega, hntX6⟩

set_option maxHeartbeats 4000000 in
set_option maxRecDepth 100000 in
theorem c_X2_addMark (l : Launch) (D : va_G) (tc : Nat → ClassId) (base : Nat) (ad : Nat → Int → Nat) (cnt : Nat → Int) (X : Nat → Int → Int → Int) (Y : Nat → Int → Int → Option Int) (ln : Int → Int) (hR : Rng X) (hFx : Fx cnt) (hLn : LnOK ln) (hCI : CInv cnt X Y ln) (hm4 : X 29 0 3 ≤ 3) : KV l D tc base yX2_addMark wsX2_addMark ({ frames := 0, cells := 0, slots := 0, locals := 0 } : Room) [.ref (ad 29 0)] (ad, cnt, X, Y, ln) 0 0 (fun u => ∃ (X1 : Nat → Int → Int → Int), u = (ad, cnt, X1, Y, ln) ∧ Rng X1 ∧ Frm [2904, 3100] X X1 ∧ CInv cnt X1 Y ln ∧ (0 : Int) ≤ 0 ∧ X1 29 0 3 = X 29 0 3 + 1 ∧ X1 31 0 (X 29 0 3) = X 29 0 1 ∧ ∀ j, j ≠ X 29 0 3 → X1 31 0 j = X 31 0 j) := by
  refine K_of (cc := cX2_addMark) (maxL := 1) (ret := none) (by decide) rfl (Nat.le_of_ble_eq_true rfl) ?_
  intro p e s m below meth c ls hx hb hr hml hown hts hlocks hl hK hw hS
  have hown : s.vm.findClass RX2 = some m.cls := hown
  obtain ⟨av9, hav9⟩ : ∃ a9 : Array Value, a9 = ([.ref (ad 29 0)] : List Value).toArray := ⟨_, rfl⟩
  rw [← hav9] at hts ⊢
  obtain ⟨Q9, hQ9⟩ : ∃ q9Q : State → Prop, q9Q = MQ below (QV D tc base (fun u => ∃ (X1 : Nat → Int → Int → Int), u = (ad, cnt, X1, Y, ln) ∧ Rng X1 ∧ Frm [2904, 3100] X X1 ∧ CInv cnt X1 Y ln ∧ (0 : Int) ≤ 0 ∧ X1 29 0 3 = X 29 0 3 + 1 ∧ X1 31 0 (X 29 0 3) = X 29 0 1 ∧ ∀ j, j ≠ X 29 0 3 → X1 31 0 j = X 31 0 j)) av9 s 0 0 (frA base) := ⟨_, rfl⟩
  rw [← hQ9]
  have hi2 : ∀ w ∈ wsX20, w ∈ wsX2_addMark := fun w h => List.mem_cons_of_mem _ (List.mem_append_right _ h)
  have hf2 : fctx s m _ RX2 wsX2_addMark D tc RX2 TX2 4 2 := ⟨hts, hi2, hown, hK.1, rfl⟩
  have lk17 := hts (.fieldLink RX2 17 (TX2 2).1 (TX2 2).2.1 (TX2 2).2.2.1) (gj_X2_addMark_0 _ (gp_h))
  have lk22 := hts (.fieldLink RX2 22 (TX2 1).1 (TX2 1).2.1 (TX2 1).2.2.1) (gj_X2_addMark_0 _ (gp_1 (gp_1 gp_h)))
  have lk45 := hts (.fieldLink RX2 45 (TX2 3).1 (TX2 3).2.1 (TX2 3).2.2.1) (gj_X2_addMark_0 _ (gp_1 gp_h))
  have hc29 : cnt 29 = 1 := hFx.at 29 1 (by decide)
  have hc31 : cnt 31 = 1 := hFx.at 31 1 (by decide)
  have hl : lv_has ls 1 [(0, .ref (ad 29 0))] := hl
  have ftc : 0 ≤ X 0 0 3 ∧ X 0 0 3 ≤ 30 := hR 0 0 3
  have fty : 0 ≤ X 0 0 1 ∧ X 0 0 1 ≤ 8 := hR 0 0 1
  have hct : cnt 19 = X 0 0 1 := hCI.2.2.2.1.1
  have hfj : 0 ≤ X 29 0 3 ∧ X 29 0 3 ≤ 4 := hR 29 0 3
  have hfn : 0 ≤ X 29 0 1 ∧ X 29 0 1 ≤ 80 := hR 29 0 1
  refine lv_aload_n hx hb dX2_addMark_0 rfl (lv_at hl 0 rfl) ?_
  refine x_geto hx hb hf2 hw (by first | exact Int.le_refl 0 | omega) (by first | exact zlt hc29 | omega) sl_29_2 lk17 dX2_addMark_1 ?_
  refine lv_aload_n hx hb dX2_addMark_4 rfl (lv_at hl 0 rfl) ?_
  refine x_geti (jz := 3) hx hb hf2 hw (by first | exact Int.le_refl 0 | omega) (by first | exact zlt hc29 | omega) sl_29_3 rfl lk45 dX2_addMark_5 ?_
  have f1 : 0 ≤ X 29 0 3 ∧ X 29 0 3 ≤ 4 := hR 29 0 3
  refine lv_aload_n hx hb dX2_addMark_8 rfl (lv_at hl 0 rfl) ?_
  refine x_geti (jz := 1) hx hb hf2 hw (by first | exact Int.le_refl 0 | omega) (by first | exact zlt hc29 | omega) sl_29_1 rfl lk22 dX2_addMark_9 ?_
  have f2 : 0 ≤ X 29 0 1 ∧ X 29 0 1 ≤ 80 := hR 29 0 1
  refine x_iast hx hb hK.1 hw hS (by first | exact Int.le_refl 0 | omega) (by first | exact zlt hc31 | omega) ar_31 (len_E ar_31 (by first | exact Nat.ne_of_beq_eq_false rfl | decide)) (by omega) (by omega) (by omega) dX2_addMark_12 (fun H locs hw hS => ?_)
  obtain ⟨X3, hX3⟩ : ∃ Xq, Xq = u3 X 31 0 (X 29 0 3) (X 29 0 1) := ⟨_, rfl⟩
  rw [← hX3] at hw
  have hRX3 : Rng X3 := by rw [hX3]; exact rng_set hR (show 0 ≤ (X 29 0 1) ∧ (X 29 0 1) ≤ 80 by omega)
  have hVX3 : X3 31 0 (X 29 0 3) = (X 29 0 1) := by rw [hX3]; exact u3_s _ _ _ _ _
  have hFX3 : Frm [2904, 3100] X X3 := by rw [hX3]; exact Frm.set Frm.rf (show 3100 ∈ [2904, 3100] by first | exact nlm_in rfl | decide)
  refine lv_aload_n hx hb dX2_addMark_13 rfl (lv_at hl 0 rfl) ?_
  refine lv_dup hx hb dX2_addMark_14 rfl ?_
  refine x_geti (jz := 3) hx hb hf2 hw (by first | exact Int.le_refl 0 | omega) (by first | exact zlt hc29 | omega) sl_29_3 rfl lk45 dX2_addMark_15 ?_
  have e4 : X3 29 0 3 = X 29 0 3 := by rw [hX3, u3_k _ _ _ _ (by first | exact Nat.ne_of_beq_eq_false rfl | decide)]
  rw [e4]
  have f5 : 0 ≤ X 29 0 3 ∧ X 29 0 3 ≤ 4 := hR 29 0 3
  refine lv_iconst (v := jI 1) hx hb dX2_addMark_18 rfl ?_
  refine x_iadd hx hb dX2_addMark_19 ?_
  refine x_puti (jz := 3) hx hb hf2 ⟨tyX2_ok, nmX2⟩ hw hS (by first | exact Int.le_refl 0 | omega) (by first | exact zlt hc29 | omega) sl_29_3 rfl lk45 rfl (tyX2_ok 3 (by decide)) rfl rfl dX2_addMark_20 (fun H locs hw hS => ?_)
  obtain ⟨X6, hX6⟩ : ∃ Xq, Xq = u3 X3 29 0 3 ((X 29 0 3) + 1) := ⟨_, rfl⟩
  rw [← hX6] at hw
  have hRX6 : Rng X6 := by rw [hX6]; exact rng_set hRX3 (show 0 ≤ ((X 29 0 3) + 1) ∧ ((X 29 0 3) + 1) ≤ 4 by omega)
  have hVX6 : X6 29 0 3 = ((X 29 0 3) + 1) := by rw [hX6]; exact u3_s _ _ _ _ _
  have hFX6 : Frm [2904, 3100] X X6 := by rw [hX6]; exact Frm.set hFX3 (show 2904 ∈ [2904, 3100] by first | exact nlm_in rfl | decide)
  rw [hQ9]
  refine ret_v (mc := 0) (ms := 0) hx hb hr hlocks hw hS (by first | exact Nat.le_of_ble_eq_true rfl | omega) (by first | exact Nat.le_of_ble_eq_true rfl | omega) dX2_addMark_23 ?_
  have q7 : Frm [2904, 3100] X X3 := by rw [hX3]; exact Frm.set Frm.rf (show 3100 ∈ [2904, 3100] by first | exact nlm_in rfl | decide)
  have q8 : Frm [2904, 3100] X X6 := by rw [hX6]; exact Frm.set q7 (show 2904 ∈ [2904, 3100] by first | exact nlm_in rfl | decide)
  have hCq9 : CInv cnt X6 Y ln := cinv_frm (M := [2904, 3100]) (N := []) hCI q8 Frm.rf (by decide) (by decide)
  exact ⟨X6, rfl, hRX6, hFX6, hCq9, by omega, by omega, (by rw [hX6, u3_k _ _ _ _ (by first | exact Nat.ne_of_beq_eq_false rfl | decide)]; exact hVX3), fun j hj => (by rw [hX6, u3_k _ _ _ _ (by first | exact Nat.ne_of_beq_eq_false rfl | decide), hX3, u3_ij (by omega)])⟩
end
section
set_option maxHeartbeats 4000000 in
set_option maxRecDepth 100000 in
theorem c_X3_takeBack (l : Launch) (D : va_G) (tc : Nat → ClassId) (base : Nat) (ad : Nat → Int → Nat) (cnt : Nat → Int) (X : Nat → Int → Int → Int) (Y : Nat → Int → Int → Option Int) (ln : Int → Int) (hR : Rng X) (hFx : Fx cnt) (hLn : LnOK ln) (hCI : CInv cnt X Y ln) (n : Int) (hn0 : 0 ≤ n ∧ n < X 29 0 1) : KV l D tc base yX3_takeBack wsX3_takeBack ({ frames := 0, cells := 0, slots := 0, locals := 0 } : Room) [.ref (ad 28 n)] (ad, cnt, X, Y, ln) 0 0 (fun u => ∃ (X1 : Nat → Int → Int → Int) (Y1 : Nat → Int → Int → Option Int), u = (ad, cnt, X1, Y1, ln) ∧ Rng X1 ∧ Frm [1600, 2700] X X1 ∧ Frm [1700] Y Y1 ∧ CInv cnt X1 Y1 ln ∧ (0 : Int) ≤ 0 ∧ uStC n X X1 Y Y1) := by
  refine K_of (cc := cX3_takeBack) (maxL := 1) (ret := none) (by decide) rfl (Nat.le_of_ble_eq_true rfl) ?_
  intro p e s m below meth c ls hx hb hr hml hown hts hlocks hl hK hw hS
  have hown : s.vm.findClass RX3 = some m.cls := hown
  obtain ⟨av9, hav9⟩ : ∃ a9 : Array Value, a9 = ([.ref (ad 28 n)] : List Value).toArray := ⟨_, rfl⟩
  rw [← hav9] at hts ⊢
  obtain ⟨Q9, hQ9⟩ : ∃ q9Q : State → Prop, q9Q = MQ below (QV D tc base (fun u => ∃ (X1 : Nat → Int → Int → Int) (Y1 : Nat → Int → Int → Option Int), u = (ad, cnt, X1, Y1, ln) ∧ Rng X1 ∧ Frm [1600, 2700] X X1 ∧ Frm [1700] Y Y1 ∧ CInv cnt X1 Y1 ln ∧ (0 : Int) ≤ 0 ∧ uStC n X X1 Y Y1)) av9 s 0 0 (frA base) := ⟨_, rfl⟩
  rw [← hQ9]
  have hi3 : ∀ w ∈ wsX30, w ∈ wsX3_takeBack := fun w h => List.mem_cons_of_mem _ (List.mem_append_left _ (List.mem_append_left _ (List.mem_append_right _ h)))
  have hf3 : fctx s m _ RX3 wsX3_takeBack D tc RX3 TX3 4 3 := ⟨hts, hi3, hown, hK.1, rfl⟩
  have hi5 : ∀ w ∈ wsX50, w ∈ wsX3_takeBack := fun w h => List.mem_cons_of_mem _ (List.mem_append_right _ h)
  have hf5 : fctx s m _ RX3 wsX3_takeBack D tc RX5 TX5 2 5 := ⟨hts, hi5, hown, hK.1, rfl⟩
  have hi6 : ∀ w ∈ wsX60, w ∈ wsX3_takeBack := fun w h => List.mem_cons_of_mem _ (List.mem_append_left _ (List.mem_append_right _ h))
  have hf6 : fctx s m _ RX3 wsX3_takeBack D tc RX6 TX6 4 6 := ⟨hts, hi6, hown, hK.1, rfl⟩
  have lk7 := hts (.fieldLink RX3 7 (TX3 0).1 (TX3 0).2.1 (TX3 0).2.2.1) (gj_X3_takeBack_0 _ (gp_h))
  have lk13 := hts (.fieldLink RX3 13 (TX6 1).1 (TX6 1).2.1 (TX6 1).2.2.1) (gj_X3_takeBack_0 _ (gp_1 gp_h))
  have lk19 := hts (.fieldLink RX3 19 (TX3 1).1 (TX3 1).2.1 (TX3 1).2.2.1) (gj_X3_takeBack_0 _ (gp_1 (gp_1 gp_h)))
  have lk23 := hts (.fieldLink RX3 23 (TX3 2).1 (TX3 2).2.1 (TX3 2).2.2.1) (gj_X3_takeBack_0 _ (gp_1 (gp_1 (gp_1 gp_h))))
  have lk27 := hts (.fieldLink RX3 27 (TX6 2).1 (TX6 2).2.1 (TX6 2).2.2.1) (gj_X3_takeBack_0 _ (gp_4 gp_h))
  have lk31 := hts (.fieldLink RX3 31 (TX3 3).1 (TX3 3).2.1 (TX3 3).2.2.1) (gj_X3_takeBack_0 _ (gp_4 (gp_1 gp_h)))
  have lk35 := hts (.fieldLink RX3 35 (TX5 0).1 (TX5 0).2.1 (TX5 0).2.2.1) (gj_X3_takeBack_0 _ (gp_4 (gp_1 (gp_1 gp_h))))
  have hc15 : cnt 15 = 30 := hFx.at 15 30 (by decide)
  have hc16 : cnt 16 = 30 := hFx.at 16 30 (by decide)
  have hc17 : cnt 17 = 30 := hFx.at 17 30 (by decide)
  have hc27 : cnt 27 = cnt 26 := hFx.2.2
  have hc28 : cnt 28 = 80 := hFx.at 28 80 (by decide)
  have hl : lv_has ls 1 [(0, .ref (ad 28 n))] := hl
  have ftc : 0 ≤ X 0 0 3 ∧ X 0 0 3 ≤ 30 := hR 0 0 3
  have fty : 0 ≤ X 0 0 1 ∧ X 0 0 1 ≤ 8 := hR 0 0 1
  have hct : cnt 19 = X 0 0 1 := hCI.2.2.2.1.1
  have hfj : 0 ≤ X 29 0 3 ∧ X 29 0 3 ≤ 4 := hR 29 0 3
  have hfn : 0 ≤ X 29 0 1 ∧ X 29 0 1 ≤ 80 := hR 29 0 1
  refine lv_aload_n hx hb dX3_takeBack_0 rfl (lv_at hl 0 rfl) ?_
  obtain ⟨hno1, hno2⟩ := hCI.2.2.2.2.2.2.2 n (by omega) (by omega)
  refine x_getr (jz := 0) hx hb hf3 hw (by omega) (by omega) sl_28_0 rfl lk7 dX3_takeBack_1 (fun y1 => ?_) (fun r2 y1 gr2 lr2 => ?_)
  · refine lv_ifnullN (tgt := 42) hx hb dX3_takeBack_4 (by decide) ?_
    refine lv_aload_n hx hb dX3_takeBack_42 rfl (lv_at hl 0 rfl) ?_
    refine x_getr (jz := 3) hx hb hf3 hw (by omega) (by omega) sl_28_3 rfl lk31 dX3_takeBack_43 (fun y3 => ?_) (fun r4 y3 gr4 lr4 => ?_)
    · refine lv_ifnullN (tgt := 65) hx hb dX3_takeBack_46 (by decide) ?_
      rw [hQ9]
      refine ret_v (mc := 0) (ms := 0) hx hb hr hlocks hw hS (by first | exact Nat.le_of_ble_eq_true rfl | omega) (by first | exact Nat.le_of_ble_eq_true rfl | omega) dX3_takeBack_65 ?_
      exact ⟨X, Y, rfl, hR, Frm.rf, Frm.rf, hCI, by omega, Or.inr (Or.inr ⟨y1, y3, rfl, rfl⟩)⟩
    · refine lv_ifnull hx hb dX3_takeBack_46 ?_
      refine lv_aload_n hx hb dX3_takeBack_49 rfl (lv_at hl 0 rfl) ?_
      refine x_getr (jz := 3) hx hb hf3 hw (by omega) (by omega) sl_28_3 rfl lk31 dX3_takeBack_50 (fun y5 => ?_) (fun r6 y5 gr6 lr6 => ?_)
      · exfalso
        rw [y3] at y5; cases y5
      · have er6 : r6 = r4 := by rw [y3] at y5; cases y5; rfl
        rw [er6]
        refine x_geto hx hb hf5 hw (by omega) (by omega) sl_26_0 lk35 dX3_takeBack_53 ?_
        refine lv_aload_n hx hb dX3_takeBack_56 rfl (lv_at hl 0 rfl) ?_
        refine x_geti (jz := 1) hx hb hf3 hw (by omega) (by omega) sl_28_1 rfl lk19 dX3_takeBack_57 ?_
        have f7 : 0 ≤ X 28 n 1 ∧ X 28 n 1 ≤ 11 := hR 28 n 1
        refine lv_aload_n hx hb dX3_takeBack_60 rfl (lv_at hl 0 rfl) ?_
        refine x_getl (jz := 2) hx hb hf3 hw (by omega) (by omega) sl_28_2 rfl lk23 dX3_takeBack_61 ?_
        have f8 : (-9223372036854775808) ≤ X 28 n 2 ∧ X 28 n 2 ≤ 9223372036854775807 := hR 28 n 2
        have hix := hno2 y1 r4 y3
        have f9 : 0 ≤ ln r4 ∧ ln r4 ≤ 12 := hLn r4
        refine x_last hx hb hK.1 hw hS (by omega) (by omega) ar_27 (show lenE ln 27 r4 = ln r4 from rfl) (by omega) (by omega) (by omega) dX3_takeBack_64 (fun H locs hw hS => ?_)
        obtain ⟨X10, hX10⟩ : ∃ Xq, Xq = u3 X 27 r4 (X 28 n 1) (X 28 n 2) := ⟨_, rfl⟩
        rw [← hX10] at hw
        have hRX10 : Rng X10 := by rw [hX10]; exact rng_set hR (show (-9223372036854775808) ≤ (X 28 n 2) ∧ (X 28 n 2) ≤ 9223372036854775807 by omega)
        have hVX10 : X10 27 r4 (X 28 n 1) = (X 28 n 2) := by rw [hX10]; exact u3_s _ _ _ _ _
        have hFX10 : Frm [1600, 2700] X X10 := by rw [hX10]; exact Frm.set Frm.rf (show 2700 ∈ [1600, 2700] by first | exact nlm_in rfl | decide)
        rw [hQ9]
        refine ret_v (mc := 0) (ms := 0) hx hb hr hlocks hw hS (by first | exact Nat.le_of_ble_eq_true rfl | omega) (by first | exact Nat.le_of_ble_eq_true rfl | omega) dX3_takeBack_65 ?_
        have q11 : Frm [2700] X X10 := by rw [hX10]; exact Frm.set Frm.rf (show 2700 ∈ [2700] by first | exact nlm_in rfl | decide)
        have hCq12 : CInv cnt X10 Y ln := cinv_frm (M := [2700]) (N := []) hCI q11 Frm.rf (by decide) (by decide)
        exact ⟨X10, Y, rfl, hRX10, hFX10, Frm.rf, hCq12, by omega, Or.inr (Or.inl ⟨y1, r4, y3, hX10, rfl⟩)⟩
  · refine lv_ifnull hx hb dX3_takeBack_4 ?_
    refine lv_aload_n hx hb dX3_takeBack_7 rfl (lv_at hl 0 rfl) ?_
    refine x_getr (jz := 0) hx hb hf3 hw (by omega) (by omega) sl_28_0 rfl lk7 dX3_takeBack_8 (fun y13 => ?_) (fun r14 y13 gr14 lr14 => ?_)
    · exfalso
      rw [y1] at y13; cases y13
    · have er14 : r14 = r2 := by rw [y1] at y13; cases y13; rfl
      rw [er14]
      refine x_geto hx hb hf6 hw (by omega) (by omega) sl_15_1 lk13 dX3_takeBack_11 ?_
      refine lv_aload_n hx hb dX3_takeBack_14 rfl (lv_at hl 0 rfl) ?_
      refine x_geti (jz := 1) hx hb hf3 hw (by omega) (by omega) sl_28_1 rfl lk19 dX3_takeBack_15 ?_
      have f15 : 0 ≤ X 28 n 1 ∧ X 28 n 1 ≤ 11 := hR 28 n 1
      refine lv_aload_n hx hb dX3_takeBack_18 rfl (lv_at hl 0 rfl) ?_
      refine x_getl (jz := 2) hx hb hf3 hw (by omega) (by omega) sl_28_2 rfl lk23 dX3_takeBack_19 ?_
      have f16 : (-9223372036854775808) ≤ X 28 n 2 ∧ X 28 n 2 ≤ 9223372036854775807 := hR 28 n 2
      have hix := hno1 (by rw [y1]; exact fun q => by cases q)
      refine x_last hx hb hK.1 hw hS (by omega) (by omega) ar_16 (len_E ar_16 (by first | exact Nat.ne_of_beq_eq_false rfl | decide)) (by omega) (by omega) (by omega) dX3_takeBack_22 (fun H locs hw hS => ?_)
      obtain ⟨X17, hX17⟩ : ∃ Xq, Xq = u3 X 16 r2 (X 28 n 1) (X 28 n 2) := ⟨_, rfl⟩
      rw [← hX17] at hw
      have hRX17 : Rng X17 := by rw [hX17]; exact rng_set hR (show (-9223372036854775808) ≤ (X 28 n 2) ∧ (X 28 n 2) ≤ 9223372036854775807 by omega)
      have hVX17 : X17 16 r2 (X 28 n 1) = (X 28 n 2) := by rw [hX17]; exact u3_s _ _ _ _ _
      have hFX17 : Frm [1600, 2700] X X17 := by rw [hX17]; exact Frm.set Frm.rf (show 1600 ∈ [1600, 2700] by first | exact nlm_in rfl | decide)
      refine lv_aload_n hx hb dX3_takeBack_23 rfl (lv_at hl 0 rfl) ?_
      refine x_getr (jz := 0) hx hb hf3 hw (by omega) (by omega) sl_28_0 rfl lk7 dX3_takeBack_24 (fun y18 => ?_) (fun r19 y18 gr19 lr19 => ?_)
      · exfalso
        rw [y1] at y18; cases y18
      · have er19 : r19 = r2 := by rw [y1] at y18; cases y18; rfl
        rw [er19]
        refine x_geto hx hb hf6 hw (by omega) (by omega) sl_15_2 lk27 dX3_takeBack_27 ?_
        refine lv_aload_n hx hb dX3_takeBack_30 rfl (lv_at hl 0 rfl) ?_
        refine x_geti (jz := 1) hx hb hf3 hw (by omega) (by omega) sl_28_1 rfl lk19 dX3_takeBack_31 ?_
        have e20 : X17 28 n 1 = X 28 n 1 := by rw [hX17, u3_k _ _ _ _ (by first | exact Nat.ne_of_beq_eq_false rfl | decide)]
        rw [e20]
        have f21 : 0 ≤ X 28 n 1 ∧ X 28 n 1 ≤ 11 := hR 28 n 1
        refine lv_aload_n hx hb dX3_takeBack_34 rfl (lv_at hl 0 rfl) ?_
        refine x_getr (jz := 3) hx hb hf3 hw (by omega) (by omega) sl_28_3 rfl lk31 dX3_takeBack_35 (fun y22 => ?_) (fun r23 y22 gr23 lr23 => ?_)
        · have hix := hno1 (by rw [y1]; exact fun q => by cases q)
          refine x_aastn hx hb hK.1 hw hS (by omega) (by omega) ar_17 rfl (len_E ar_17 (by first | exact Nat.ne_of_beq_eq_false rfl | decide)) (by omega) (by omega) (by omega) dX3_takeBack_38 (fun H locs hw hS => ?_)
          obtain ⟨Y24, hY24⟩ : ∃ Yq, Yq = u3 Y 17 r2 (X 28 n 1) none := ⟨_, rfl⟩
          rw [← hY24] at hw
          have hVY24 : Y24 17 r2 (X 28 n 1) = none := by rw [hY24]; exact u3_s _ _ _ _ _
          have hHY24 : Frm [1700] Y Y24 := by rw [hY24]; exact Frm.set Frm.rf (show 1700 ∈ [1700] by first | exact nlm_in rfl | decide)
          refine lv_goto (tgt := 65) hx hb dX3_takeBack_39 (by decide) ?_
          rw [hQ9]
          refine ret_v (mc := 0) (ms := 0) hx hb hr hlocks hw hS (by first | exact Nat.le_of_ble_eq_true rfl | omega) (by first | exact Nat.le_of_ble_eq_true rfl | omega) dX3_takeBack_65 ?_
          have q25 : Frm [1600] X X17 := by rw [hX17]; exact Frm.set Frm.rf (show 1600 ∈ [1600] by first | exact nlm_in rfl | decide)
          have hCq27 : CInv cnt X17 Y24 ln := cinv_frm (M := [1600]) (N := [1700]) hCI q25 hHY24 (by decide) (by decide)
          exact ⟨X17, Y24, rfl, hRX17, hFX17, hHY24, hCq27, by omega, Or.inl ⟨r2, y1, hX17, (by rw [y22]; exact hY24)⟩⟩
        · have hix := hno1 (by rw [y1]; exact fun q => by cases q)
          refine x_aast hx hb hK.1 hw hS (by omega) (by omega) ar_17 rfl rfl sl_26_0 (len_E ar_17 (by first | exact Nat.ne_of_beq_eq_false rfl | decide)) (by omega) (by omega) (by omega) (by omega) (by omega) dX3_takeBack_38 (fun H locs hw hS => ?_)
          obtain ⟨Y28, hY28⟩ : ∃ Yq, Yq = u3 Y 17 r2 (X 28 n 1) (some r23) := ⟨_, rfl⟩
          rw [← hY28] at hw
          have hVY28 : Y28 17 r2 (X 28 n 1) = (some r23) := by rw [hY28]; exact u3_s _ _ _ _ _
          have hHY28 : Frm [1700] Y Y28 := by rw [hY28]; exact Frm.set Frm.rf (show 1700 ∈ [1700] by first | exact nlm_in rfl | decide)
          refine lv_goto (tgt := 65) hx hb dX3_takeBack_39 (by decide) ?_
          rw [hQ9]
          refine ret_v (mc := 0) (ms := 0) hx hb hr hlocks hw hS (by first | exact Nat.le_of_ble_eq_true rfl | omega) (by first | exact Nat.le_of_ble_eq_true rfl | omega) dX3_takeBack_65 ?_
          have q29 : Frm [1600] X X17 := by rw [hX17]; exact Frm.set Frm.rf (show 1600 ∈ [1600] by first | exact nlm_in rfl | decide)
          have hCq31 : CInv cnt X17 Y28 ln := cinv_frm (M := [1600]) (N := [1700]) hCI q29 hHY28 (by decide) (by decide)
          exact ⟨X17, Y28, rfl, hRX17, hFX17, hHY28, hCq31, by omega, Or.inl ⟨r2, y1, hX17, (by rw [y22]; exact hY28)⟩⟩

set_option maxHeartbeats 4000000 in
set_option maxRecDepth 100000 in
theorem c_X2_undoLatestMark (l : Launch) (D : va_G) (tc : Nat → ClassId) (base : Nat) (ad : Nat → Int → Nat) (cnt : Nat → Int) (X : Nat → Int → Int → Int) (Y : Nat → Int → Int → Option Int) (ln : Int → Int) (hR : Rng X) (hFx : Fx cnt) (hLn : LnOK ln) (hCI : CInv cnt X Y ln) (hm1 : 1 ≤ X 29 0 3) : KI l D tc base yX2_undoLatestMark wsX2_undoLatestMark ({ frames := 1, cells := 0, slots := 0, locals := 20 } : Room) [.ref (ad 29 0)] (ad, cnt, X, Y, ln) 0 0 (fun z u => ∃ (X1 : Nat → Int → Int → Int) (Y1 : Nat → Int → Int → Option Int), u = (ad, cnt, X1, Y1, ln) ∧ Rng X1 ∧ Frm [2904, 2902, 1600, 2700] X X1 ∧ Frm [1700] Y Y1 ∧ CInv cnt X1 Y1 ln ∧ (-2147483648 ≤ z ∧ z ≤ 2147483647) ∧ X1 29 0 3 = X 29 0 3 - 1 ∧ ∃ (V Xa : Nat → Int → Int → Int) (iz : Int), Frm [2904] X V ∧ uTrC (X 29 0 1) ((X 29 0 1 - 1 - iz).toNat) V Y Xa Y1 ∧ (X 31 0 (X 29 0 3 - 1) - 1 ≤ iz ∨ iz = X 29 0 1 - 1) ∧ iz < X 31 0 (X 29 0 3 - 1) ∧ (-1 ≤ iz ∧ iz < X 29 0 1 ∨ iz = -1) ∧ Frm [2902] Xa X1 ∧ X1 29 0 1 = X 31 0 (X 29 0 3 - 1) ∧ z = X 29 0 1 - X 31 0 (X 29 0 3 - 1)) := by
  refine K_of (cc := cX2_undoLatestMark) (maxL := 4) (ret := (some .int)) (by decide) rfl (Nat.le_of_ble_eq_true rfl) ?_
  intro p e s m below meth c ls hx hb hr hml hown hts hlocks hl hK hw hS
  have hown : s.vm.findClass RX2 = some m.cls := hown
  obtain ⟨av9, hav9⟩ : ∃ a9 : Array Value, a9 = ([.ref (ad 29 0)] : List Value).toArray := ⟨_, rfl⟩
  rw [← hav9] at hts ⊢
  obtain ⟨Q9, hQ9⟩ : ∃ q9Q : State → Prop, q9Q = MQ below (QI D tc base (fun z u => ∃ (X1 : Nat → Int → Int → Int) (Y1 : Nat → Int → Int → Option Int), u = (ad, cnt, X1, Y1, ln) ∧ Rng X1 ∧ Frm [2904, 2902, 1600, 2700] X X1 ∧ Frm [1700] Y Y1 ∧ CInv cnt X1 Y1 ln ∧ (-2147483648 ≤ z ∧ z ≤ 2147483647) ∧ X1 29 0 3 = X 29 0 3 - 1 ∧ ∃ (V Xa : Nat → Int → Int → Int) (iz : Int), Frm [2904] X V ∧ uTrC (X 29 0 1) ((X 29 0 1 - 1 - iz).toNat) V Y Xa Y1 ∧ (X 31 0 (X 29 0 3 - 1) - 1 ≤ iz ∨ iz = X 29 0 1 - 1) ∧ iz < X 31 0 (X 29 0 3 - 1) ∧ (-1 ≤ iz ∧ iz < X 29 0 1 ∨ iz = -1) ∧ Frm [2902] Xa X1 ∧ X1 29 0 1 = X 31 0 (X 29 0 3 - 1) ∧ z = X 29 0 1 - X 31 0 (X 29 0 3 - 1))) av9 s 0 0 (frA base) := ⟨_, rfl⟩
  rw [← hQ9]
  have hi2 : ∀ w ∈ wsX20, w ∈ wsX2_undoLatestMark := fun w h => List.mem_cons_of_mem _ (List.mem_append_left _ (List.mem_append_left _ (List.mem_append_left _ (List.mem_append_right _ h))))
  have hf2 : fctx s m _ RX2 wsX2_undoLatestMark D tc RX2 TX2 4 2 := ⟨hts, hi2, hown, hK.1, rfl⟩
  have lk11 := hts (.fieldLink RX2 11 (TX2 0).1 (TX2 0).2.1 (TX2 0).2.2.1) (gj_X2_undoLatestMark_0 _ (gp_1 (gp_1 (gp_1 gp_h))))
  have lk17 := hts (.fieldLink RX2 17 (TX2 2).1 (TX2 2).2.1 (TX2 2).2.2.1) (gj_X2_undoLatestMark_0 _ (gp_1 gp_h))
  have lk22 := hts (.fieldLink RX2 22 (TX2 1).1 (TX2 1).2.1 (TX2 1).2.2.1) (gj_X2_undoLatestMark_0 _ (gp_1 (gp_1 gp_h)))
  have lk45 := hts (.fieldLink RX2 45 (TX2 3).1 (TX2 3).2.1 (TX2 3).2.2.1) (gj_X2_undoLatestMark_0 _ (gp_h))
  have hc28 : cnt 28 = 80 := hFx.at 28 80 (by decide)
  have hc29 : cnt 29 = 1 := hFx.at 29 1 (by decide)
  have hc30 : cnt 30 = 1 := hFx.at 30 1 (by decide)
  have hc31 : cnt 31 = 1 := hFx.at 31 1 (by decide)
  have hl : lv_has ls 4 [(0, .ref (ad 29 0))] := hl
  have ftc : 0 ≤ X 0 0 3 ∧ X 0 0 3 ≤ 30 := hR 0 0 3
  have fty : 0 ≤ X 0 0 1 ∧ X 0 0 1 ≤ 8 := hR 0 0 1
  have hct : cnt 19 = X 0 0 1 := hCI.2.2.2.1.1
  have hfj : 0 ≤ X 29 0 3 ∧ X 29 0 3 ≤ 4 := hR 29 0 3
  have hfn : 0 ≤ X 29 0 1 ∧ X 29 0 1 ≤ 80 := hR 29 0 1
  refine lv_aload_n hx hb dX2_undoLatestMark_0 rfl (lv_at hl 0 rfl) ?_
  refine lv_dup hx hb dX2_undoLatestMark_1 rfl ?_
  refine x_geti (jz := 3) hx hb hf2 hw (by first | exact Int.le_refl 0 | omega) (by first | exact zlt hc29 | omega) sl_29_3 rfl lk45 dX2_undoLatestMark_2 ?_
  have f1 : 0 ≤ X 29 0 3 ∧ X 29 0 3 ≤ 4 := hR 29 0 3
  refine lv_iconst (v := jI 1) hx hb dX2_undoLatestMark_5 rfl ?_
  refine x_isub hx hb dX2_undoLatestMark_6 ?_
  refine x_puti (jz := 3) hx hb hf2 ⟨tyX2_ok, nmX2⟩ hw hS (by first | exact Int.le_refl 0 | omega) (by first | exact zlt hc29 | omega) sl_29_3 rfl lk45 rfl (tyX2_ok 3 (by decide)) rfl rfl dX2_undoLatestMark_7 (fun H locs hw hS => ?_)
  obtain ⟨X2, hX2⟩ : ∃ Xq, Xq = u3 X 29 0 3 ((X 29 0 3) - 1) := ⟨_, rfl⟩
  rw [← hX2] at hw
  have hRX2 : Rng X2 := by rw [hX2]; exact rng_set hR (show 0 ≤ ((X 29 0 3) - 1) ∧ ((X 29 0 3) - 1) ≤ 4 by omega)
  have hVX2 : X2 29 0 3 = ((X 29 0 3) - 1) := by rw [hX2]; exact u3_s _ _ _ _ _
  have hFX2 : Frm [2904, 2902, 1600, 2700] X X2 := by rw [hX2]; exact Frm.set Frm.rf (show 2904 ∈ [2904, 2902, 1600, 2700] by first | exact nlm_in rfl | decide)
  refine lv_aload_n hx hb dX2_undoLatestMark_10 rfl (lv_at hl 0 rfl) ?_
  refine x_geto hx hb hf2 hw (by first | exact Int.le_refl 0 | omega) (by first | exact zlt hc29 | omega) sl_29_2 lk17 dX2_undoLatestMark_11 ?_
  refine lv_aload_n hx hb dX2_undoLatestMark_14 rfl (lv_at hl 0 rfl) ?_
  refine x_geti (jz := 3) hx hb hf2 hw (by first | exact Int.le_refl 0 | omega) (by first | exact zlt hc29 | omega) sl_29_3 rfl lk45 dX2_undoLatestMark_15 ?_
  rw [hVX2]
  refine x_iald hx hb hK.1 hw (by first | exact Int.le_refl 0 | omega) (by first | exact zlt hc31 | omega) ar_31 (len_E ar_31 (by first | exact Nat.ne_of_beq_eq_false rfl | decide)) (by omega) (by omega) (by omega) dX2_undoLatestMark_18 ?_
  have e3 : ∀ p9 q9 : Int, X2 31 p9 q9 = X 31 p9 q9 := fun p9 q9 => by rw [hX2, u3_k _ _ _ _ (by first | exact Nat.ne_of_beq_eq_false rfl | decide)]
  rw [e3 0 ((X 29 0 3) - 1)]
  have f4 : 0 ≤ X 31 0 ((X 29 0 3) - 1) ∧ X 31 0 ((X 29 0 3) - 1) ≤ 80 := hR 31 0 ((X 29 0 3) - 1)
  refine lv_istore_n (lv' := [(1, .int (jI (X 31 0 ((X 29 0 3) - 1)))), (0, .ref (ad 29 0))]) hx hb dX2_undoLatestMark_19 rfl hl (by decide) rfl (fun ls hl => ?_)
  refine lv_aload_n hx hb dX2_undoLatestMark_20 rfl (lv_at hl 1 rfl) ?_
  refine x_geti (jz := 1) hx hb hf2 hw (by first | exact Int.le_refl 0 | omega) (by first | exact zlt hc29 | omega) sl_29_1 rfl lk22 dX2_undoLatestMark_21 ?_
  have e5 : X2 29 0 1 = X 29 0 1 := by rw [hX2, u3_j _ _ _ _ (by decide)]
  rw [e5]
  have f6 : 0 ≤ X 29 0 1 ∧ X 29 0 1 ≤ 80 := hR 29 0 1
  refine lv_iload_n hx hb dX2_undoLatestMark_24 rfl (lv_at hl 0 rfl) ?_
  refine x_isub hx hb dX2_undoLatestMark_25 ?_
  refine lv_istore_n (lv' := [(2, .int (jI ((X 29 0 1) - (X 31 0 ((X 29 0 3) - 1))))), (1, .int (jI (X 31 0 ((X 29 0 3) - 1)))), (0, .ref (ad 29 0))]) hx hb dX2_undoLatestMark_26 rfl hl (by decide) rfl (fun ls hl => ?_)
  refine lv_aload_n hx hb dX2_undoLatestMark_27 rfl (lv_at hl 2 rfl) ?_
  refine x_geti (jz := 1) hx hb hf2 hw (by first | exact Int.le_refl 0 | omega) (by first | exact zlt hc29 | omega) sl_29_1 rfl lk22 dX2_undoLatestMark_28 ?_
  have e7 : X2 29 0 1 = X 29 0 1 := by rw [hX2, u3_j _ _ _ _ (by decide)]
  rw [e7]
  have f8 : 0 ≤ X 29 0 1 ∧ X 29 0 1 ≤ 80 := hR 29 0 1
  refine lv_iconst (v := jI 1) hx hb dX2_undoLatestMark_31 rfl ?_
  refine x_isub hx hb dX2_undoLatestMark_32 ?_
  refine lv_istore_n (lv' := [(3, .int (jI ((X 29 0 1) - 1))), (2, .int (jI ((X 29 0 1) - (X 31 0 ((X 29 0 3) - 1))))), (1, .int (jI (X 31 0 ((X 29 0 3) - 1)))), (0, .ref (ad 29 0))]) hx hb dX2_undoLatestMark_33 rfl hl (by decide) rfl (fun ls hl => ?_)
  have lp34 : ∀ (nn : Nat) (iz : Int) (Xa : Nat → Int → Int → Int) (Ya : Nat → Int → Int → Option Int) (H : Heap) (locs : List Loc) (ls : Array Slot), (iz + 1) < (nn : Int) → (Rng Xa) → (Frm [1600, 2700] X2 Xa) → (Frm [1700] Y Ya) → (-1 ≤ iz ∧ iz < X 29 0 1) → (CInv cnt Xa Ya ln) → (uTrC (X 29 0 1) ((X 29 0 1 - 1 - iz).toNat) X2 Y Xa Ya) → (X 31 0 (X 29 0 3 - 1) - 1 ≤ iz ∨ iz = X 29 0 1 - 1) → wd D tc base (ad, cnt, Xa, Ya, ln) H → va_S (frA base) s.heap H locs → lv_has ls 4 [(0, .ref (ad 29 0)), (1, .int (jI (X 31 0 ((X 29 0 3) - 1)))), (2, .int (jI ((X 29 0 1) - (X 31 0 ((X 29 0 3) - 1))))), (3, .int (jI iz))] → W p l e ({ frames := 1, cells := 0, slots := 0, locals := 20 } : Room) s m av9 below meth c H locs 0 0 Q9 (F0 m 34 ls []) := by
    intro nn
    induction nn with
    | zero => intro iz Xa Ya H locs ls hm hRXa hGXa hGYa hiz hCIXa hTr hst9 hw hS hl; exfalso; omega
    | succ nn ih34 =>
      intro iz Xa Ya H locs ls hm hRXa hGXa hGYa hiz hCIXa hTr hst9 hw hS hl
      have hHYa : Frm [1700] Y Ya := Frm.tr Frm.rf (Frm.mono hGYa (by first | exact nls_of rfl | decide))
      have hFXa : Frm [2904, 2902, 1600, 2700] X Xa := Frm.tr hFX2 (Frm.mono hGXa (by first | exact nls_of rfl | decide))
      refine lv_iload_n hx hb dX2_undoLatestMark_34 rfl (lv_at hl 3 rfl) ?_
      refine lv_iload_n hx hb dX2_undoLatestMark_35 rfl (lv_at hl 1 rfl) ?_
      refine x_icmp_lt (tgt := 54) hx hb (by omega) (by omega) dX2_undoLatestMark_36 (by decide) (fun c9 => ?_) (fun c9 => ?_)
      · refine lv_aload_n hx hb dX2_undoLatestMark_54 rfl (lv_at hl 0 rfl) ?_
        refine lv_iload_n hx hb dX2_undoLatestMark_55 rfl (lv_at hl 1 rfl) ?_
        refine x_puti (jz := 1) hx hb hf2 ⟨tyX2_ok, nmX2⟩ hw hS (by first | exact Int.le_refl 0 | omega) (by first | exact zlt hc29 | omega) sl_29_1 rfl lk22 rfl (tyX2_ok 1 (by decide)) rfl rfl dX2_undoLatestMark_56 (fun H locs hw hS => ?_)
        obtain ⟨X10, hX10⟩ : ∃ Xq, Xq = u3 Xa 29 0 1 (X 31 0 ((X 29 0 3) - 1)) := ⟨_, rfl⟩
        rw [← hX10] at hw
        have hRX10 : Rng X10 := by rw [hX10]; exact rng_set hRXa (show 0 ≤ (X 31 0 ((X 29 0 3) - 1)) ∧ (X 31 0 ((X 29 0 3) - 1)) ≤ 80 by omega)
        have hVX10 : X10 29 0 1 = (X 31 0 ((X 29 0 3) - 1)) := by rw [hX10]; exact u3_s _ _ _ _ _
        have hFX10 : Frm [2904, 2902, 1600, 2700] X X10 := by rw [hX10]; exact Frm.set hFXa (show 2902 ∈ [2904, 2902, 1600, 2700] by first | exact nlm_in rfl | decide)
        refine lv_iload_n hx hb dX2_undoLatestMark_59 rfl (lv_at hl 2 rfl) ?_
        rw [hQ9]
        refine ret_i (mc := 0) (ms := 0) hx hb hr hlocks hw hS (by first | exact Nat.le_of_ble_eq_true rfl | omega) (by first | exact Nat.le_of_ble_eq_true rfl | omega) dX2_undoLatestMark_60 ?_
        have q11 : Frm [2902] Xa X10 := by rw [hX10]; exact Frm.set Frm.rf (show 2902 ∈ [2902] by first | exact nlm_in rfl | decide)
        have hCq12 : CInv cnt X10 Ya ln := cinv_frm (M := [2902]) (N := []) hCIXa q11 Frm.rf (by decide) (by decide)
        have q13 : Frm [2904] X X2 := by rw [hX2]; exact Frm.set Frm.rf (show 2904 ∈ [2904] by first | exact nlm_in rfl | decide)
        have q14 : Frm [2902] Xa X10 := by rw [hX10]; exact Frm.set Frm.rf (show 2902 ∈ [2902] by first | exact nlm_in rfl | decide)
        exact ⟨X10, Ya, rfl, hRX10, hFX10, hHYa, hCq12, by omega, (by rw [hX10, u3_ij (by omega), hGXa 29 0 3 (show 2904 ∉ [1600, 2700] by first | exact nlm_ni rfl | decide)]; exact hVX2), ⟨X2, Xa, iz, q13, hTr, by omega, by omega, by omega, q14, hVX10, by omega⟩⟩
      · refine lv_aload_n hx hb dX2_undoLatestMark_39 rfl (lv_at hl 0 rfl) ?_
        refine x_geto hx hb hf2 hw (by first | exact Int.le_refl 0 | omega) (by first | exact zlt hc29 | omega) sl_29_0 lk11 dX2_undoLatestMark_40 ?_
        refine lv_iload_n hx hb dX2_undoLatestMark_43 rfl (lv_at hl 3 rfl) ?_
        refine x_aald hx hb hK.1 hw (by first | exact Int.le_refl 0 | omega) (by first | exact zlt hc30 | omega) ar_30 rfl (len_E ar_30 (by first | exact Nat.ne_of_beq_eq_false rfl | decide)) (by omega) (by omega) (by omega) dX2_undoLatestMark_44 (fun y15 => ?_) (fun r16 y15 gr16 lr16 => ?_)
        · exfalso
          have e17 : ∀ p9 q9 : Int, Ya 30 p9 q9 = Y 30 p9 q9 := fun p9 q9 => by rw [hGYa 30 p9 q9 (show 3000 ∉ [1700] by first | exact nlm_ni rfl | decide)]
          rw [e17] at y15
          have h9 := hCI.2.1 iz (by omega) (by omega); rw [h9] at y15; cases y15
        · have e18 : ∀ p9 q9 : Int, Ya 30 p9 q9 = Y 30 p9 q9 := fun p9 q9 => by rw [hGYa 30 p9 q9 (show 3000 ∉ [1700] by first | exact nlm_ni rfl | decide)]
          rw [e18] at y15
          have er16 : r16 = iz := by have h9 := hCI.2.1 iz (by omega) (by omega); rw [h9] at y15; cases y15; rfl
          rw [er16]
          have e19 : Xa 29 0 1 = X 29 0 1 := by rw [hGXa 29 0 1 (show 2902 ∉ [1600, 2700] by first | exact nlm_ni rfl | decide), hX2, u3_j _ _ _ _ (by decide)]
          refine gos_v (run_V (As := []) (rest := []) hx hb hml hown hts (c_X3_takeBack l D tc base ad cnt Xa Ya ln hRXa hFx hLn hCIXa iz (by simp only [e19]; omega)) (cwV 0 hts gX2_undoLatestMark_X3_takeBack rfl rfl rfl (by first | exact hd_X3_takeBack | decide +kernel) ⟨Nat.le_of_ble_eq_true rfl, Nat.le_of_ble_eq_true rfl⟩) hK hw (by first | exact Int.le_refl 0 | omega) (by first | exact zlt hc28 | omega) sl_28_0 rfl rfl hl.1 rfl (Nat.le_of_ble_eq_true rfl) dX2_undoLatestMark_45 ⟨Nat.le_of_ble_eq_true rfl, Nat.le_of_ble_eq_true rfl⟩) hS (fun u21 H locs p22 hw hS => ?_)
          obtain ⟨X23, Y24, eu21, hRX23, hG25, hJ26, hCIX23, p22, husX23⟩ := p22
          subst eu21
          have hFX23 : Frm [2904, 2902, 1600, 2700] X X23 := Frm.tr hFXa (Frm.mono hG25 (by first | exact nls_of rfl | decide))
          have hHY24 : Frm [1700] Y Y24 := Frm.tr hHYa (Frm.mono hJ26 (by first | exact nls_of rfl | decide))
          refine lv_iinc (v := jI (iz + (-1))) (lv' := [(3, .int (jI (iz + (-1)))), (0, .ref (ad 29 0)), (1, .int (jI (X 31 0 ((X 29 0 3) - 1)))), (2, .int (jI ((X 29 0 1) - (X 31 0 ((X 29 0 3) - 1)))))]) hx hb dX2_undoLatestMark_48 hl (k := 3) rfl (jI_add _ _) (by decide) rfl (fun ls hl => ?_)
          refine lv_goto (tgt := 34) hx hb dX2_undoLatestMark_51 (by decide) ?_
          have q27 : Frm [1600, 2700] X2 Xa := Frm.tr Frm.rf (Frm.mono hGXa (by first | exact nls_of rfl | decide))
          have q28 : Frm [1600, 2700] X2 X23 := Frm.tr q27 (Frm.mono hG25 (by first | exact nls_of rfl | decide))
          have q29 : Frm [1700] Y Ya := Frm.tr Frm.rf (Frm.mono hGYa (by first | exact nls_of rfl | decide))
          have e31 : X23 29 0 1 = X 29 0 1 := by rw [hG25 29 0 1 (show 2902 ∉ [1600, 2700] by first | exact nlm_ni rfl | decide), hGXa 29 0 1 (show 2902 ∉ [1600, 2700] by first | exact nlm_ni rfl | decide), hX2, u3_j _ _ _ _ (by decide)]
          exact ih34 (iz + (-1)) X23 Y24 _ _ _ (by omega) hRX23 q28 hHY24 (by first | omega | (simp only [e31]; omega)) (hCIX23) (uTrC.push hTr (by omega) husX23) (by first | omega | (simp only [e31]; omega)) hw hS (lv_sub hl [1, 2, 3, 0] rfl)
  have e32 : X2 29 0 1 = X 29 0 1 := by rw [hX2, u3_j _ _ _ _ (by decide)]
  have q33 : Frm [2904] X X2 := by rw [hX2]; exact Frm.set Frm.rf (show 2904 ∈ [2904] by first | exact nlm_in rfl | decide)
  have hCq34 : CInv cnt X2 Y ln := cinv_frm (M := [2904]) (N := []) hCI q33 Frm.rf (by decide) (by decide)
  exact lp34 (((X 29 0 1) - 1) + 1 : Int).toNat.succ ((X 29 0 1) - 1) X2 Y _ _ _ (by omega) hRX2 Frm.rf Frm.rf (by first | omega | (simp only [e32]; omega)) (hCq34) ((by rw [show (X 29 0 1 - 1 - (X 29 0 1 - 1)).toNat = 0 by omega]; exact ⟨rfl, rfl⟩)) (by first | omega | (simp only [e32]; omega)) hw hS (lv_sub hl [3, 2, 1, 0] rfl)

set_option maxHeartbeats 4000000 in
set_option maxRecDepth 100000 in
theorem c_X6_setDefault (l : Launch) (D : va_G) (tc : Nat → ClassId) (base : Nat) (ad : Nat → Int → Nat) (cnt : Nat → Int) (X : Nat → Int → Int → Int) (Y : Nat → Int → Int → Option Int) (ln : Int → Int) (hR : Rng X) (hFx : Fx cnt) (hLn : LnOK ln) (hCI : CInv cnt X Y ln) (x k : Int) (hx0 : 0 ≤ x ∧ x ≤ 29) (hk0 : 0 ≤ k ∧ k ≤ 4) (hty : Y 15 x 0 ≠ none) : KV l D tc base yX6_setDefault wsX6_setDefault ({ frames := 0, cells := 0, slots := 0, locals := 0 } : Room) [.ref (ad 15 x), .int (jI k)] (ad, cnt, X, Y, ln) 0 0 (fun u => ∃ (X1 : Nat → Int → Int → Int) (Y1 : Nat → Int → Int → Option Int), u = (ad, cnt, X1, Y1, ln) ∧ Rng X1 ∧ Frm [1600] X X1 ∧ Frm [1700] Y Y1 ∧ CInv cnt X1 Y1 ln ∧ (0 : Int) ≤ 0 ∧ X1 16 x k = X 22 (tyo (Y 15 x 0)) k ∧ (∀ y j, ¬ (y = x ∧ j = k) → X1 16 y j = X 16 y j) ∧ Y1 17 x k = none ∧ ∀ y j, ¬ (y = x ∧ j = k) → Y1 17 y j = Y 17 y j) := by
  refine K_of (cc := cX6_setDefault) (maxL := 2) (ret := none) (by decide) rfl (Nat.le_of_ble_eq_true rfl) ?_
  intro p e s m below meth c ls hx hb hr hml hown hts hlocks hl hK hw hS
  have hown : s.vm.findClass RX6 = some m.cls := hown
  obtain ⟨av9, hav9⟩ : ∃ a9 : Array Value, a9 = ([.ref (ad 15 x), .int (jI k)] : List Value).toArray := ⟨_, rfl⟩
  rw [← hav9] at hts ⊢
  obtain ⟨Q9, hQ9⟩ : ∃ q9Q : State → Prop, q9Q = MQ below (QV D tc base (fun u => ∃ (X1 : Nat → Int → Int → Int) (Y1 : Nat → Int → Int → Option Int), u = (ad, cnt, X1, Y1, ln) ∧ Rng X1 ∧ Frm [1600] X X1 ∧ Frm [1700] Y Y1 ∧ CInv cnt X1 Y1 ln ∧ (0 : Int) ≤ 0 ∧ X1 16 x k = X 22 (tyo (Y 15 x 0)) k ∧ (∀ y j, ¬ (y = x ∧ j = k) → X1 16 y j = X 16 y j) ∧ Y1 17 x k = none ∧ ∀ y j, ¬ (y = x ∧ j = k) → Y1 17 y j = Y 17 y j)) av9 s 0 0 (frA base) := ⟨_, rfl⟩
  rw [← hQ9]
  have hi6 : ∀ w ∈ wsX60, w ∈ wsX6_setDefault := fun w h => List.mem_cons_of_mem _ (List.mem_append_left _ (List.mem_append_right _ h))
  have hf6 : fctx s m _ RX6 wsX6_setDefault D tc RX6 TX6 4 6 := ⟨hts, hi6, hown, hK.1, rfl⟩
  have hi7 : ∀ w ∈ wsX70, w ∈ wsX6_setDefault := fun w h => List.mem_cons_of_mem _ (List.mem_append_right _ h)
  have hf7 : fctx s m _ RX6 wsX6_setDefault D tc RX7 TX7 8 7 := ⟨hts, hi7, hown, hK.1, rfl⟩
  have lk9 := hts (.fieldLink RX6 9 (TX6 1).1 (TX6 1).2.1 (TX6 1).2.2.1) (gj_X6_setDefault_0 _ (gp_h))
  have lk17 := hts (.fieldLink RX6 17 (TX6 2).1 (TX6 2).2.1 (TX6 2).2.2.1) (gj_X6_setDefault_0 _ (gp_1 (gp_1 (gp_1 gp_h))))
  have lk21 := hts (.fieldLink RX6 21 (TX6 0).1 (TX6 0).2.1 (TX6 0).2.2.1) (gj_X6_setDefault_0 _ (gp_1 gp_h))
  have lk35 := hts (.fieldLink RX6 35 (TX7 4).1 (TX7 4).2.1 (TX7 4).2.2.1) (gj_X6_setDefault_0 _ (gp_1 (gp_1 gp_h)))
  have hc15 : cnt 15 = 30 := hFx.at 15 30 (by decide)
  have hc16 : cnt 16 = 30 := hFx.at 16 30 (by decide)
  have hc17 : cnt 17 = 30 := hFx.at 17 30 (by decide)
  have hc22 : cnt 22 = cnt 19 := hFx.2.1 22 (by decide)
  have hl : lv_has ls 2 [(0, .ref (ad 15 x)), (1, .int (jI k))] := hl
  have ftc : 0 ≤ X 0 0 3 ∧ X 0 0 3 ≤ 30 := hR 0 0 3
  have fty : 0 ≤ X 0 0 1 ∧ X 0 0 1 ≤ 8 := hR 0 0 1
  have hct : cnt 19 = X 0 0 1 := hCI.2.2.2.1.1
  have hfj : 0 ≤ X 29 0 3 ∧ X 29 0 3 ≤ 4 := hR 29 0 3
  have hfn : 0 ≤ X 29 0 1 ∧ X 29 0 1 ≤ 80 := hR 29 0 1
  refine lv_aload_n hx hb dX6_setDefault_0 rfl (lv_at hl 0 rfl) ?_
  refine x_geto hx hb hf6 hw (by omega) (by omega) sl_15_1 lk9 dX6_setDefault_1 ?_
  refine lv_iload_n hx hb dX6_setDefault_4 rfl (lv_at hl 1 rfl) ?_
  refine lv_aload_n hx hb dX6_setDefault_5 rfl (lv_at hl 0 rfl) ?_
  refine x_getr (jz := 0) hx hb hf6 hw (by omega) (by omega) sl_15_0 rfl lk21 dX6_setDefault_6 (fun y1 => ?_) (fun r2 y1 gr2 lr2 => ?_)
  · exfalso
    exact absurd y1 hty
  · refine x_geto hx hb hf7 hw (by omega) (by omega) sl_19_4 lk35 dX6_setDefault_9 ?_
    refine lv_iload_n hx hb dX6_setDefault_12 rfl (lv_at hl 1 rfl) ?_
    refine x_lald hx hb hK.1 hw (by omega) (by omega) ar_22 (len_E ar_22 (by first | exact Nat.ne_of_beq_eq_false rfl | decide)) (by omega) (by omega) (by omega) dX6_setDefault_13 ?_
    have f3 : (-9223372036854775808) ≤ X 22 r2 k ∧ X 22 r2 k ≤ 9223372036854775807 := hR 22 r2 k
    refine x_last hx hb hK.1 hw hS (by omega) (by omega) ar_16 (len_E ar_16 (by first | exact Nat.ne_of_beq_eq_false rfl | decide)) (by omega) (by omega) (by omega) dX6_setDefault_14 (fun H locs hw hS => ?_)
    obtain ⟨X4, hX4⟩ : ∃ Xq, Xq = u3 X 16 x k (X 22 r2 k) := ⟨_, rfl⟩
    rw [← hX4] at hw
    have hRX4 : Rng X4 := by rw [hX4]; exact rng_set hR (show (-9223372036854775808) ≤ (X 22 r2 k) ∧ (X 22 r2 k) ≤ 9223372036854775807 by omega)
    have hVX4 : X4 16 x k = (X 22 r2 k) := by rw [hX4]; exact u3_s _ _ _ _ _
    have hFX4 : Frm [1600] X X4 := by rw [hX4]; exact Frm.set Frm.rf (show 1600 ∈ [1600] by first | exact nlm_in rfl | decide)
    refine lv_aload_n hx hb dX6_setDefault_15 rfl (lv_at hl 0 rfl) ?_
    refine x_geto hx hb hf6 hw (by omega) (by omega) sl_15_2 lk17 dX6_setDefault_16 ?_
    refine lv_iload_n hx hb dX6_setDefault_19 rfl (lv_at hl 1 rfl) ?_
    refine lv_null hx hb dX6_setDefault_20 ?_
    refine x_aastn hx hb hK.1 hw hS (by omega) (by omega) ar_17 rfl (len_E ar_17 (by first | exact Nat.ne_of_beq_eq_false rfl | decide)) (by omega) (by omega) (by omega) dX6_setDefault_21 (fun H locs hw hS => ?_)
    obtain ⟨Y5, hY5⟩ : ∃ Yq, Yq = u3 Y 17 x k none := ⟨_, rfl⟩
    rw [← hY5] at hw
    have hVY5 : Y5 17 x k = none := by rw [hY5]; exact u3_s _ _ _ _ _
    have hHY5 : Frm [1700] Y Y5 := by rw [hY5]; exact Frm.set Frm.rf (show 1700 ∈ [1700] by first | exact nlm_in rfl | decide)
    rw [hQ9]
    refine ret_v (mc := 0) (ms := 0) hx hb hr hlocks hw hS (by first | exact Nat.le_of_ble_eq_true rfl | omega) (by first | exact Nat.le_of_ble_eq_true rfl | omega) dX6_setDefault_22 ?_
    have q6 : Frm [1600] X X4 := by rw [hX4]; exact Frm.set Frm.rf (show 1600 ∈ [1600] by first | exact nlm_in rfl | decide)
    have q7 : Frm [1700] Y Y5 := by rw [hY5]; exact Frm.set Frm.rf (show 1700 ∈ [1700] by first | exact nlm_in rfl | decide)
    have hCq8 : CInv cnt X4 Y5 ln := cinv_frm (M := [1600]) (N := [1700]) hCI q6 q7 (by decide) (by decide)
    exact ⟨X4, Y5, rfl, hRX4, hFX4, hHY5, hCq8, by omega, (by rw [tyo_some y1]; exact hVX4), fun y j hy => (by rw [hX4, u3_ij hy]), hVY5, fun y j hy => (by rw [hY5, u3_ij hy])⟩

set_option maxHeartbeats 4000000 in
set_option maxRecDepth 100000 in
theorem c_X6_become (l : Launch) (D : va_G) (tc : Nat → ClassId) (base : Nat) (ad : Nat → Int → Nat) (cnt : Nat → Int) (X : Nat → Int → Int → Int) (Y : Nat → Int → Int → Option Int) (ln : Int → Int) (hR : Rng X) (hFx : Fx cnt) (hLn : LnOK ln) (hCI : CInv cnt X Y ln) (x q : Int) (hx0 : 0 ≤ x ∧ x ≤ 29) (hq : 0 ≤ q ∧ q < cnt 19) : KV l D tc base yX6_become wsX6_become ({ frames := 1, cells := 0, slots := 0, locals := 21 } : Room) [.ref (ad 15 x), .ref (ad 19 q)] (ad, cnt, X, Y, ln) 0 0 (fun u => ∃ (X1 : Nat → Int → Int → Int) (Y1 : Nat → Int → Int → Option Int), u = (ad, cnt, X1, Y1, ln) ∧ Rng X1 ∧ Frm [1600] X X1 ∧ Frm [1501, 1700] Y Y1 ∧ CInv cnt X1 Y1 ln ∧ (0 : Int) ≤ 0 ∧ Y1 15 x 0 = some q ∧ (∀ y, y ≠ x → Y1 15 y 0 = Y 15 y 0) ∧ (∀ j, 0 ≤ j → j < X 19 q 1 → X1 16 x j = X 22 q j ∧ Y1 17 x j = none) ∧ ∀ y j, y ≠ x → X1 16 y j = X 16 y j ∧ Y1 17 y j = Y 17 y j) := by
  refine K_of (cc := cX6_become) (maxL := 3) (ret := none) (by decide) rfl (Nat.le_of_ble_eq_true rfl) ?_
  intro p e s m below meth c ls hx hb hr hml hown hts hlocks hl hK hw hS
  have hown : s.vm.findClass RX6 = some m.cls := hown
  obtain ⟨av9, hav9⟩ : ∃ a9 : Array Value, a9 = ([.ref (ad 15 x), .ref (ad 19 q)] : List Value).toArray := ⟨_, rfl⟩
  rw [← hav9] at hts ⊢
  obtain ⟨Q9, hQ9⟩ : ∃ q9Q : State → Prop, q9Q = MQ below (QV D tc base (fun u => ∃ (X1 : Nat → Int → Int → Int) (Y1 : Nat → Int → Int → Option Int), u = (ad, cnt, X1, Y1, ln) ∧ Rng X1 ∧ Frm [1600] X X1 ∧ Frm [1501, 1700] Y Y1 ∧ CInv cnt X1 Y1 ln ∧ (0 : Int) ≤ 0 ∧ Y1 15 x 0 = some q ∧ (∀ y, y ≠ x → Y1 15 y 0 = Y 15 y 0) ∧ (∀ j, 0 ≤ j → j < X 19 q 1 → X1 16 x j = X 22 q j ∧ Y1 17 x j = none) ∧ ∀ y j, y ≠ x → X1 16 y j = X 16 y j ∧ Y1 17 y j = Y 17 y j)) av9 s 0 0 (frA base) := ⟨_, rfl⟩
  rw [← hQ9]
  have hi6 : ∀ w ∈ wsX60, w ∈ wsX6_become := fun w h => List.mem_cons_of_mem _ (List.mem_append_left _ (List.mem_append_right _ h))
  have hf6 : fctx s m _ RX6 wsX6_become D tc RX6 TX6 4 6 := ⟨hts, hi6, hown, hK.1, rfl⟩
  have hi7 : ∀ w ∈ wsX70, w ∈ wsX6_become := fun w h => List.mem_cons_of_mem _ (List.mem_append_right _ h)
  have hf7 : fctx s m _ RX6 wsX6_become D tc RX7 TX7 8 7 := ⟨hts, hi7, hown, hK.1, rfl⟩
  have lk21 := hts (.fieldLink RX6 21 (TX6 0).1 (TX6 0).2.1 (TX6 0).2.2.1) (gj_X6_become_0 _ (gp_h))
  have lk25 := hts (.fieldLink RX6 25 (TX7 1).1 (TX7 1).2.1 (TX7 1).2.2.1) (gj_X6_become_0 _ (gp_1 gp_h))
  have hc15 : cnt 15 = 30 := hFx.at 15 30 (by decide)
  have hl : lv_has ls 3 [(0, .ref (ad 15 x)), (1, .ref (ad 19 q))] := hl
  have ftc : 0 ≤ X 0 0 3 ∧ X 0 0 3 ≤ 30 := hR 0 0 3
  have fty : 0 ≤ X 0 0 1 ∧ X 0 0 1 ≤ 8 := hR 0 0 1
  have hct : cnt 19 = X 0 0 1 := hCI.2.2.2.1.1
  have hfj : 0 ≤ X 29 0 3 ∧ X 29 0 3 ≤ 4 := hR 29 0 3
  have hfn : 0 ≤ X 29 0 1 ∧ X 29 0 1 ≤ 80 := hR 29 0 1
  refine lv_aload_n hx hb dX6_become_0 rfl (lv_at hl 0 rfl) ?_
  refine lv_aload_n hx hb dX6_become_1 rfl (lv_at hl 1 rfl) ?_
  refine x_putr (jz := 0) hx hb hf6 ⟨tyX6_ok, nmX6⟩ hw hS (by omega) (by omega) sl_15_0 rfl lk21 rfl (by omega) (by omega) (tyX6_ok 0 (by decide)) dX6_become_2 (fun H locs hw hS => ?_)
  obtain ⟨Y1, hY1⟩ : ∃ Yq, Yq = u3 Y 15 x 0 (some q) := ⟨_, rfl⟩
  rw [← hY1] at hw
  have hVY1 : Y1 15 x 0 = (some q) := by rw [hY1]; exact u3_s _ _ _ _ _
  have hHY1 : Frm [1501, 1700] Y Y1 := by rw [hY1]; exact Frm.set Frm.rf (show 1501 ∈ [1501, 1700] by first | exact nlm_in rfl | decide)
  have hty : Y1 15 x 0 ≠ none := by rw [hVY1]; exact fun q => by cases q
  refine lv_iconst (v := jI 0) hx hb dX6_become_5 rfl ?_
  refine lv_istore_n (lv' := [(2, .int (jI 0)), (0, .ref (ad 15 x)), (1, .ref (ad 19 q))]) hx hb dX6_become_6 rfl hl (by decide) rfl (fun ls hl => ?_)
  have lp7 : ∀ (nn : Nat) (k : Int) (Xa : Nat → Int → Int → Int) (Ya : Nat → Int → Int → Option Int) (H : Heap) (locs : List Loc) (ls : Array Slot), (5 - k) < (nn : Int) → (Rng Xa) → (Frm [1600] X Xa) → (Frm [1700] Y1 Ya) → (0 ≤ k ∧ k ≤ 5) → (CInv cnt Xa Ya ln) → (∀ j, 0 ≤ j → j < k → Xa 16 x j = X 22 q j ∧ Ya 17 x j = none) → (∀ y j, y ≠ x → Xa 16 y j = X 16 y j ∧ Ya 17 y j = Y 17 y j) → wd D tc base (ad, cnt, Xa, Ya, ln) H → va_S (frA base) s.heap H locs → lv_has ls 3 [(0, .ref (ad 15 x)), (1, .ref (ad 19 q)), (2, .int (jI k))] → W p l e ({ frames := 1, cells := 0, slots := 0, locals := 21 } : Room) s m av9 below meth c H locs 0 0 Q9 (F0 m 7 ls []) := by
    intro nn
    induction nn with
    | zero => intro k Xa Ya H locs ls hm hRXa hGXa hGYa hk hCIXa hbn hbo hw hS hl; exfalso; omega
    | succ nn ih7 =>
      intro k Xa Ya H locs ls hm hRXa hGXa hGYa hk hCIXa hbn hbo hw hS hl
      have hHYa : Frm [1501, 1700] Y Ya := Frm.tr hHY1 (Frm.mono hGYa (by first | exact nls_of rfl | decide))
      have hFXa : Frm [1600] X Xa := Frm.tr Frm.rf (Frm.mono hGXa (by first | exact nls_of rfl | decide))
      refine lv_iload_n hx hb dX6_become_7 rfl (lv_at hl 2 rfl) ?_
      refine lv_aload_n hx hb dX6_become_8 rfl (lv_at hl 1 rfl) ?_
      refine x_geti (jz := 1) hx hb hf7 hw (by omega) (by omega) sl_19_1 rfl lk25 dX6_become_9 ?_
      have e2 : Xa 19 q 1 = X 19 q 1 := by rw [hGXa 19 q 1 (show 1902 ∉ [1600] by first | exact nlm_ni rfl | decide)]
      rw [e2]
      have f3 : 0 ≤ X 19 q 1 ∧ X 19 q 1 ≤ 5 := hR 19 q 1
      refine x_icmp_ge (tgt := 26) hx hb (by omega) (by omega) dX6_become_12 (by decide) (fun c4 => ?_) (fun c4 => ?_)
      · rw [hQ9]
        refine ret_v (mc := 0) (ms := 0) hx hb hr hlocks hw hS (by first | exact Nat.le_of_ble_eq_true rfl | omega) (by first | exact Nat.le_of_ble_eq_true rfl | omega) dX6_become_26 ?_
        exact ⟨Xa, Ya, rfl, hRXa, hFXa, hHYa, hCIXa, by omega, (by rw [hGYa 15 x 0 (show 1501 ∉ [1700] by first | exact nlm_ni rfl | decide)]; exact hVY1), fun y hy => (by rw [hGYa 15 y 0 (show 1501 ∉ [1700] by first | exact nlm_ni rfl | decide), hY1, u3_ij (by omega)]), fun j a b => hbn j a (by omega), fun y j hy => hbo y j hy⟩
      · refine lv_aload_n hx hb dX6_become_15 rfl (lv_at hl 0 rfl) ?_
        refine lv_iload_n hx hb dX6_become_16 rfl (lv_at hl 2 rfl) ?_
        refine gos_v (run_V (As := [.int (jI k)]) (rest := []) hx hb hml hown hts (c_X6_setDefault l D tc base ad cnt Xa Ya ln hRXa hFx hLn hCIXa x k (by omega) (by omega) (by rw [hGYa 15 x 0 (show 1501 ∉ [1700] by first | exact nlm_ni rfl | decide)]; exact hty)) (cwV 1 hts gX6_become_X6_setDefault rfl rfl rfl (by first | exact hd_X6_setDefault | decide +kernel) ⟨Nat.le_of_ble_eq_true rfl, Nat.le_of_ble_eq_true rfl⟩) hK hw (by first | exact Int.le_refl 0 | omega) (by first | exact zlt hc15 | omega) sl_15_0 rfl rfl hl.1 rfl (Nat.le_of_ble_eq_true rfl) dX6_become_17 ⟨Nat.le_of_ble_eq_true rfl, Nat.le_of_ble_eq_true rfl⟩) hS (fun u6 H locs p7 hw hS => ?_)
        obtain ⟨X8, Y9, eu6, hRX8, hG10, hJ11, hCIX8, p7, hs1X8, hs2X8, hs3X8, hs4X8⟩ := p7
        subst eu6
        have hFX8 : Frm [1600] X X8 := Frm.tr hFXa (Frm.mono hG10 (by first | exact nls_of rfl | decide))
        have hHY9 : Frm [1501, 1700] Y Y9 := Frm.tr hHYa (Frm.mono hJ11 (by first | exact nls_of rfl | decide))
        refine lv_iinc (v := jI (k + 1)) (lv' := [(2, .int (jI (k + 1))), (0, .ref (ad 15 x)), (1, .ref (ad 19 q))]) hx hb dX6_become_20 hl (k := 2) rfl (jI_add _ _) (by decide) rfl (fun ls hl => ?_)
        refine lv_goto (tgt := 7) hx hb dX6_become_23 (by decide) ?_
        have q12 : Frm [1600] X Xa := Frm.tr Frm.rf (Frm.mono hGXa (by first | exact nls_of rfl | decide))
        have q13 : Frm [1600] X X8 := Frm.tr q12 (Frm.mono hG10 (by first | exact nls_of rfl | decide))
        have q14 : Frm [1700] Y1 Ya := Frm.tr Frm.rf (Frm.mono hGYa (by first | exact nls_of rfl | decide))
        have q15 : Frm [1700] Y1 Y9 := Frm.tr q14 (Frm.mono hJ11 (by first | exact nls_of rfl | decide))
        have hty916 : tyo (Ya 15 x 0) = q := tyo_some (by rw [hGYa 15 x 0 (show 1501 ∉ [1700] by first | exact nlm_ni rfl | decide)]; exact hVY1)
        exact ih7 (k + 1) X8 Y9 _ _ _ (by omega) hRX8 q13 q15 (by omega) (hCIX8) (fun j a b => if hj : j = k then (by rw [hj]; exact ⟨(by rw [hs1X8, hty916, (show Xa 22 q k = X 22 q k from (by rw [hGXa 22 q k (show 2200 ∉ [1600] by first | exact nlm_ni rfl | decide)]))]), hs3X8⟩) else (by rw [hs2X8 x j (fun q9 => hj q9.2), hs4X8 x j (fun q9 => hj q9.2)]; exact hbn j a (by omega))) (fun y j hy => (by rw [hs2X8 y j (fun q9 => hy q9.1), hs4X8 y j (fun q9 => hy q9.1)]; exact hbo y j hy)) hw hS (lv_sub hl [1, 2, 0] rfl)
  exact lp7 (5 - 0 : Int).toNat.succ 0 X Y1 _ _ _ (by omega) hR Frm.rf Frm.rf (by omega) ((by rw [hY1]; exact cinv_y15 hCI)) (fun j a b => by omega) (fun y j hy => ⟨(by rfl), (by rw [hY1, u3_k _ _ _ _ (by first | exact Nat.ne_of_beq_eq_false rfl | decide)])⟩) hw hS (lv_sub hl [1, 2, 0] rfl)

set_option maxHeartbeats 4000000 in
set_option maxRecDepth 100000 in
theorem c_X6_removeField (l : Launch) (D : va_G) (tc : Nat → ClassId) (base : Nat) (ad : Nat → Int → Nat) (cnt : Nat → Int) (X : Nat → Int → Int → Int) (Y : Nat → Int → Int → Option Int) (ln : Int → Int) (hR : Rng X) (hFx : Fx cnt) (hLn : LnOK ln) (hCI : CInv cnt X Y ln) (x k : Int) (hx0 : 0 ≤ x ∧ x ≤ 29) (hk0 : 0 ≤ k ∧ k ≤ 4) : KV l D tc base yX6_removeField wsX6_removeField ({ frames := 0, cells := 0, slots := 0, locals := 0 } : Room) [.ref (ad 15 x), .int (jI k)] (ad, cnt, X, Y, ln) 0 0 (fun u => ∃ (X1 : Nat → Int → Int → Int) (Y1 : Nat → Int → Int → Option Int), u = (ad, cnt, X1, Y1, ln) ∧ Rng X1 ∧ Frm [1600] X X1 ∧ Frm [1700] Y Y1 ∧ CInv cnt X1 Y1 ln ∧ (0 : Int) ≤ 0 ∧ Sh 16 X X1 x k 4 ∧ ShY 17 Y Y1 x k 4) := by
  refine K_of (cc := cX6_removeField) (maxL := 3) (ret := none) (by decide) rfl (Nat.le_of_ble_eq_true rfl) ?_
  intro p e s m below meth c ls hx hb hr hml hown hts hlocks hl hK hw hS
  have hown : s.vm.findClass RX6 = some m.cls := hown
  obtain ⟨av9, hav9⟩ : ∃ a9 : Array Value, a9 = ([.ref (ad 15 x), .int (jI k)] : List Value).toArray := ⟨_, rfl⟩
  rw [← hav9] at hts ⊢
  obtain ⟨Q9, hQ9⟩ : ∃ q9Q : State → Prop, q9Q = MQ below (QV D tc base (fun u => ∃ (X1 : Nat → Int → Int → Int) (Y1 : Nat → Int → Int → Option Int), u = (ad, cnt, X1, Y1, ln) ∧ Rng X1 ∧ Frm [1600] X X1 ∧ Frm [1700] Y Y1 ∧ CInv cnt X1 Y1 ln ∧ (0 : Int) ≤ 0 ∧ Sh 16 X X1 x k 4 ∧ ShY 17 Y Y1 x k 4)) av9 s 0 0 (frA base) := ⟨_, rfl⟩
  rw [← hQ9]
  have hi6 : ∀ w ∈ wsX60, w ∈ wsX6_removeField := fun w h => List.mem_cons_of_mem _ (List.mem_append_right _ h)
  have hf6 : fctx s m _ RX6 wsX6_removeField D tc RX6 TX6 4 6 := ⟨hts, hi6, hown, hK.1, rfl⟩
  have lk9 := hts (.fieldLink RX6 9 (TX6 1).1 (TX6 1).2.1 (TX6 1).2.2.1) (gj_X6_removeField_0 _ (gp_h))
  have lk17 := hts (.fieldLink RX6 17 (TX6 2).1 (TX6 2).2.1 (TX6 2).2.2.1) (gj_X6_removeField_0 _ (gp_1 gp_h))
  have hc15 : cnt 15 = 30 := hFx.at 15 30 (by decide)
  have hc16 : cnt 16 = 30 := hFx.at 16 30 (by decide)
  have hc17 : cnt 17 = 30 := hFx.at 17 30 (by decide)
  have hl : lv_has ls 3 [(0, .ref (ad 15 x)), (1, .int (jI k))] := hl
  have ftc : 0 ≤ X 0 0 3 ∧ X 0 0 3 ≤ 30 := hR 0 0 3
  have fty : 0 ≤ X 0 0 1 ∧ X 0 0 1 ≤ 8 := hR 0 0 1
  have hct : cnt 19 = X 0 0 1 := hCI.2.2.2.1.1
  have hfj : 0 ≤ X 29 0 3 ∧ X 29 0 3 ≤ 4 := hR 29 0 3
  have hfn : 0 ≤ X 29 0 1 ∧ X 29 0 1 ≤ 80 := hR 29 0 1
  refine lv_iload_n hx hb dX6_removeField_0 rfl (lv_at hl 1 rfl) ?_
  refine lv_istore_n (lv' := [(2, .int (jI k)), (0, .ref (ad 15 x)), (1, .int (jI k))]) hx hb dX6_removeField_1 rfl hl (by decide) rfl (fun ls hl => ?_)
  have lp2 : ∀ (nn : Nat) (iz : Int) (Xa : Nat → Int → Int → Int) (Ya : Nat → Int → Int → Option Int) (H : Heap) (locs : List Loc) (ls : Array Slot), (4 - iz) < (nn : Int) → (Rng Xa) → (Frm [1600] X Xa) → (Frm [1700] Y Ya) → (0 ≤ iz ∧ iz ≤ 4 ∧ k ≤ iz) → (CInv cnt Xa Ya ln) → (Sh 16 X Xa x k iz) → (ShY 17 Y Ya x k iz) → wd D tc base (ad, cnt, Xa, Ya, ln) H → va_S (frA base) s.heap H locs → lv_has ls 3 [(0, .ref (ad 15 x)), (1, .int (jI k)), (2, .int (jI iz))] → W p l e ({ frames := 0, cells := 0, slots := 0, locals := 0 } : Room) s m av9 below meth c H locs 0 0 Q9 (F0 m 2 ls []) := by
    intro nn
    induction nn with
    | zero => intro iz Xa Ya H locs ls hm hRXa hGXa hGYa hiz hCIXa hsx hsy hw hS hl; exfalso; omega
    | succ nn ih2 =>
      intro iz Xa Ya H locs ls hm hRXa hGXa hGYa hiz hCIXa hsx hsy hw hS hl
      have hHYa : Frm [1700] Y Ya := Frm.tr Frm.rf (Frm.mono hGYa (by first | exact nls_of rfl | decide))
      have hFXa : Frm [1600] X Xa := Frm.tr Frm.rf (Frm.mono hGXa (by first | exact nls_of rfl | decide))
      refine lv_iload_n hx hb dX6_removeField_2 rfl (lv_at hl 2 rfl) ?_
      refine lv_iconst (v := jI 1) hx hb dX6_removeField_3 rfl ?_
      refine x_iadd hx hb dX6_removeField_4 ?_
      refine lv_iconst (v := jI 5) hx hb dX6_removeField_5 rfl ?_
      refine x_icmp_ge (tgt := 43) hx hb (by omega) (by omega) dX6_removeField_6 (by decide) (fun c1 => ?_) (fun c1 => ?_)
      · rw [hQ9]
        refine ret_v (mc := 0) (ms := 0) hx hb hr hlocks hw hS (by first | exact Nat.le_of_ble_eq_true rfl | omega) (by first | exact Nat.le_of_ble_eq_true rfl | omega) dX6_removeField_43 ?_
        exact ⟨Xa, Ya, rfl, hRXa, hFXa, hHYa, hCIXa, by omega, (by rw [show (4 : Int) = iz by omega]; exact hsx), (by rw [show (4 : Int) = iz by omega]; exact hsy)⟩
      · refine lv_aload_n hx hb dX6_removeField_9 rfl (lv_at hl 0 rfl) ?_
        refine x_geto hx hb hf6 hw (by omega) (by omega) sl_15_1 lk9 dX6_removeField_10 ?_
        refine lv_iload_n hx hb dX6_removeField_13 rfl (lv_at hl 2 rfl) ?_
        refine lv_aload_n hx hb dX6_removeField_14 rfl (lv_at hl 0 rfl) ?_
        refine x_geto hx hb hf6 hw (by omega) (by omega) sl_15_1 lk9 dX6_removeField_15 ?_
        refine lv_iload_n hx hb dX6_removeField_18 rfl (lv_at hl 2 rfl) ?_
        refine lv_iconst (v := jI 1) hx hb dX6_removeField_19 rfl ?_
        refine x_iadd hx hb dX6_removeField_20 ?_
        refine x_lald hx hb hK.1 hw (by omega) (by omega) ar_16 (len_E ar_16 (by first | exact Nat.ne_of_beq_eq_false rfl | decide)) (by omega) (by omega) (by omega) dX6_removeField_21 ?_
        have f2 : (-9223372036854775808) ≤ Xa 16 x (iz + 1) ∧ Xa 16 x (iz + 1) ≤ 9223372036854775807 := hRXa 16 x (iz + 1)
        refine x_last hx hb hK.1 hw hS (by omega) (by omega) ar_16 (len_E ar_16 (by first | exact Nat.ne_of_beq_eq_false rfl | decide)) (by omega) (by omega) (by omega) dX6_removeField_22 (fun H locs hw hS => ?_)
        obtain ⟨X3, hX3⟩ : ∃ Xq, Xq = u3 Xa 16 x iz (Xa 16 x (iz + 1)) := ⟨_, rfl⟩
        rw [← hX3] at hw
        have hRX3 : Rng X3 := by rw [hX3]; exact rng_set hRXa (show (-9223372036854775808) ≤ (Xa 16 x (iz + 1)) ∧ (Xa 16 x (iz + 1)) ≤ 9223372036854775807 by omega)
        have hVX3 : X3 16 x iz = (Xa 16 x (iz + 1)) := by rw [hX3]; exact u3_s _ _ _ _ _
        have hFX3 : Frm [1600] X X3 := by rw [hX3]; exact Frm.set hFXa (show 1600 ∈ [1600] by first | exact nlm_in rfl | decide)
        refine lv_aload_n hx hb dX6_removeField_23 rfl (lv_at hl 0 rfl) ?_
        refine x_geto hx hb hf6 hw (by omega) (by omega) sl_15_2 lk17 dX6_removeField_24 ?_
        refine lv_iload_n hx hb dX6_removeField_27 rfl (lv_at hl 2 rfl) ?_
        refine lv_aload_n hx hb dX6_removeField_28 rfl (lv_at hl 0 rfl) ?_
        refine x_geto hx hb hf6 hw (by omega) (by omega) sl_15_2 lk17 dX6_removeField_29 ?_
        refine lv_iload_n hx hb dX6_removeField_32 rfl (lv_at hl 2 rfl) ?_
        refine lv_iconst (v := jI 1) hx hb dX6_removeField_33 rfl ?_
        refine x_iadd hx hb dX6_removeField_34 ?_
        refine x_aald hx hb hK.1 hw (by omega) (by omega) ar_17 rfl (len_E ar_17 (by first | exact Nat.ne_of_beq_eq_false rfl | decide)) (by omega) (by omega) (by omega) dX6_removeField_35 (fun y4 => ?_) (fun r5 y4 gr5 lr5 => ?_)
        · refine x_aastn hx hb hK.1 hw hS (by omega) (by omega) ar_17 rfl (len_E ar_17 (by first | exact Nat.ne_of_beq_eq_false rfl | decide)) (by omega) (by omega) (by omega) dX6_removeField_36 (fun H locs hw hS => ?_)
          obtain ⟨Y6, hY6⟩ : ∃ Yq, Yq = u3 Ya 17 x iz none := ⟨_, rfl⟩
          rw [← hY6] at hw
          have hVY6 : Y6 17 x iz = none := by rw [hY6]; exact u3_s _ _ _ _ _
          have hHY6 : Frm [1700] Y Y6 := by rw [hY6]; exact Frm.set hHYa (show 1700 ∈ [1700] by first | exact nlm_in rfl | decide)
          refine lv_iinc (v := jI (iz + 1)) (lv' := [(2, .int (jI (iz + 1))), (0, .ref (ad 15 x)), (1, .int (jI k))]) hx hb dX6_removeField_37 hl (k := 2) rfl (jI_add _ _) (by decide) rfl (fun ls hl => ?_)
          refine lv_goto (tgt := 2) hx hb dX6_removeField_40 (by decide) ?_
          have q7 : Frm [1600] X Xa := Frm.tr Frm.rf (Frm.mono hGXa (by first | exact nls_of rfl | decide))
          have q8 : Frm [1600] X X3 := by rw [hX3]; exact Frm.set q7 (show 1600 ∈ [1600] by first | exact nlm_in rfl | decide)
          have q9 : Frm [1700] Y Ya := Frm.tr Frm.rf (Frm.mono hGYa (by first | exact nls_of rfl | decide))
          have q10 : Frm [1700] Y Y6 := by rw [hY6]; exact Frm.set q9 (show 1700 ∈ [1700] by first | exact nlm_in rfl | decide)
          have q11 : Frm [1600] Xa X3 := by rw [hX3]; exact Frm.set Frm.rf (show 1600 ∈ [1600] by first | exact nlm_in rfl | decide)
          have q12 : Frm [1700] Ya Y6 := by rw [hY6]; exact Frm.set Frm.rf (show 1700 ∈ [1700] by first | exact nlm_in rfl | decide)
          have hCq13 : CInv cnt X3 Y6 ln := cinv_frm (M := [1600]) (N := [1700]) hCIXa q11 q12 (by decide) (by decide)
          exact ih2 (iz + 1) X3 Y6 _ _ _ (by omega) hRX3 q8 q10 (by omega) (hCq13) ((by rw [show iz + 1 = iz + 1 from rfl]; exact Sh.step (Xc := Xa) hsx (by omega) rfl (by rw [hX3]) rfl)) (ShY.step hsy (by omega) (by rw [hY6]) y4.symm) hw hS (lv_sub hl [1, 2, 0] rfl)
        · refine x_aast hx hb hK.1 hw hS (by omega) (by omega) ar_17 rfl rfl sl_26_0 (len_E ar_17 (by first | exact Nat.ne_of_beq_eq_false rfl | decide)) (by omega) (by omega) (by omega) (by omega) (by omega) dX6_removeField_36 (fun H locs hw hS => ?_)
          obtain ⟨Y14, hY14⟩ : ∃ Yq, Yq = u3 Ya 17 x iz (some r5) := ⟨_, rfl⟩
          rw [← hY14] at hw
          have hVY14 : Y14 17 x iz = (some r5) := by rw [hY14]; exact u3_s _ _ _ _ _
          have hHY14 : Frm [1700] Y Y14 := by rw [hY14]; exact Frm.set hHYa (show 1700 ∈ [1700] by first | exact nlm_in rfl | decide)
          refine lv_iinc (v := jI (iz + 1)) (lv' := [(2, .int (jI (iz + 1))), (0, .ref (ad 15 x)), (1, .int (jI k))]) hx hb dX6_removeField_37 hl (k := 2) rfl (jI_add _ _) (by decide) rfl (fun ls hl => ?_)
          refine lv_goto (tgt := 2) hx hb dX6_removeField_40 (by decide) ?_
          have q15 : Frm [1600] X Xa := Frm.tr Frm.rf (Frm.mono hGXa (by first | exact nls_of rfl | decide))
          have q16 : Frm [1600] X X3 := by rw [hX3]; exact Frm.set q15 (show 1600 ∈ [1600] by first | exact nlm_in rfl | decide)
          have q17 : Frm [1700] Y Ya := Frm.tr Frm.rf (Frm.mono hGYa (by first | exact nls_of rfl | decide))
          have q18 : Frm [1700] Y Y14 := by rw [hY14]; exact Frm.set q17 (show 1700 ∈ [1700] by first | exact nlm_in rfl | decide)
          have q19 : Frm [1600] Xa X3 := by rw [hX3]; exact Frm.set Frm.rf (show 1600 ∈ [1600] by first | exact nlm_in rfl | decide)
          have q20 : Frm [1700] Ya Y14 := by rw [hY14]; exact Frm.set Frm.rf (show 1700 ∈ [1700] by first | exact nlm_in rfl | decide)
          have hCq21 : CInv cnt X3 Y14 ln := cinv_frm (M := [1600]) (N := [1700]) hCIXa q19 q20 (by decide) (by decide)
          exact ih2 (iz + 1) X3 Y14 _ _ _ (by omega) hRX3 q16 q18 (by omega) (hCq21) ((by rw [show iz + 1 = iz + 1 from rfl]; exact Sh.step (Xc := Xa) hsx (by omega) rfl (by rw [hX3]) rfl)) (ShY.step hsy (by omega) (by rw [hY14]) y4.symm) hw hS (lv_sub hl [1, 2, 0] rfl)
  exact lp2 (4 - k : Int).toNat.succ k X Y _ _ _ (by omega) hR Frm.rf Frm.rf (by omega) (hCI) (Sh.in_ rfl) (ShY.in_ rfl) hw hS (lv_sub hl [1, 2, 0] rfl)

set_option maxHeartbeats 4000000 in
set_option maxRecDepth 100000 in
theorem c_X6_forgetNumbers (l : Launch) (D : va_G) (tc : Nat → ClassId) (base : Nat) (ad : Nat → Int → Nat) (cnt : Nat → Int) (X : Nat → Int → Int → Int) (Y : Nat → Int → Int → Option Int) (ln : Int → Int) (hR : Rng X) (hFx : Fx cnt) (hLn : LnOK ln) (hCI : CInv cnt X Y ln) (x : Int) (hx0 : 0 ≤ x ∧ x ≤ 29) (hxt : x < X 0 0 3) : KV l D tc base yX6_forgetNumbers wsX6_forgetNumbers ({ frames := 0, cells := 0, slots := 0, locals := 0 } : Room) [.ref (ad 15 x)] (ad, cnt, X, Y, ln) 0 0 (fun u => ∃ (X1 : Nat → Int → Int → Int), u = (ad, cnt, X1, Y, ln) ∧ Rng X1 ∧ Frm [1504, 2602] X X1 ∧ CInv cnt X1 Y ln ∧ (0 : Int) ≤ 0 ∧ X1 15 x 3 = -1 ∧ (∀ y, y ≠ x → X1 15 y 3 = X 15 y 3) ∧ (∀ j, 0 ≤ j → j < X 19 (tyo (Y 15 x 0)) 1 → ∀ w9, Y 17 x j = some w9 → X1 26 w9 1 = -1) ∧ ∀ w9, X 26 w9 1 = -1 → X1 26 w9 1 = -1) := by
  refine K_of (cc := cX6_forgetNumbers) (maxL := 2) (ret := none) (by decide) rfl (Nat.le_of_ble_eq_true rfl) ?_
  intro p e s m below meth c ls hx hb hr hml hown hts hlocks hl hK hw hS
  have hown : s.vm.findClass RX6 = some m.cls := hown
  obtain ⟨av9, hav9⟩ : ∃ a9 : Array Value, a9 = ([.ref (ad 15 x)] : List Value).toArray := ⟨_, rfl⟩
  rw [← hav9] at hts ⊢
  obtain ⟨Q9, hQ9⟩ : ∃ q9Q : State → Prop, q9Q = MQ below (QV D tc base (fun u => ∃ (X1 : Nat → Int → Int → Int), u = (ad, cnt, X1, Y, ln) ∧ Rng X1 ∧ Frm [1504, 2602] X X1 ∧ CInv cnt X1 Y ln ∧ (0 : Int) ≤ 0 ∧ X1 15 x 3 = -1 ∧ (∀ y, y ≠ x → X1 15 y 3 = X 15 y 3) ∧ (∀ j, 0 ≤ j → j < X 19 (tyo (Y 15 x 0)) 1 → ∀ w9, Y 17 x j = some w9 → X1 26 w9 1 = -1) ∧ ∀ w9, X 26 w9 1 = -1 → X1 26 w9 1 = -1)) av9 s 0 0 (frA base) := ⟨_, rfl⟩
  rw [← hQ9]
  have hi5 : ∀ w ∈ wsX50, w ∈ wsX6_forgetNumbers := fun w h => List.mem_cons_of_mem _ (List.mem_append_right _ h)
  have hf5 : fctx s m _ RX6 wsX6_forgetNumbers D tc RX5 TX5 2 5 := ⟨hts, hi5, hown, hK.1, rfl⟩
  have hi6 : ∀ w ∈ wsX60, w ∈ wsX6_forgetNumbers := fun w h => List.mem_cons_of_mem _ (List.mem_append_left _ (List.mem_append_left _ (List.mem_append_right _ h)))
  have hf6 : fctx s m _ RX6 wsX6_forgetNumbers D tc RX6 TX6 4 6 := ⟨hts, hi6, hown, hK.1, rfl⟩
  have hi7 : ∀ w ∈ wsX70, w ∈ wsX6_forgetNumbers := fun w h => List.mem_cons_of_mem _ (List.mem_append_left _ (List.mem_append_right _ h))
  have hf7 : fctx s m _ RX6 wsX6_forgetNumbers D tc RX7 TX7 8 7 := ⟨hts, hi7, hown, hK.1, rfl⟩
  have lk17 := hts (.fieldLink RX6 17 (TX6 2).1 (TX6 2).2.1 (TX6 2).2.2.1) (gj_X6_forgetNumbers_0 _ (gp_1 (gp_1 (gp_1 gp_h))))
  have lk21 := hts (.fieldLink RX6 21 (TX6 0).1 (TX6 0).2.1 (TX6 0).2.2.1) (gj_X6_forgetNumbers_0 _ (gp_1 gp_h))
  have lk25 := hts (.fieldLink RX6 25 (TX7 1).1 (TX7 1).2.1 (TX7 1).2.2.1) (gj_X6_forgetNumbers_0 _ (gp_1 (gp_1 gp_h)))
  have lk38 := hts (.fieldLink RX6 38 (TX6 3).1 (TX6 3).2.1 (TX6 3).2.2.1) (gj_X6_forgetNumbers_0 _ (gp_h))
  have lk41 := hts (.fieldLink RX6 41 (TX5 1).1 (TX5 1).2.1 (TX5 1).2.2.1) (gj_X6_forgetNumbers_0 _ (gp_4 gp_h))
  have hc15 : cnt 15 = 30 := hFx.at 15 30 (by decide)
  have hc17 : cnt 17 = 30 := hFx.at 17 30 (by decide)
  have hl : lv_has ls 2 [(0, .ref (ad 15 x))] := hl
  have ftc : 0 ≤ X 0 0 3 ∧ X 0 0 3 ≤ 30 := hR 0 0 3
  have fty : 0 ≤ X 0 0 1 ∧ X 0 0 1 ≤ 8 := hR 0 0 1
  have hct : cnt 19 = X 0 0 1 := hCI.2.2.2.1.1
  have hfj : 0 ≤ X 29 0 3 ∧ X 29 0 3 ≤ 4 := hR 29 0 3
  have hfn : 0 ≤ X 29 0 1 ∧ X 29 0 1 ≤ 80 := hR 29 0 1
  refine lv_aload_n hx hb dX6_forgetNumbers_0 rfl (lv_at hl 0 rfl) ?_
  refine lv_iconst (v := jI (-1)) hx hb dX6_forgetNumbers_1 rfl ?_
  refine x_puti (jz := 3) hx hb hf6 ⟨tyX6_ok, nmX6⟩ hw hS (by omega) (by omega) sl_15_3 rfl lk38 rfl (tyX6_ok 3 (by decide)) rfl rfl dX6_forgetNumbers_2 (fun H locs hw hS => ?_)
  obtain ⟨X1, hX1⟩ : ∃ Xq, Xq = u3 X 15 x 3 (-1) := ⟨_, rfl⟩
  rw [← hX1] at hw
  have hRX1 : Rng X1 := by rw [hX1]; exact rng_set hR (show (-1) ≤ (-1) ∧ (-1) ≤ 29 by omega)
  have hVX1 : X1 15 x 3 = (-1) := by rw [hX1]; exact u3_s _ _ _ _ _
  have hFX1 : Frm [1504, 2602] X X1 := by rw [hX1]; exact Frm.set Frm.rf (show 1504 ∈ [1504, 2602] by first | exact nlm_in rfl | decide)
  refine lv_iconst (v := jI 0) hx hb dX6_forgetNumbers_5 rfl ?_
  refine lv_istore_n (lv' := [(1, .int (jI 0)), (0, .ref (ad 15 x))]) hx hb dX6_forgetNumbers_6 rfl hl (by decide) rfl (fun ls hl => ?_)
  have lp7 : ∀ (nn : Nat) (k : Int) (Xa : Nat → Int → Int → Int) (H : Heap) (locs : List Loc) (ls : Array Slot), (5 - k) < (nn : Int) → (Rng Xa) → (Frm [2602] X1 Xa) → (0 ≤ k ∧ k ≤ 5) → (∀ j, 0 ≤ j → j < k → ∀ w9, Y 17 x j = some w9 → Xa 26 w9 1 = -1) → (∀ w9, X 26 w9 1 = -1 → Xa 26 w9 1 = -1) → wd D tc base (ad, cnt, Xa, Y, ln) H → va_S (frA base) s.heap H locs → lv_has ls 2 [(0, .ref (ad 15 x)), (1, .int (jI k))] → W p l e ({ frames := 0, cells := 0, slots := 0, locals := 0 } : Room) s m av9 below meth c H locs 0 0 Q9 (F0 m 7 ls []) := by
    intro nn
    induction nn with
    | zero => intro k Xa H locs ls hm hRXa hGXa hk hrk hmn hw hS hl; exfalso; omega
    | succ nn ih7 =>
      intro k Xa H locs ls hm hRXa hGXa hk hrk hmn hw hS hl
      have hFXa : Frm [1504, 2602] X Xa := Frm.tr hFX1 (Frm.mono hGXa (by first | exact nls_of rfl | decide))
      refine lv_iload_n hx hb dX6_forgetNumbers_7 rfl (lv_at hl 1 rfl) ?_
      refine lv_aload_n hx hb dX6_forgetNumbers_8 rfl (lv_at hl 0 rfl) ?_
      refine x_getr (jz := 0) hx hb hf6 hw (by omega) (by omega) sl_15_0 rfl lk21 dX6_forgetNumbers_9 (fun y2 => ?_) (fun r3 y2 gr3 lr3 => ?_)
      · exfalso
        exact absurd y2 (hCI.2.2.2.2.1 x (by omega) (by omega))
      · refine x_geti (jz := 1) hx hb hf7 hw (by omega) (by omega) sl_19_1 rfl lk25 dX6_forgetNumbers_12 ?_
        have e4 : Xa 19 r3 1 = X 19 r3 1 := by rw [hGXa 19 r3 1 (show 1902 ∉ [2602] by first | exact nlm_ni rfl | decide), hX1, u3_k _ _ _ _ (by first | exact Nat.ne_of_beq_eq_false rfl | decide)]
        rw [e4]
        have f5 : 0 ≤ X 19 r3 1 ∧ X 19 r3 1 ≤ 5 := hR 19 r3 1
        refine x_icmp_ge (tgt := 43) hx hb (by omega) (by omega) dX6_forgetNumbers_15 (by decide) (fun c6 => ?_) (fun c6 => ?_)
        · rw [hQ9]
          refine ret_v (mc := 0) (ms := 0) hx hb hr hlocks hw hS (by first | exact Nat.le_of_ble_eq_true rfl | omega) (by first | exact Nat.le_of_ble_eq_true rfl | omega) dX6_forgetNumbers_43 ?_
          have q7 : Frm [1504, 2602] X X1 := by rw [hX1]; exact Frm.set Frm.rf (show 1504 ∈ [1504, 2602] by first | exact nlm_in rfl | decide)
          have q8 : Frm [1504, 2602] X Xa := Frm.tr q7 (Frm.mono hGXa (by first | exact nls_of rfl | decide))
          have hCq9 : CInv cnt Xa Y ln := cinv_frm (M := [1504, 2602]) (N := []) hCI q8 Frm.rf (by decide) (by decide)
          exact ⟨Xa, rfl, hRXa, hFXa, hCq9, by omega, (by rw [hGXa 15 x 3 (show 1504 ∉ [2602] by first | exact nlm_ni rfl | decide)]; exact hVX1), fun y hy => (by rw [hGXa 15 y 3 (show 1504 ∉ [2602] by first | exact nlm_ni rfl | decide), hX1, u3_ij (by omega)]), (by rw [tyo_some y2]; exact fun j a b w9 hw9 => hrk j a (by omega) w9 hw9), hmn⟩
        · refine lv_aload_n hx hb dX6_forgetNumbers_18 rfl (lv_at hl 0 rfl) ?_
          refine x_geto hx hb hf6 hw (by omega) (by omega) sl_15_2 lk17 dX6_forgetNumbers_19 ?_
          refine lv_iload_n hx hb dX6_forgetNumbers_22 rfl (lv_at hl 1 rfl) ?_
          refine x_aald hx hb hK.1 hw (by omega) (by omega) ar_17 rfl (len_E ar_17 (by first | exact Nat.ne_of_beq_eq_false rfl | decide)) (by omega) (by omega) (by omega) dX6_forgetNumbers_23 (fun y10 => ?_) (fun r11 y10 gr11 lr11 => ?_)
          · refine lv_ifnullN (tgt := 37) hx hb dX6_forgetNumbers_24 (by decide) ?_
            refine lv_iinc (v := jI (k + 1)) (lv' := [(1, .int (jI (k + 1))), (0, .ref (ad 15 x))]) hx hb dX6_forgetNumbers_37 hl (k := 1) rfl (jI_add _ _) (by decide) rfl (fun ls hl => ?_)
            refine lv_goto (tgt := 7) hx hb dX6_forgetNumbers_40 (by decide) ?_
            have q12 : Frm [2602] X1 Xa := Frm.tr Frm.rf (Frm.mono hGXa (by first | exact nls_of rfl | decide))
            exact ih7 (k + 1) Xa _ _ _ (by omega) hRXa q12 (by omega) (fun j a b w9 hw9 => if hj : j = k then (by rw [hj, y10] at hw9; cases hw9) else hrk j a (by omega) w9 hw9) (hmn) hw hS (lv_sub hl [1, 0] rfl)
          · refine lv_ifnull hx hb dX6_forgetNumbers_24 ?_
            refine lv_aload_n hx hb dX6_forgetNumbers_27 rfl (lv_at hl 0 rfl) ?_
            refine x_geto hx hb hf6 hw (by omega) (by omega) sl_15_2 lk17 dX6_forgetNumbers_28 ?_
            refine lv_iload_n hx hb dX6_forgetNumbers_31 rfl (lv_at hl 1 rfl) ?_
            refine x_aald hx hb hK.1 hw (by omega) (by omega) ar_17 rfl (len_E ar_17 (by first | exact Nat.ne_of_beq_eq_false rfl | decide)) (by omega) (by omega) (by omega) dX6_forgetNumbers_32 (fun y13 => ?_) (fun r14 y13 gr14 lr14 => ?_)
            · exfalso
              rw [y10] at y13; cases y13
            · have er14 : r14 = r11 := by rw [y10] at y13; cases y13; rfl
              rw [er14]
              refine lv_iconst (v := jI (-1)) hx hb dX6_forgetNumbers_33 rfl ?_
              refine x_puti (jz := 1) hx hb hf5 ⟨tyX5_ok, nmX5⟩ hw hS (by omega) (by omega) sl_26_1 rfl lk41 rfl (tyX5_ok 1 (by decide)) rfl rfl dX6_forgetNumbers_34 (fun H locs hw hS => ?_)
              obtain ⟨X15, hX15⟩ : ∃ Xq, Xq = u3 Xa 26 r11 1 (-1) := ⟨_, rfl⟩
              rw [← hX15] at hw
              have hRX15 : Rng X15 := by rw [hX15]; exact rng_set hRXa (show (-1) ≤ (-1) ∧ (-1) ≤ 149 by omega)
              have hVX15 : X15 26 r11 1 = (-1) := by rw [hX15]; exact u3_s _ _ _ _ _
              have hFX15 : Frm [1504, 2602] X X15 := by rw [hX15]; exact Frm.set hFXa (show 2602 ∈ [1504, 2602] by first | exact nlm_in rfl | decide)
              refine lv_iinc (v := jI (k + 1)) (lv' := [(1, .int (jI (k + 1))), (0, .ref (ad 15 x))]) hx hb dX6_forgetNumbers_37 hl (k := 1) rfl (jI_add _ _) (by decide) rfl (fun ls hl => ?_)
              refine lv_goto (tgt := 7) hx hb dX6_forgetNumbers_40 (by decide) ?_
              have q16 : Frm [2602] X1 Xa := Frm.tr Frm.rf (Frm.mono hGXa (by first | exact nls_of rfl | decide))
              have q17 : Frm [2602] X1 X15 := by rw [hX15]; exact Frm.set q16 (show 2602 ∈ [2602] by first | exact nlm_in rfl | decide)
              exact ih7 (k + 1) X15 _ _ _ (by omega) hRX15 q17 (by omega) (fun j a b w9 hw9 => (by by_cases e9 : w9 = r11; rw [hX15, e9, u3_s]; rw [hX15, u3_ij (fun q9 => e9 q9.1)]; refine hrk j a ?_ w9 hw9; have hj9 : j ≠ k := (fun q9 => by rw [q9, y10] at hw9; exact e9 (Option.some.inj hw9).symm); omega)) (fun w9 hw9 => (by by_cases e9 : w9 = r11; rw [hX15, e9, u3_s]; rw [hX15, u3_ij (fun q9 => e9 q9.1)]; exact hmn w9 hw9)) hw hS (lv_sub hl [1, 0] rfl)
  exact lp7 (5 - 0 : Int).toNat.succ 0 X1 _ _ _ (by omega) hRX1 Frm.rf (by omega) (fun j a b => by omega) (fun w9 hw9 => (by rw [hX1, u3_k _ _ _ _ (by first | exact Nat.ne_of_beq_eq_false rfl | decide)]; exact hw9)) hw hS (lv_sub hl [1, 0] rfl)

set_option maxHeartbeats 4000000 in
set_option maxRecDepth 100000 in
theorem c_X7_addField (l : Launch) (D : va_G) (tc : Nat → ClassId) (base : Nat) (ad : Nat → Int → Nat) (cnt : Nat → Int) (X : Nat → Int → Int → Int) (Y : Nat → Int → Int → Option Int) (ln : Int → Int) (hR : Rng X) (hFx : Fx cnt) (hLn : LnOK ln) (hCI : CInv cnt X Y ln) (q name lane v : Int) (hq : 0 ≤ q ∧ q < cnt 19) (hname : 0 ≤ name ∧ name ≤ 19) (hlane : 0 ≤ lane ∧ lane ≤ 5) (hv : -9223372036854775808 ≤ v ∧ v ≤ 9223372036854775807) (hfc : X 19 q 1 ≤ 4) : KI l D tc base yX7_addField wsX7_addField ({ frames := 0, cells := 0, slots := 0, locals := 0 } : Room) [.ref (ad 19 q), .int (jI name), .int (jI lane), .long (jL v)] (ad, cnt, X, Y, ln) 0 0 (fun z u => ∃ (X1 : Nat → Int → Int → Int), u = (ad, cnt, X1, Y, ln) ∧ Rng X1 ∧ Frm [1902, 2000, 2100, 2200, 2300] X X1 ∧ CInv cnt X1 Y ln ∧ (0 ≤ z ∧ z ≤ 4) ∧ z = X 19 q 1 ∧ X1 19 q 1 = X 19 q 1 + 1 ∧ (∀ y, y ≠ q → X1 19 y 1 = X 19 y 1) ∧ (X1 20 q (X 19 q 1) = name ∧ X1 21 q (X 19 q 1) = lane ∧ X1 22 q (X 19 q 1) = v ∧ X1 23 q (X 19 q 1) = 0) ∧ ∀ y j, ¬ (y = q ∧ j = X 19 q 1) → X1 20 y j = X 20 y j ∧ X1 21 y j = X 21 y j ∧ X1 22 y j = X 22 y j ∧ X1 23 y j = X 23 y j) := by
  refine K_of (cc := cX7_addField) (maxL := 6) (ret := (some .int)) (by decide) rfl (Nat.le_of_ble_eq_true rfl) ?_
  intro p e s m below meth c ls hx hb hr hml hown hts hlocks hl hK hw hS
  have hown : s.vm.findClass RX7 = some m.cls := hown
  obtain ⟨av9, hav9⟩ : ∃ a9 : Array Value, a9 = ([.ref (ad 19 q), .int (jI name), .int (jI lane), .long (jL v)] : List Value).toArray := ⟨_, rfl⟩
  rw [← hav9] at hts ⊢
  obtain ⟨Q9, hQ9⟩ : ∃ q9Q : State → Prop, q9Q = MQ below (QI D tc base (fun z u => ∃ (X1 : Nat → Int → Int → Int), u = (ad, cnt, X1, Y, ln) ∧ Rng X1 ∧ Frm [1902, 2000, 2100, 2200, 2300] X X1 ∧ CInv cnt X1 Y ln ∧ (0 ≤ z ∧ z ≤ 4) ∧ z = X 19 q 1 ∧ X1 19 q 1 = X 19 q 1 + 1 ∧ (∀ y, y ≠ q → X1 19 y 1 = X 19 y 1) ∧ (X1 20 q (X 19 q 1) = name ∧ X1 21 q (X 19 q 1) = lane ∧ X1 22 q (X 19 q 1) = v ∧ X1 23 q (X 19 q 1) = 0) ∧ ∀ y j, ¬ (y = q ∧ j = X 19 q 1) → X1 20 y j = X 20 y j ∧ X1 21 y j = X 21 y j ∧ X1 22 y j = X 22 y j ∧ X1 23 y j = X 23 y j)) av9 s 0 0 (frA base) := ⟨_, rfl⟩
  rw [← hQ9]
  have hi7 : ∀ w ∈ wsX70, w ∈ wsX7_addField := fun w h => List.mem_cons_of_mem _ (List.mem_append_right _ h)
  have hf7 : fctx s m _ RX7 wsX7_addField D tc RX7 TX7 8 7 := ⟨hts, hi7, hown, hK.1, rfl⟩
  have lk9 := hts (.fieldLink RX7 9 (TX7 2).1 (TX7 2).2.1 (TX7 2).2.2.1) (gj_X7_addField_0 _ (gp_1 gp_h))
  have lk15 := hts (.fieldLink RX7 15 (TX7 3).1 (TX7 3).2.1 (TX7 3).2.2.1) (gj_X7_addField_0 _ (gp_1 (gp_1 gp_h)))
  have lk18 := hts (.fieldLink RX7 18 (TX7 4).1 (TX7 4).2.1 (TX7 4).2.2.1) (gj_X7_addField_0 _ (gp_1 (gp_1 (gp_1 gp_h))))
  have lk22 := hts (.fieldLink RX7 22 (TX7 5).1 (TX7 5).2.1 (TX7 5).2.2.1) (gj_X7_addField_0 _ (gp_4 gp_h))
  have lk36 := hts (.fieldLink RX7 36 (TX7 1).1 (TX7 1).2.1 (TX7 1).2.2.1) (gj_X7_addField_0 _ (gp_h))
  have hc20 : cnt 20 = cnt 19 := hFx.2.1 20 (by decide)
  have hc21 : cnt 21 = cnt 19 := hFx.2.1 21 (by decide)
  have hc22 : cnt 22 = cnt 19 := hFx.2.1 22 (by decide)
  have hc23 : cnt 23 = cnt 19 := hFx.2.1 23 (by decide)
  have hl : lv_has ls 6 [(0, .ref (ad 19 q)), (1, .int (jI name)), (2, .int (jI lane)), (3, .long (jL v))] := hl
  have ftc : 0 ≤ X 0 0 3 ∧ X 0 0 3 ≤ 30 := hR 0 0 3
  have fty : 0 ≤ X 0 0 1 ∧ X 0 0 1 ≤ 8 := hR 0 0 1
  have hct : cnt 19 = X 0 0 1 := hCI.2.2.2.1.1
  have hfj : 0 ≤ X 29 0 3 ∧ X 29 0 3 ≤ 4 := hR 29 0 3
  have hfn : 0 ≤ X 29 0 1 ∧ X 29 0 1 ≤ 80 := hR 29 0 1
  refine lv_aload_n hx hb dX7_addField_0 rfl (lv_at hl 0 rfl) ?_
  refine x_geti (jz := 1) hx hb hf7 hw (by omega) (by omega) sl_19_1 rfl lk36 dX7_addField_1 ?_
  have f1 : 0 ≤ X 19 q 1 ∧ X 19 q 1 ≤ 5 := hR 19 q 1
  refine lv_istore (lv' := [(5, .int (jI (X 19 q 1))), (0, .ref (ad 19 q)), (1, .int (jI name)), (2, .int (jI lane)), (3, .long (jL v))]) hx hb dX7_addField_4 hl (by decide) rfl (fun ls hl => ?_)
  refine lv_aload_n hx hb dX7_addField_6 rfl (lv_at hl 1 rfl) ?_
  refine x_geto hx hb hf7 hw (by omega) (by omega) sl_19_2 lk9 dX7_addField_7 ?_
  refine lv_iload hx hb dX7_addField_10 (lv_at hl 0 rfl) ?_
  refine lv_iload_n hx hb dX7_addField_12 rfl (lv_at hl 2 rfl) ?_
  refine x_iast hx hb hK.1 hw hS (by omega) (by omega) ar_20 (len_E ar_20 (by first | exact Nat.ne_of_beq_eq_false rfl | decide)) (by omega) (by omega) (by omega) dX7_addField_13 (fun H locs hw hS => ?_)
  obtain ⟨X2, hX2⟩ : ∃ Xq, Xq = u3 X 20 q (X 19 q 1) name := ⟨_, rfl⟩
  rw [← hX2] at hw
  have hRX2 : Rng X2 := by rw [hX2]; exact rng_set hR (show 0 ≤ name ∧ name ≤ 19 by omega)
  have hVX2 : X2 20 q (X 19 q 1) = name := by rw [hX2]; exact u3_s _ _ _ _ _
  have hFX2 : Frm [1902, 2000, 2100, 2200, 2300] X X2 := by rw [hX2]; exact Frm.set Frm.rf (show 2000 ∈ [1902, 2000, 2100, 2200, 2300] by first | exact nlm_in rfl | decide)
  refine lv_aload_n hx hb dX7_addField_14 rfl (lv_at hl 1 rfl) ?_
  refine x_geto hx hb hf7 hw (by omega) (by omega) sl_19_3 lk15 dX7_addField_15 ?_
  refine lv_iload hx hb dX7_addField_18 (lv_at hl 0 rfl) ?_
  refine lv_iload_n hx hb dX7_addField_20 rfl (lv_at hl 3 rfl) ?_
  refine x_iast hx hb hK.1 hw hS (by omega) (by omega) ar_21 (len_E ar_21 (by first | exact Nat.ne_of_beq_eq_false rfl | decide)) (by omega) (by omega) (by omega) dX7_addField_21 (fun H locs hw hS => ?_)
  obtain ⟨X3, hX3⟩ : ∃ Xq, Xq = u3 X2 21 q (X 19 q 1) lane := ⟨_, rfl⟩
  rw [← hX3] at hw
  have hRX3 : Rng X3 := by rw [hX3]; exact rng_set hRX2 (show 0 ≤ lane ∧ lane ≤ 5 by omega)
  have hVX3 : X3 21 q (X 19 q 1) = lane := by rw [hX3]; exact u3_s _ _ _ _ _
  have hFX3 : Frm [1902, 2000, 2100, 2200, 2300] X X3 := by rw [hX3]; exact Frm.set hFX2 (show 2100 ∈ [1902, 2000, 2100, 2200, 2300] by first | exact nlm_in rfl | decide)
  refine lv_aload_n hx hb dX7_addField_22 rfl (lv_at hl 1 rfl) ?_
  refine x_geto hx hb hf7 hw (by omega) (by omega) sl_19_4 lk18 dX7_addField_23 ?_
  refine lv_iload hx hb dX7_addField_26 (lv_at hl 0 rfl) ?_
  refine lv_lload_n hx hb dX7_addField_28 rfl (lv_at hl 4 rfl) ?_
  refine x_last hx hb hK.1 hw hS (by omega) (by omega) ar_22 (len_E ar_22 (by first | exact Nat.ne_of_beq_eq_false rfl | decide)) (by omega) (by omega) (by omega) dX7_addField_29 (fun H locs hw hS => ?_)
  obtain ⟨X4, hX4⟩ : ∃ Xq, Xq = u3 X3 22 q (X 19 q 1) v := ⟨_, rfl⟩
  rw [← hX4] at hw
  have hRX4 : Rng X4 := by rw [hX4]; exact rng_set hRX3 (show (-9223372036854775808) ≤ v ∧ v ≤ 9223372036854775807 by omega)
  have hVX4 : X4 22 q (X 19 q 1) = v := by rw [hX4]; exact u3_s _ _ _ _ _
  have hFX4 : Frm [1902, 2000, 2100, 2200, 2300] X X4 := by rw [hX4]; exact Frm.set hFX3 (show 2200 ∈ [1902, 2000, 2100, 2200, 2300] by first | exact nlm_in rfl | decide)
  refine lv_aload_n hx hb dX7_addField_30 rfl (lv_at hl 1 rfl) ?_
  refine x_geto hx hb hf7 hw (by omega) (by omega) sl_19_5 lk22 dX7_addField_31 ?_
  refine lv_iload hx hb dX7_addField_34 (lv_at hl 0 rfl) ?_
  refine lv_iconst (v := jI 0) hx hb dX7_addField_36 rfl ?_
  refine x_zast hx hb hK.1 hw hS (by omega) (by omega) ar_23 (len_E ar_23 (by first | exact Nat.ne_of_beq_eq_false rfl | decide)) (by omega) (by omega) (by omega) (by omega) (by omega) dX7_addField_37 (fun H locs hw hS => ?_)
  obtain ⟨X5, hX5⟩ : ∃ Xq, Xq = u3 X4 23 q (X 19 q 1) 0 := ⟨_, rfl⟩
  rw [← hX5] at hw
  have hRX5 : Rng X5 := by rw [hX5]; exact rng_set hRX4 (show 0 ≤ 0 ∧ 0 ≤ 1 by omega)
  have hVX5 : X5 23 q (X 19 q 1) = 0 := by rw [hX5]; exact u3_s _ _ _ _ _
  have hFX5 : Frm [1902, 2000, 2100, 2200, 2300] X X5 := by rw [hX5]; exact Frm.set hFX4 (show 2300 ∈ [1902, 2000, 2100, 2200, 2300] by first | exact nlm_in rfl | decide)
  refine lv_aload_n hx hb dX7_addField_38 rfl (lv_at hl 1 rfl) ?_
  refine lv_dup hx hb dX7_addField_39 rfl ?_
  refine x_geti (jz := 1) hx hb hf7 hw (by omega) (by omega) sl_19_1 rfl lk36 dX7_addField_40 ?_
  have e6 : X5 19 q 1 = X 19 q 1 := by rw [hX5, u3_k _ _ _ _ (by first | exact Nat.ne_of_beq_eq_false rfl | decide), hX4, u3_k _ _ _ _ (by first | exact Nat.ne_of_beq_eq_false rfl | decide), hX3, u3_k _ _ _ _ (by first | exact Nat.ne_of_beq_eq_false rfl | decide), hX2, u3_k _ _ _ _ (by first | exact Nat.ne_of_beq_eq_false rfl | decide)]
  rw [e6]
  have f7 : 0 ≤ X 19 q 1 ∧ X 19 q 1 ≤ 5 := hR 19 q 1
  refine lv_iconst (v := jI 1) hx hb dX7_addField_43 rfl ?_
  refine x_iadd hx hb dX7_addField_44 ?_
  refine x_puti (jz := 1) hx hb hf7 ⟨tyX7_ok, nmX7⟩ hw hS (by omega) (by omega) sl_19_1 rfl lk36 rfl (tyX7_ok 1 (by decide)) rfl rfl dX7_addField_45 (fun H locs hw hS => ?_)
  obtain ⟨X8, hX8⟩ : ∃ Xq, Xq = u3 X5 19 q 1 ((X 19 q 1) + 1) := ⟨_, rfl⟩
  rw [← hX8] at hw
  have hRX8 : Rng X8 := by rw [hX8]; exact rng_set hRX5 (show 0 ≤ ((X 19 q 1) + 1) ∧ ((X 19 q 1) + 1) ≤ 5 by omega)
  have hVX8 : X8 19 q 1 = ((X 19 q 1) + 1) := by rw [hX8]; exact u3_s _ _ _ _ _
  have hFX8 : Frm [1902, 2000, 2100, 2200, 2300] X X8 := by rw [hX8]; exact Frm.set hFX5 (show 1902 ∈ [1902, 2000, 2100, 2200, 2300] by first | exact nlm_in rfl | decide)
  refine lv_iload hx hb dX7_addField_48 (lv_at hl 0 rfl) ?_
  rw [hQ9]
  refine ret_i (mc := 0) (ms := 0) hx hb hr hlocks hw hS (by first | exact Nat.le_of_ble_eq_true rfl | omega) (by first | exact Nat.le_of_ble_eq_true rfl | omega) dX7_addField_50 ?_
  have q9 : Frm [1902, 2000, 2100, 2200, 2300] X X2 := by rw [hX2]; exact Frm.set Frm.rf (show 2000 ∈ [1902, 2000, 2100, 2200, 2300] by first | exact nlm_in rfl | decide)
  have q10 : Frm [1902, 2000, 2100, 2200, 2300] X X3 := by rw [hX3]; exact Frm.set q9 (show 2100 ∈ [1902, 2000, 2100, 2200, 2300] by first | exact nlm_in rfl | decide)
  have q11 : Frm [1902, 2000, 2100, 2200, 2300] X X4 := by rw [hX4]; exact Frm.set q10 (show 2200 ∈ [1902, 2000, 2100, 2200, 2300] by first | exact nlm_in rfl | decide)
  have q12 : Frm [1902, 2000, 2100, 2200, 2300] X X5 := by rw [hX5]; exact Frm.set q11 (show 2300 ∈ [1902, 2000, 2100, 2200, 2300] by first | exact nlm_in rfl | decide)
  have q13 : Frm [1902, 2000, 2100, 2200, 2300] X X8 := by rw [hX8]; exact Frm.set q12 (show 1902 ∈ [1902, 2000, 2100, 2200, 2300] by first | exact nlm_in rfl | decide)
  have hCq14 : CInv cnt X8 Y ln := cinv_frm (M := [1902, 2000, 2100, 2200, 2300]) (N := []) hCI q13 Frm.rf (by decide) (by decide)
  exact ⟨X8, rfl, hRX8, hFX8, hCq14, by omega, by omega, by omega, fun y hy => (by rw [hX8, u3_ij (by omega), hX5, u3_k _ _ _ _ (by first | exact Nat.ne_of_beq_eq_false rfl | decide), hX4, u3_k _ _ _ _ (by first | exact Nat.ne_of_beq_eq_false rfl | decide), hX3, u3_k _ _ _ _ (by first | exact Nat.ne_of_beq_eq_false rfl | decide), hX2, u3_k _ _ _ _ (by first | exact Nat.ne_of_beq_eq_false rfl | decide)]), ⟨(by rw [hX8, u3_k _ _ _ _ (by first | exact Nat.ne_of_beq_eq_false rfl | decide), hX5, u3_k _ _ _ _ (by first | exact Nat.ne_of_beq_eq_false rfl | decide), hX4, u3_k _ _ _ _ (by first | exact Nat.ne_of_beq_eq_false rfl | decide), hX3, u3_k _ _ _ _ (by first | exact Nat.ne_of_beq_eq_false rfl | decide)]; exact hVX2), (by rw [hX8, u3_k _ _ _ _ (by first | exact Nat.ne_of_beq_eq_false rfl | decide), hX5, u3_k _ _ _ _ (by first | exact Nat.ne_of_beq_eq_false rfl | decide), hX4, u3_k _ _ _ _ (by first | exact Nat.ne_of_beq_eq_false rfl | decide)]; exact hVX3), (by rw [hX8, u3_k _ _ _ _ (by first | exact Nat.ne_of_beq_eq_false rfl | decide), hX5, u3_k _ _ _ _ (by first | exact Nat.ne_of_beq_eq_false rfl | decide)]; exact hVX4), (by rw [hX8, u3_k _ _ _ _ (by first | exact Nat.ne_of_beq_eq_false rfl | decide)]; exact hVX5)⟩, fun y j h => ⟨(by rw [hX8, u3_k _ _ _ _ (by first | exact Nat.ne_of_beq_eq_false rfl | decide), hX5, u3_k _ _ _ _ (by first | exact Nat.ne_of_beq_eq_false rfl | decide), hX4, u3_k _ _ _ _ (by first | exact Nat.ne_of_beq_eq_false rfl | decide), hX3, u3_k _ _ _ _ (by first | exact Nat.ne_of_beq_eq_false rfl | decide), hX2, u3_ij h]), (by rw [hX8, u3_k _ _ _ _ (by first | exact Nat.ne_of_beq_eq_false rfl | decide), hX5, u3_k _ _ _ _ (by first | exact Nat.ne_of_beq_eq_false rfl | decide), hX4, u3_k _ _ _ _ (by first | exact Nat.ne_of_beq_eq_false rfl | decide), hX3, u3_ij h, hX2, u3_k _ _ _ _ (by first | exact Nat.ne_of_beq_eq_false rfl | decide)]), (by rw [hX8, u3_k _ _ _ _ (by first | exact Nat.ne_of_beq_eq_false rfl | decide), hX5, u3_k _ _ _ _ (by first | exact Nat.ne_of_beq_eq_false rfl | decide), hX4, u3_ij h, hX3, u3_k _ _ _ _ (by first | exact Nat.ne_of_beq_eq_false rfl | decide), hX2, u3_k _ _ _ _ (by first | exact Nat.ne_of_beq_eq_false rfl | decide)]), (by rw [hX8, u3_k _ _ _ _ (by first | exact Nat.ne_of_beq_eq_false rfl | decide), hX5, u3_ij h, hX4, u3_k _ _ _ _ (by first | exact Nat.ne_of_beq_eq_false rfl | decide), hX3, u3_k _ _ _ _ (by first | exact Nat.ne_of_beq_eq_false rfl | decide), hX2, u3_k _ _ _ _ (by first | exact Nat.ne_of_beq_eq_false rfl | decide)])⟩⟩

set_option maxHeartbeats 4000000 in
set_option maxRecDepth 100000 in
theorem c_X7_removeField (l : Launch) (D : va_G) (tc : Nat → ClassId) (base : Nat) (ad : Nat → Int → Nat) (cnt : Nat → Int) (X : Nat → Int → Int → Int) (Y : Nat → Int → Int → Option Int) (ln : Int → Int) (hR : Rng X) (hFx : Fx cnt) (hLn : LnOK ln) (hCI : CInv cnt X Y ln) (q k : Int) (hq : 0 ≤ q ∧ q < cnt 19) (hk0 : 0 ≤ k ∧ k < X 19 q 1) : KV l D tc base yX7_removeField wsX7_removeField ({ frames := 0, cells := 0, slots := 0, locals := 0 } : Room) [.ref (ad 19 q), .int (jI k)] (ad, cnt, X, Y, ln) 0 0 (fun u => ∃ (X1 : Nat → Int → Int → Int), u = (ad, cnt, X1, Y, ln) ∧ Rng X1 ∧ Frm [1902, 2000, 2100, 2200, 2300] X X1 ∧ CInv cnt X1 Y ln ∧ (0 : Int) ≤ 0 ∧ X1 19 q 1 = X 19 q 1 - 1 ∧ (∀ y, y ≠ q → X1 19 y 1 = X 19 y 1) ∧ Sh 20 X X1 q k (X 19 q 1 - 1) ∧ Sh 21 X X1 q k (X 19 q 1 - 1) ∧ Sh 22 X X1 q k (X 19 q 1 - 1) ∧ Sh 23 X X1 q k (X 19 q 1 - 1)) := by
  refine K_of (cc := cX7_removeField) (maxL := 3) (ret := none) (by decide) rfl (Nat.le_of_ble_eq_true rfl) ?_
  intro p e s m below meth c ls hx hb hr hml hown hts hlocks hl hK hw hS
  have hown : s.vm.findClass RX7 = some m.cls := hown
  obtain ⟨av9, hav9⟩ : ∃ a9 : Array Value, a9 = ([.ref (ad 19 q), .int (jI k)] : List Value).toArray := ⟨_, rfl⟩
  rw [← hav9] at hts ⊢
  obtain ⟨Q9, hQ9⟩ : ∃ q9Q : State → Prop, q9Q = MQ below (QV D tc base (fun u => ∃ (X1 : Nat → Int → Int → Int), u = (ad, cnt, X1, Y, ln) ∧ Rng X1 ∧ Frm [1902, 2000, 2100, 2200, 2300] X X1 ∧ CInv cnt X1 Y ln ∧ (0 : Int) ≤ 0 ∧ X1 19 q 1 = X 19 q 1 - 1 ∧ (∀ y, y ≠ q → X1 19 y 1 = X 19 y 1) ∧ Sh 20 X X1 q k (X 19 q 1 - 1) ∧ Sh 21 X X1 q k (X 19 q 1 - 1) ∧ Sh 22 X X1 q k (X 19 q 1 - 1) ∧ Sh 23 X X1 q k (X 19 q 1 - 1))) av9 s 0 0 (frA base) := ⟨_, rfl⟩
  rw [← hQ9]
  have hi7 : ∀ w ∈ wsX70, w ∈ wsX7_removeField := fun w h => List.mem_cons_of_mem _ (List.mem_append_right _ h)
  have hf7 : fctx s m _ RX7 wsX7_removeField D tc RX7 TX7 8 7 := ⟨hts, hi7, hown, hK.1, rfl⟩
  have lk9 := hts (.fieldLink RX7 9 (TX7 2).1 (TX7 2).2.1 (TX7 2).2.2.1) (gj_X7_removeField_0 _ (gp_1 gp_h))
  have lk15 := hts (.fieldLink RX7 15 (TX7 3).1 (TX7 3).2.1 (TX7 3).2.2.1) (gj_X7_removeField_0 _ (gp_1 (gp_1 gp_h)))
  have lk18 := hts (.fieldLink RX7 18 (TX7 4).1 (TX7 4).2.1 (TX7 4).2.2.1) (gj_X7_removeField_0 _ (gp_1 (gp_1 (gp_1 gp_h))))
  have lk22 := hts (.fieldLink RX7 22 (TX7 5).1 (TX7 5).2.1 (TX7 5).2.2.1) (gj_X7_removeField_0 _ (gp_4 gp_h))
  have lk36 := hts (.fieldLink RX7 36 (TX7 1).1 (TX7 1).2.1 (TX7 1).2.2.1) (gj_X7_removeField_0 _ (gp_h))
  have hc20 : cnt 20 = cnt 19 := hFx.2.1 20 (by decide)
  have hc21 : cnt 21 = cnt 19 := hFx.2.1 21 (by decide)
  have hc22 : cnt 22 = cnt 19 := hFx.2.1 22 (by decide)
  have hc23 : cnt 23 = cnt 19 := hFx.2.1 23 (by decide)
  have hl : lv_has ls 3 [(0, .ref (ad 19 q)), (1, .int (jI k))] := hl
  have ftc : 0 ≤ X 0 0 3 ∧ X 0 0 3 ≤ 30 := hR 0 0 3
  have fty : 0 ≤ X 0 0 1 ∧ X 0 0 1 ≤ 8 := hR 0 0 1
  have hct : cnt 19 = X 0 0 1 := hCI.2.2.2.1.1
  have hfj : 0 ≤ X 29 0 3 ∧ X 29 0 3 ≤ 4 := hR 29 0 3
  have hfn : 0 ≤ X 29 0 1 ∧ X 29 0 1 ≤ 80 := hR 29 0 1
  have ffc : 0 ≤ X 19 q 1 ∧ X 19 q 1 ≤ 5 := hR 19 q 1
  refine lv_iload_n hx hb dX7_removeField_0 rfl (lv_at hl 1 rfl) ?_
  refine lv_istore_n (lv' := [(2, .int (jI k)), (0, .ref (ad 19 q)), (1, .int (jI k))]) hx hb dX7_removeField_1 rfl hl (by decide) rfl (fun ls hl => ?_)
  have lp2 : ∀ (nn : Nat) (iz : Int) (Xa : Nat → Int → Int → Int) (H : Heap) (locs : List Loc) (ls : Array Slot), (5 - iz) < (nn : Int) → (Rng Xa) → (Frm [2000, 2100, 2200, 2300] X Xa) → (0 ≤ iz ∧ iz ≤ 5 ∧ k ≤ iz ∧ iz ≤ X 19 q 1 - 1) → (Sh 20 X Xa q k iz) → (Sh 21 X Xa q k iz) → (Sh 22 X Xa q k iz) → (Sh 23 X Xa q k iz) → wd D tc base (ad, cnt, Xa, Y, ln) H → va_S (frA base) s.heap H locs → lv_has ls 3 [(0, .ref (ad 19 q)), (1, .int (jI k)), (2, .int (jI iz))] → W p l e ({ frames := 0, cells := 0, slots := 0, locals := 0 } : Room) s m av9 below meth c H locs 0 0 Q9 (F0 m 2 ls []) := by
    intro nn
    induction nn with
    | zero => intro iz Xa H locs ls hm hRXa hGXa hiz hs20 hs21 hs22 hs23 hw hS hl; exfalso; omega
    | succ nn ih2 =>
      intro iz Xa H locs ls hm hRXa hGXa hiz hs20 hs21 hs22 hs23 hw hS hl
      have hFXa : Frm [1902, 2000, 2100, 2200, 2300] X Xa := Frm.tr Frm.rf (Frm.mono hGXa (by first | exact nls_of rfl | decide))
      refine lv_iload_n hx hb dX7_removeField_2 rfl (lv_at hl 2 rfl) ?_
      refine lv_iconst (v := jI 1) hx hb dX7_removeField_3 rfl ?_
      refine x_iadd hx hb dX7_removeField_4 ?_
      refine lv_aload_n hx hb dX7_removeField_5 rfl (lv_at hl 0 rfl) ?_
      refine x_geti (jz := 1) hx hb hf7 hw (by omega) (by omega) sl_19_1 rfl lk36 dX7_removeField_6 ?_
      have e1 : Xa 19 q 1 = X 19 q 1 := by rw [hGXa 19 q 1 (show 1902 ∉ [2000, 2100, 2200, 2300] by first | exact nlm_ni rfl | decide)]
      rw [e1]
      have f2 : 0 ≤ X 19 q 1 ∧ X 19 q 1 ≤ 5 := hR 19 q 1
      refine x_icmp_ge (tgt := 74) hx hb (by omega) (by omega) dX7_removeField_9 (by decide) (fun c3 => ?_) (fun c3 => ?_)
      · refine lv_aload_n hx hb dX7_removeField_74 rfl (lv_at hl 0 rfl) ?_
        refine lv_dup hx hb dX7_removeField_75 rfl ?_
        refine x_geti (jz := 1) hx hb hf7 hw (by omega) (by omega) sl_19_1 rfl lk36 dX7_removeField_76 ?_
        have e4 : Xa 19 q 1 = X 19 q 1 := by rw [hGXa 19 q 1 (show 1902 ∉ [2000, 2100, 2200, 2300] by first | exact nlm_ni rfl | decide)]
        rw [e4]
        have f5 : 0 ≤ X 19 q 1 ∧ X 19 q 1 ≤ 5 := hR 19 q 1
        refine lv_iconst (v := jI 1) hx hb dX7_removeField_79 rfl ?_
        refine x_isub hx hb dX7_removeField_80 ?_
        refine x_puti (jz := 1) hx hb hf7 ⟨tyX7_ok, nmX7⟩ hw hS (by omega) (by omega) sl_19_1 rfl lk36 rfl (tyX7_ok 1 (by decide)) rfl rfl dX7_removeField_81 (fun H locs hw hS => ?_)
        obtain ⟨X6, hX6⟩ : ∃ Xq, Xq = u3 Xa 19 q 1 ((X 19 q 1) - 1) := ⟨_, rfl⟩
        rw [← hX6] at hw
        have hRX6 : Rng X6 := by rw [hX6]; exact rng_set hRXa (show 0 ≤ ((X 19 q 1) - 1) ∧ ((X 19 q 1) - 1) ≤ 5 by omega)
        have hVX6 : X6 19 q 1 = ((X 19 q 1) - 1) := by rw [hX6]; exact u3_s _ _ _ _ _
        have hFX6 : Frm [1902, 2000, 2100, 2200, 2300] X X6 := by rw [hX6]; exact Frm.set hFXa (show 1902 ∈ [1902, 2000, 2100, 2200, 2300] by first | exact nlm_in rfl | decide)
        rw [hQ9]
        refine ret_v (mc := 0) (ms := 0) hx hb hr hlocks hw hS (by first | exact Nat.le_of_ble_eq_true rfl | omega) (by first | exact Nat.le_of_ble_eq_true rfl | omega) dX7_removeField_84 ?_
        have q7 : Frm [1902, 2000, 2100, 2200, 2300] X Xa := Frm.tr Frm.rf (Frm.mono hGXa (by first | exact nls_of rfl | decide))
        have q8 : Frm [1902, 2000, 2100, 2200, 2300] X X6 := by rw [hX6]; exact Frm.set q7 (show 1902 ∈ [1902, 2000, 2100, 2200, 2300] by first | exact nlm_in rfl | decide)
        have hCq9 : CInv cnt X6 Y ln := cinv_frm (M := [1902, 2000, 2100, 2200, 2300]) (N := []) hCI q8 Frm.rf (by decide) (by decide)
        exact ⟨X6, rfl, hRX6, hFX6, hCq9, by omega, by omega, fun y hy => (by rw [hX6, u3_ij (by omega), hGXa 19 y 1 (show 1902 ∉ [2000, 2100, 2200, 2300] by first | exact nlm_ni rfl | decide)]), (by rw [show X 19 q 1 - 1 = iz by omega]; exact Sh.of hs20 (by rw [hX6, u3_k _ _ _ _ (by first | exact Nat.ne_of_beq_eq_false rfl | decide)])), (by rw [show X 19 q 1 - 1 = iz by omega]; exact Sh.of hs21 (by rw [hX6, u3_k _ _ _ _ (by first | exact Nat.ne_of_beq_eq_false rfl | decide)])), (by rw [show X 19 q 1 - 1 = iz by omega]; exact Sh.of hs22 (by rw [hX6, u3_k _ _ _ _ (by first | exact Nat.ne_of_beq_eq_false rfl | decide)])), (by rw [show X 19 q 1 - 1 = iz by omega]; exact Sh.of hs23 (by rw [hX6, u3_k _ _ _ _ (by first | exact Nat.ne_of_beq_eq_false rfl | decide)]))⟩
      · refine lv_aload_n hx hb dX7_removeField_12 rfl (lv_at hl 0 rfl) ?_
        refine x_geto hx hb hf7 hw (by omega) (by omega) sl_19_2 lk9 dX7_removeField_13 ?_
        refine lv_iload_n hx hb dX7_removeField_16 rfl (lv_at hl 2 rfl) ?_
        refine lv_aload_n hx hb dX7_removeField_17 rfl (lv_at hl 0 rfl) ?_
        refine x_geto hx hb hf7 hw (by omega) (by omega) sl_19_2 lk9 dX7_removeField_18 ?_
        refine lv_iload_n hx hb dX7_removeField_21 rfl (lv_at hl 2 rfl) ?_
        refine lv_iconst (v := jI 1) hx hb dX7_removeField_22 rfl ?_
        refine x_iadd hx hb dX7_removeField_23 ?_
        refine x_iald hx hb hK.1 hw (by omega) (by omega) ar_20 (len_E ar_20 (by first | exact Nat.ne_of_beq_eq_false rfl | decide)) (by omega) (by omega) (by omega) dX7_removeField_24 ?_
        have f10 : 0 ≤ Xa 20 q (iz + 1) ∧ Xa 20 q (iz + 1) ≤ 19 := hRXa 20 q (iz + 1)
        refine x_iast hx hb hK.1 hw hS (by omega) (by omega) ar_20 (len_E ar_20 (by first | exact Nat.ne_of_beq_eq_false rfl | decide)) (by omega) (by omega) (by omega) dX7_removeField_25 (fun H locs hw hS => ?_)
        obtain ⟨X11, hX11⟩ : ∃ Xq, Xq = u3 Xa 20 q iz (Xa 20 q (iz + 1)) := ⟨_, rfl⟩
        rw [← hX11] at hw
        have hRX11 : Rng X11 := by rw [hX11]; exact rng_set hRXa (show 0 ≤ (Xa 20 q (iz + 1)) ∧ (Xa 20 q (iz + 1)) ≤ 19 by omega)
        have hVX11 : X11 20 q iz = (Xa 20 q (iz + 1)) := by rw [hX11]; exact u3_s _ _ _ _ _
        have hFX11 : Frm [1902, 2000, 2100, 2200, 2300] X X11 := by rw [hX11]; exact Frm.set hFXa (show 2000 ∈ [1902, 2000, 2100, 2200, 2300] by first | exact nlm_in rfl | decide)
        refine lv_aload_n hx hb dX7_removeField_26 rfl (lv_at hl 0 rfl) ?_
        refine x_geto hx hb hf7 hw (by omega) (by omega) sl_19_3 lk15 dX7_removeField_27 ?_
        refine lv_iload_n hx hb dX7_removeField_30 rfl (lv_at hl 2 rfl) ?_
        refine lv_aload_n hx hb dX7_removeField_31 rfl (lv_at hl 0 rfl) ?_
        refine x_geto hx hb hf7 hw (by omega) (by omega) sl_19_3 lk15 dX7_removeField_32 ?_
        refine lv_iload_n hx hb dX7_removeField_35 rfl (lv_at hl 2 rfl) ?_
        refine lv_iconst (v := jI 1) hx hb dX7_removeField_36 rfl ?_
        refine x_iadd hx hb dX7_removeField_37 ?_
        refine x_iald hx hb hK.1 hw (by omega) (by omega) ar_21 (len_E ar_21 (by first | exact Nat.ne_of_beq_eq_false rfl | decide)) (by omega) (by omega) (by omega) dX7_removeField_38 ?_
        have e12 : ∀ p9 q9 : Int, X11 21 p9 q9 = Xa 21 p9 q9 := fun p9 q9 => by rw [hX11, u3_k _ _ _ _ (by first | exact Nat.ne_of_beq_eq_false rfl | decide)]
        rw [e12 q (iz + 1)]
        have f13 : 0 ≤ Xa 21 q (iz + 1) ∧ Xa 21 q (iz + 1) ≤ 5 := hRXa 21 q (iz + 1)
        refine x_iast hx hb hK.1 hw hS (by omega) (by omega) ar_21 (len_E ar_21 (by first | exact Nat.ne_of_beq_eq_false rfl | decide)) (by omega) (by omega) (by omega) dX7_removeField_39 (fun H locs hw hS => ?_)
        obtain ⟨X14, hX14⟩ : ∃ Xq, Xq = u3 X11 21 q iz (Xa 21 q (iz + 1)) := ⟨_, rfl⟩
        rw [← hX14] at hw
        have hRX14 : Rng X14 := by rw [hX14]; exact rng_set hRX11 (show 0 ≤ (Xa 21 q (iz + 1)) ∧ (Xa 21 q (iz + 1)) ≤ 5 by omega)
        have hVX14 : X14 21 q iz = (Xa 21 q (iz + 1)) := by rw [hX14]; exact u3_s _ _ _ _ _
        have hFX14 : Frm [1902, 2000, 2100, 2200, 2300] X X14 := by rw [hX14]; exact Frm.set hFX11 (show 2100 ∈ [1902, 2000, 2100, 2200, 2300] by first | exact nlm_in rfl | decide)
        refine lv_aload_n hx hb dX7_removeField_40 rfl (lv_at hl 0 rfl) ?_
        refine x_geto hx hb hf7 hw (by omega) (by omega) sl_19_4 lk18 dX7_removeField_41 ?_
        refine lv_iload_n hx hb dX7_removeField_44 rfl (lv_at hl 2 rfl) ?_
        refine lv_aload_n hx hb dX7_removeField_45 rfl (lv_at hl 0 rfl) ?_
        refine x_geto hx hb hf7 hw (by omega) (by omega) sl_19_4 lk18 dX7_removeField_46 ?_
        refine lv_iload_n hx hb dX7_removeField_49 rfl (lv_at hl 2 rfl) ?_
        refine lv_iconst (v := jI 1) hx hb dX7_removeField_50 rfl ?_
        refine x_iadd hx hb dX7_removeField_51 ?_
        refine x_lald hx hb hK.1 hw (by omega) (by omega) ar_22 (len_E ar_22 (by first | exact Nat.ne_of_beq_eq_false rfl | decide)) (by omega) (by omega) (by omega) dX7_removeField_52 ?_
        have e15 : ∀ p9 q9 : Int, X14 22 p9 q9 = Xa 22 p9 q9 := fun p9 q9 => by rw [hX14, u3_k _ _ _ _ (by first | exact Nat.ne_of_beq_eq_false rfl | decide), hX11, u3_k _ _ _ _ (by first | exact Nat.ne_of_beq_eq_false rfl | decide)]
        rw [e15 q (iz + 1)]
        have f16 : (-9223372036854775808) ≤ Xa 22 q (iz + 1) ∧ Xa 22 q (iz + 1) ≤ 9223372036854775807 := hRXa 22 q (iz + 1)
        refine x_last hx hb hK.1 hw hS (by omega) (by omega) ar_22 (len_E ar_22 (by first | exact Nat.ne_of_beq_eq_false rfl | decide)) (by omega) (by omega) (by omega) dX7_removeField_53 (fun H locs hw hS => ?_)
        obtain ⟨X17, hX17⟩ : ∃ Xq, Xq = u3 X14 22 q iz (Xa 22 q (iz + 1)) := ⟨_, rfl⟩
        rw [← hX17] at hw
        have hRX17 : Rng X17 := by rw [hX17]; exact rng_set hRX14 (show (-9223372036854775808) ≤ (Xa 22 q (iz + 1)) ∧ (Xa 22 q (iz + 1)) ≤ 9223372036854775807 by omega)
        have hVX17 : X17 22 q iz = (Xa 22 q (iz + 1)) := by rw [hX17]; exact u3_s _ _ _ _ _
        have hFX17 : Frm [1902, 2000, 2100, 2200, 2300] X X17 := by rw [hX17]; exact Frm.set hFX14 (show 2200 ∈ [1902, 2000, 2100, 2200, 2300] by first | exact nlm_in rfl | decide)
        refine lv_aload_n hx hb dX7_removeField_54 rfl (lv_at hl 0 rfl) ?_
        refine x_geto hx hb hf7 hw (by omega) (by omega) sl_19_5 lk22 dX7_removeField_55 ?_
        refine lv_iload_n hx hb dX7_removeField_58 rfl (lv_at hl 2 rfl) ?_
        refine lv_aload_n hx hb dX7_removeField_59 rfl (lv_at hl 0 rfl) ?_
        refine x_geto hx hb hf7 hw (by omega) (by omega) sl_19_5 lk22 dX7_removeField_60 ?_
        refine lv_iload_n hx hb dX7_removeField_63 rfl (lv_at hl 2 rfl) ?_
        refine lv_iconst (v := jI 1) hx hb dX7_removeField_64 rfl ?_
        refine x_iadd hx hb dX7_removeField_65 ?_
        refine x_zald hx hb hK.1 hw (by omega) (by omega) ar_23 (len_E ar_23 (by first | exact Nat.ne_of_beq_eq_false rfl | decide)) (by omega) (by omega) (by omega) dX7_removeField_66 ?_
        have e18 : ∀ p9 q9 : Int, X17 23 p9 q9 = Xa 23 p9 q9 := fun p9 q9 => by rw [hX17, u3_k _ _ _ _ (by first | exact Nat.ne_of_beq_eq_false rfl | decide), hX14, u3_k _ _ _ _ (by first | exact Nat.ne_of_beq_eq_false rfl | decide), hX11, u3_k _ _ _ _ (by first | exact Nat.ne_of_beq_eq_false rfl | decide)]
        rw [e18 q (iz + 1)]
        have f19 : 0 ≤ Xa 23 q (iz + 1) ∧ Xa 23 q (iz + 1) ≤ 1 := hRXa 23 q (iz + 1)
        refine x_zast hx hb hK.1 hw hS (by omega) (by omega) ar_23 (len_E ar_23 (by first | exact Nat.ne_of_beq_eq_false rfl | decide)) (by omega) (by omega) (by omega) (by omega) (by omega) dX7_removeField_67 (fun H locs hw hS => ?_)
        obtain ⟨X20, hX20⟩ : ∃ Xq, Xq = u3 X17 23 q iz (Xa 23 q (iz + 1)) := ⟨_, rfl⟩
        rw [← hX20] at hw
        have hRX20 : Rng X20 := by rw [hX20]; exact rng_set hRX17 (show 0 ≤ (Xa 23 q (iz + 1)) ∧ (Xa 23 q (iz + 1)) ≤ 1 by omega)
        have hVX20 : X20 23 q iz = (Xa 23 q (iz + 1)) := by rw [hX20]; exact u3_s _ _ _ _ _
        have hFX20 : Frm [1902, 2000, 2100, 2200, 2300] X X20 := by rw [hX20]; exact Frm.set hFX17 (show 2300 ∈ [1902, 2000, 2100, 2200, 2300] by first | exact nlm_in rfl | decide)
        refine lv_iinc (v := jI (iz + 1)) (lv' := [(2, .int (jI (iz + 1))), (0, .ref (ad 19 q)), (1, .int (jI k))]) hx hb dX7_removeField_68 hl (k := 2) rfl (jI_add _ _) (by decide) rfl (fun ls hl => ?_)
        refine lv_goto (tgt := 2) hx hb dX7_removeField_71 (by decide) ?_
        have q21 : Frm [2000, 2100, 2200, 2300] X Xa := Frm.tr Frm.rf (Frm.mono hGXa (by first | exact nls_of rfl | decide))
        have q22 : Frm [2000, 2100, 2200, 2300] X X11 := by rw [hX11]; exact Frm.set q21 (show 2000 ∈ [2000, 2100, 2200, 2300] by first | exact nlm_in rfl | decide)
        have q23 : Frm [2000, 2100, 2200, 2300] X X14 := by rw [hX14]; exact Frm.set q22 (show 2100 ∈ [2000, 2100, 2200, 2300] by first | exact nlm_in rfl | decide)
        have q24 : Frm [2000, 2100, 2200, 2300] X X17 := by rw [hX17]; exact Frm.set q23 (show 2200 ∈ [2000, 2100, 2200, 2300] by first | exact nlm_in rfl | decide)
        have q25 : Frm [2000, 2100, 2200, 2300] X X20 := by rw [hX20]; exact Frm.set q24 (show 2300 ∈ [2000, 2100, 2200, 2300] by first | exact nlm_in rfl | decide)
        exact ih2 (iz + 1) X20 _ _ _ (by omega) hRX20 q25 (by omega) (Sh.step (Xc := Xa) hs20 (by omega) rfl (by rw [hX20, u3_k _ _ _ _ (by first | exact Nat.ne_of_beq_eq_false rfl | decide), hX17, u3_k _ _ _ _ (by first | exact Nat.ne_of_beq_eq_false rfl | decide), hX14, u3_k _ _ _ _ (by first | exact Nat.ne_of_beq_eq_false rfl | decide), hX11]) rfl) (Sh.step (Xc := X11) hs21 (by omega) (by rw [hX11, u3_k _ _ _ _ (by first | exact Nat.ne_of_beq_eq_false rfl | decide)]) (by rw [hX20, u3_k _ _ _ _ (by first | exact Nat.ne_of_beq_eq_false rfl | decide), hX17, u3_k _ _ _ _ (by first | exact Nat.ne_of_beq_eq_false rfl | decide), hX14]) rfl) (Sh.step (Xc := X14) hs22 (by omega) (by rw [hX14, u3_k _ _ _ _ (by first | exact Nat.ne_of_beq_eq_false rfl | decide), hX11, u3_k _ _ _ _ (by first | exact Nat.ne_of_beq_eq_false rfl | decide)]) (by rw [hX20, u3_k _ _ _ _ (by first | exact Nat.ne_of_beq_eq_false rfl | decide), hX17]) rfl) (Sh.step (Xc := X17) hs23 (by omega) (by rw [hX17, u3_k _ _ _ _ (by first | exact Nat.ne_of_beq_eq_false rfl | decide), hX14, u3_k _ _ _ _ (by first | exact Nat.ne_of_beq_eq_false rfl | decide), hX11, u3_k _ _ _ _ (by first | exact Nat.ne_of_beq_eq_false rfl | decide)]) (by rw [hX20]) rfl) hw hS (lv_sub hl [1, 2, 0] rfl)
  exact lp2 (5 - k : Int).toNat.succ k X _ _ _ (by omega) hR Frm.rf (by omega) (Sh.in_ rfl) (Sh.in_ rfl) (Sh.in_ rfl) (Sh.in_ rfl) hw hS (lv_sub hl [1, 2, 0] rfl)
end
section
set_option maxHeartbeats 4000000 in
set_option maxRecDepth 100000 in
theorem c_X8_changeValue (l : Launch) (D : va_G) (tc : Nat → ClassId) (base : Nat) (ad : Nat → Int → Nat) (cnt : Nat → Int) (X : Nat → Int → Int → Int) (Y : Nat → Int → Int → Option Int) (ln : Int → Int) (hR : Rng X) (hFx : Fx cnt) (hLn : LnOK ln) (hCI : CInv cnt X Y ln) (x k v : Int) (hx0 : 0 ≤ x ∧ x ≤ 29) (hk0 : 0 ≤ k ∧ k ≤ 4) (hv : -9223372036854775808 ≤ v ∧ v ≤ 9223372036854775807) : KI l D tc base yX8_changeValue wsX8_changeValue ({ frames := 3, cells := 0, slots := 0, locals := 68 } : Room) [.ref (ad 0 0), .ref (ad 15 x), .int (jI k), .long (jL v)] (ad, cnt, X, Y, ln) 0 0 (fun z u => ∃ (X1 : Nat → Int → Int → Int) (Y1 : Nat → Int → Int → Option Int), u = (ad, cnt, X1, Y1, ln) ∧ Rng X1 ∧ Frm [2802, 2803, 2902, 1600] X X1 ∧ Frm [2801, 2804] Y Y1 ∧ CInv cnt X1 Y1 ln ∧ (-2147483648 ≤ z ∧ z ≤ 2147483647) ∧ ((80 ≤ X 29 0 1 ∧ z = -4 ∧ X1 = X ∧ Y1 = Y) ∨ (X 29 0 1 ≤ 79 ∧ z = 1 ∧ eNoteC X X1 Y Y1 (some x) k (X 16 x k) (Y 17 x k) ∧ X1 16 x k = v ∧ (∀ y j, ¬ (y = x ∧ j = k) → X1 16 y j = X 16 y j) ∧ ∀ y j, Y1 17 y j = Y 17 y j))) := by
  refine K_of (cc := cX8_changeValue) (maxL := 5) (ret := (some .int)) (by decide) rfl (Nat.le_of_ble_eq_true rfl) ?_
  intro p e s m below meth c ls hx hb hr hml hown hts hlocks hl hK hw hS
  have hown : s.vm.findClass RX8 = some m.cls := hown
  obtain ⟨av9, hav9⟩ : ∃ a9 : Array Value, a9 = ([.ref (ad 0 0), .ref (ad 15 x), .int (jI k), .long (jL v)] : List Value).toArray := ⟨_, rfl⟩
  rw [← hav9] at hts ⊢
  obtain ⟨Q9, hQ9⟩ : ∃ q9Q : State → Prop, q9Q = MQ below (QI D tc base (fun z u => ∃ (X1 : Nat → Int → Int → Int) (Y1 : Nat → Int → Int → Option Int), u = (ad, cnt, X1, Y1, ln) ∧ Rng X1 ∧ Frm [2802, 2803, 2902, 1600] X X1 ∧ Frm [2801, 2804] Y Y1 ∧ CInv cnt X1 Y1 ln ∧ (-2147483648 ≤ z ∧ z ≤ 2147483647) ∧ ((80 ≤ X 29 0 1 ∧ z = -4 ∧ X1 = X ∧ Y1 = Y) ∨ (X 29 0 1 ≤ 79 ∧ z = 1 ∧ eNoteC X X1 Y Y1 (some x) k (X 16 x k) (Y 17 x k) ∧ X1 16 x k = v ∧ (∀ y j, ¬ (y = x ∧ j = k) → X1 16 y j = X 16 y j) ∧ ∀ y j, Y1 17 y j = Y 17 y j)))) av9 s 0 0 (frA base) := ⟨_, rfl⟩
  rw [← hQ9]
  have hi6 : ∀ w ∈ wsX60, w ∈ wsX8_changeValue := fun w h => List.mem_cons_of_mem _ (List.mem_append_left _ (List.mem_append_left _ (List.mem_append_right _ h)))
  have hf6 : fctx s m _ RX8 wsX8_changeValue D tc RX6 TX6 4 6 := ⟨hts, hi6, hown, hK.1, rfl⟩
  have hi8 : ∀ w ∈ wsX80, w ∈ wsX8_changeValue := fun w h => List.mem_cons_of_mem _ (List.mem_append_left _ (List.mem_append_left _ (List.mem_append_left _ (List.mem_append_right _ h))))
  have hf8 : fctx s m _ RX8 wsX8_changeValue D tc RX8 TX8 12 8 := ⟨hts, hi8, hown, hK.1, rfl⟩
  have lk51 := hts (.fieldLink RX8 51 (TX8 10).1 (TX8 10).2.1 (TX8 10).2.2.1) (gj_X8_changeValue_0 _ (gp_h))
  have lk193 := hts (.fieldLink RX8 193 (TX6 1).1 (TX6 1).2.1 (TX6 1).2.2.1) (gj_X8_changeValue_0 _ (gp_1 gp_h))
  have hc0 : cnt 0 = 1 := hFx.at 0 1 (by decide)
  have hc15 : cnt 15 = 30 := hFx.at 15 30 (by decide)
  have hc16 : cnt 16 = 30 := hFx.at 16 30 (by decide)
  have hc29 : cnt 29 = 1 := hFx.at 29 1 (by decide)
  have hl : lv_has ls 5 [(0, .ref (ad 0 0)), (1, .ref (ad 15 x)), (2, .int (jI k)), (3, .long (jL v))] := hl
  have ftc : 0 ≤ X 0 0 3 ∧ X 0 0 3 ≤ 30 := hR 0 0 3
  have fty : 0 ≤ X 0 0 1 ∧ X 0 0 1 ≤ 8 := hR 0 0 1
  have hct : cnt 19 = X 0 0 1 := hCI.2.2.2.1.1
  have hfj : 0 ≤ X 29 0 3 ∧ X 29 0 3 ≤ 4 := hR 29 0 3
  have hfn : 0 ≤ X 29 0 1 ∧ X 29 0 1 ≤ 80 := hR 29 0 1
  refine lv_aload_n hx hb dX8_changeValue_0 rfl (lv_at hl 0 rfl) ?_
  refine x_geto hx hb hf8 hw (by first | exact Int.le_refl 0 | omega) (by first | exact zlt hc0 | omega) sl_0_10 lk51 dX8_changeValue_1 ?_
  refine gos_i (run_V (As := []) (rest := []) hx hb hml hown hts (c_X2_isFull l D tc base ad cnt X Y ln hR hFx hLn hCI) (cwV 0 hts gX8_changeValue_X2_isFull rfl rfl rfl (by first | exact hd_X2_isFull | decide +kernel) ⟨Nat.le_of_ble_eq_true rfl, Nat.le_of_ble_eq_true rfl⟩) hK hw (by first | exact Int.le_refl 0 | omega) (by first | exact zlt hc29 | omega) sl_29_0 rfl rfl hl.1 rfl (Nat.le_of_ble_eq_true rfl) dX8_changeValue_4 ⟨Nat.le_of_ble_eq_true rfl, Nat.le_of_ble_eq_true rfl⟩) hS (fun z1 u2 H locs p3 hw hS => ?_)
  obtain ⟨eu2, p3⟩ := p3
  subst eu2
  rcases p3 with ⟨ez1, p3⟩ | ⟨ez1, p3⟩
  · subst ez1
    refine x_if_eqF (tgt := 13) hx hb (by omega) (by decide) dX8_changeValue_7 (by decide) ?_
    refine lv_bipush (v := jI (-4)) hx hb dX8_changeValue_10 (by decide) ?_
    rw [hQ9]
    refine ret_i (mc := 0) (ms := 0) hx hb hr hlocks hw hS (by first | exact Nat.le_of_ble_eq_true rfl | omega) (by first | exact Nat.le_of_ble_eq_true rfl | omega) dX8_changeValue_12 ?_
    exact ⟨X, Y, rfl, hR, Frm.rf, Frm.rf, hCI, by omega, Or.inl ⟨by omega, rfl, rfl, rfl⟩⟩
  · subst ez1
    refine x_if_eqT (tgt := 13) hx hb (by omega) (by decide) dX8_changeValue_7 (by decide) ?_
    refine lv_aload_n hx hb dX8_changeValue_13 rfl (lv_at hl 0 rfl) ?_
    refine x_geto hx hb hf8 hw (by first | exact Int.le_refl 0 | omega) (by first | exact zlt hc0 | omega) sl_0_10 lk51 dX8_changeValue_14 ?_
    refine lv_aload_n hx hb dX8_changeValue_17 rfl (lv_at hl 1 rfl) ?_
    refine lv_iload_n hx hb dX8_changeValue_18 rfl (lv_at hl 2 rfl) ?_
    refine gos_v (run_V (As := [.ref (ad 15 x), .int (jI k)]) (rest := []) hx hb hml hown hts (c_X2_noteField l D tc base ad cnt X Y ln hR hFx hLn hCI x k (by omega) (by omega) (by omega)) (cwV 2 hts gX8_changeValue_X2_noteField rfl rfl rfl (by first | exact hd_X2_noteField | decide +kernel) ⟨Nat.le_of_ble_eq_true rfl, Nat.le_of_ble_eq_true rfl⟩) hK hw (by first | exact Int.le_refl 0 | omega) (by first | exact zlt hc29 | omega) sl_29_0 rfl rfl hl.1 rfl (Nat.le_of_ble_eq_true rfl) dX8_changeValue_19 ⟨Nat.le_of_ble_eq_true rfl, Nat.le_of_ble_eq_true rfl⟩) hS (fun u5 H locs p6 hw hS => ?_)
    obtain ⟨X7, Y8, eu5, hRX7, hG9, hJ10, hCIX7, p6, hntX7⟩ := p6
    subst eu5
    have hFX7 : Frm [2802, 2803, 2902, 1600] X X7 := Frm.tr Frm.rf (Frm.mono hG9 (by first | exact nls_of rfl | decide))
    have hHY8 : Frm [2801, 2804] Y Y8 := Frm.tr Frm.rf (Frm.mono hJ10 (by first | exact nls_of rfl | decide))
    refine lv_aload_n hx hb dX8_changeValue_22 rfl (lv_at hl 1 rfl) ?_
    refine x_geto hx hb hf6 hw (by omega) (by omega) sl_15_1 lk193 dX8_changeValue_23 ?_
    refine lv_iload_n hx hb dX8_changeValue_26 rfl (lv_at hl 2 rfl) ?_
    refine lv_lload_n hx hb dX8_changeValue_27 rfl (lv_at hl 3 rfl) ?_
    refine x_last hx hb hK.1 hw hS (by omega) (by omega) ar_16 (len_E ar_16 (by first | exact Nat.ne_of_beq_eq_false rfl | decide)) (by omega) (by omega) (by omega) dX8_changeValue_28 (fun H locs hw hS => ?_)
    obtain ⟨X11, hX11⟩ : ∃ Xq, Xq = u3 X7 16 x k v := ⟨_, rfl⟩
    rw [← hX11] at hw
    have hRX11 : Rng X11 := by rw [hX11]; exact rng_set hRX7 (show (-9223372036854775808) ≤ v ∧ v ≤ 9223372036854775807 by omega)
    have hVX11 : X11 16 x k = v := by rw [hX11]; exact u3_s _ _ _ _ _
    have hFX11 : Frm [2802, 2803, 2902, 1600] X X11 := by rw [hX11]; exact Frm.set hFX7 (show 1600 ∈ [2802, 2803, 2902, 1600] by first | exact nlm_in rfl | decide)
    refine lv_iconst (v := jI 1) hx hb dX8_changeValue_29 rfl ?_
    rw [hQ9]
    refine ret_i (mc := 0) (ms := 0) hx hb hr hlocks hw hS (by first | exact Nat.le_of_ble_eq_true rfl | omega) (by first | exact Nat.le_of_ble_eq_true rfl | omega) dX8_changeValue_30 ?_
    have q12 : Frm [1600] X7 X11 := by rw [hX11]; exact Frm.set Frm.rf (show 1600 ∈ [1600] by first | exact nlm_in rfl | decide)
    have hCq13 : CInv cnt X11 Y8 ln := cinv_frm (M := [1600]) (N := []) hCIX7 q12 Frm.rf (by decide) (by decide)
    have q14 : Frm [1600] X7 X11 := by rw [hX11]; exact Frm.set Frm.rf (show 1600 ∈ [1600] by first | exact nlm_in rfl | decide)
    have h15 := eNoteC.to (M := [1600]) (N := []) hntX7 q14 Frm.rf (by decide) (by decide) (fun n j => (by rw [hX11, u3_k _ _ _ _ (by first | exact Nat.ne_of_beq_eq_false rfl | decide)])) (fun n j => rfl)
    exact ⟨X11, Y8, rfl, hRX11, hFX11, hHY8, hCq13, by omega, Or.inr ⟨by omega, rfl, h15, hVX11, fun y j hy => (by rw [hX11, u3_ij hy, hG9 16 y j (show 1600 ∉ [2802, 2803, 2902] by first | exact nlm_ni rfl | decide)]), fun y j => (by rw [hJ10 17 y j (show 1700 ∉ [2801, 2804] by first | exact nlm_ni rfl | decide)])⟩⟩

set_option maxHeartbeats 4000000 in
set_option maxRecDepth 100000 in
theorem c_X8_changeRow_r (l : Launch) (D : va_G) (tc : Nat → ClassId) (base : Nat) (ad : Nat → Int → Nat) (cnt : Nat → Int) (X : Nat → Int → Int → Int) (Y : Nat → Int → Int → Option Int) (ln : Int → Int) (hR : Rng X) (hFx : Fx cnt) (hLn : LnOK ln) (hCI : CInv cnt X Y ln) (x k g : Int) (hx0 : 0 ≤ x ∧ x ≤ 29) (hk0 : 0 ≤ k ∧ k ≤ 4) (hg : 0 ≤ g ∧ g < cnt 26) : KI l D tc base yX8_changeRow wsX8_changeRow ({ frames := 3, cells := 0, slots := 0, locals := 68 } : Room) [.ref (ad 0 0), .ref (ad 15 x), .int (jI k), .ref (ad 26 g)] (ad, cnt, X, Y, ln) 0 0 (fun z u => ∃ (X1 : Nat → Int → Int → Int) (Y1 : Nat → Int → Int → Option Int), u = (ad, cnt, X1, Y1, ln) ∧ Rng X1 ∧ Frm [2802, 2803, 2902] X X1 ∧ Frm [2801, 2804, 1700] Y Y1 ∧ CInv cnt X1 Y1 ln ∧ (-2147483648 ≤ z ∧ z ≤ 2147483647) ∧ ((80 ≤ X 29 0 1 ∧ z = -4 ∧ X1 = X ∧ Y1 = Y) ∨ (X 29 0 1 ≤ 79 ∧ z = 1 ∧ eNoteC X X1 Y Y1 (some x) k (X 16 x k) (Y 17 x k) ∧ Y1 17 x k = some g ∧ (∀ y j, ¬ (y = x ∧ j = k) → Y1 17 y j = Y 17 y j) ∧ ∀ y j, X1 16 y j = X 16 y j))) := by
  refine K_of (cc := cX8_changeRow) (maxL := 4) (ret := (some .int)) (by decide) rfl (Nat.le_of_ble_eq_true rfl) ?_
  intro p e s m below meth c ls hx hb hr hml hown hts hlocks hl hK hw hS
  have hown : s.vm.findClass RX8 = some m.cls := hown
  obtain ⟨av9, hav9⟩ : ∃ a9 : Array Value, a9 = ([.ref (ad 0 0), .ref (ad 15 x), .int (jI k), .ref (ad 26 g)] : List Value).toArray := ⟨_, rfl⟩
  rw [← hav9] at hts ⊢
  obtain ⟨Q9, hQ9⟩ : ∃ q9Q : State → Prop, q9Q = MQ below (QI D tc base (fun z u => ∃ (X1 : Nat → Int → Int → Int) (Y1 : Nat → Int → Int → Option Int), u = (ad, cnt, X1, Y1, ln) ∧ Rng X1 ∧ Frm [2802, 2803, 2902] X X1 ∧ Frm [2801, 2804, 1700] Y Y1 ∧ CInv cnt X1 Y1 ln ∧ (-2147483648 ≤ z ∧ z ≤ 2147483647) ∧ ((80 ≤ X 29 0 1 ∧ z = -4 ∧ X1 = X ∧ Y1 = Y) ∨ (X 29 0 1 ≤ 79 ∧ z = 1 ∧ eNoteC X X1 Y Y1 (some x) k (X 16 x k) (Y 17 x k) ∧ Y1 17 x k = some g ∧ (∀ y j, ¬ (y = x ∧ j = k) → Y1 17 y j = Y 17 y j) ∧ ∀ y j, X1 16 y j = X 16 y j)))) av9 s 0 0 (frA base) := ⟨_, rfl⟩
  rw [← hQ9]
  have hi6 : ∀ w ∈ wsX60, w ∈ wsX8_changeRow := fun w h => List.mem_cons_of_mem _ (List.mem_append_left _ (List.mem_append_left _ (List.mem_append_right _ h)))
  have hf6 : fctx s m _ RX8 wsX8_changeRow D tc RX6 TX6 4 6 := ⟨hts, hi6, hown, hK.1, rfl⟩
  have hi8 : ∀ w ∈ wsX80, w ∈ wsX8_changeRow := fun w h => List.mem_cons_of_mem _ (List.mem_append_left _ (List.mem_append_left _ (List.mem_append_left _ (List.mem_append_right _ h))))
  have hf8 : fctx s m _ RX8 wsX8_changeRow D tc RX8 TX8 12 8 := ⟨hts, hi8, hown, hK.1, rfl⟩
  have lk51 := hts (.fieldLink RX8 51 (TX8 10).1 (TX8 10).2.1 (TX8 10).2.2.1) (gj_X8_changeRow_0 _ (gp_h))
  have lk158 := hts (.fieldLink RX8 158 (TX6 2).1 (TX6 2).2.1 (TX6 2).2.2.1) (gj_X8_changeRow_0 _ (gp_1 gp_h))
  have hc0 : cnt 0 = 1 := hFx.at 0 1 (by decide)
  have hc15 : cnt 15 = 30 := hFx.at 15 30 (by decide)
  have hc17 : cnt 17 = 30 := hFx.at 17 30 (by decide)
  have hc29 : cnt 29 = 1 := hFx.at 29 1 (by decide)
  have hl : lv_has ls 4 [(0, .ref (ad 0 0)), (1, .ref (ad 15 x)), (2, .int (jI k)), (3, .ref (ad 26 g))] := hl
  have ftc : 0 ≤ X 0 0 3 ∧ X 0 0 3 ≤ 30 := hR 0 0 3
  have fty : 0 ≤ X 0 0 1 ∧ X 0 0 1 ≤ 8 := hR 0 0 1
  have hct : cnt 19 = X 0 0 1 := hCI.2.2.2.1.1
  have hfj : 0 ≤ X 29 0 3 ∧ X 29 0 3 ≤ 4 := hR 29 0 3
  have hfn : 0 ≤ X 29 0 1 ∧ X 29 0 1 ≤ 80 := hR 29 0 1
  refine lv_aload_n hx hb dX8_changeRow_0 rfl (lv_at hl 0 rfl) ?_
  refine x_geto hx hb hf8 hw (by first | exact Int.le_refl 0 | omega) (by first | exact zlt hc0 | omega) sl_0_10 lk51 dX8_changeRow_1 ?_
  refine gos_i (run_V (As := []) (rest := []) hx hb hml hown hts (c_X2_isFull l D tc base ad cnt X Y ln hR hFx hLn hCI) (cwV 0 hts gX8_changeRow_X2_isFull rfl rfl rfl (by first | exact hd_X2_isFull | decide +kernel) ⟨Nat.le_of_ble_eq_true rfl, Nat.le_of_ble_eq_true rfl⟩) hK hw (by first | exact Int.le_refl 0 | omega) (by first | exact zlt hc29 | omega) sl_29_0 rfl rfl hl.1 rfl (Nat.le_of_ble_eq_true rfl) dX8_changeRow_4 ⟨Nat.le_of_ble_eq_true rfl, Nat.le_of_ble_eq_true rfl⟩) hS (fun z1 u2 H locs p3 hw hS => ?_)
  obtain ⟨eu2, p3⟩ := p3
  subst eu2
  rcases p3 with ⟨ez1, p3⟩ | ⟨ez1, p3⟩
  · subst ez1
    refine x_if_eqF (tgt := 13) hx hb (by omega) (by decide) dX8_changeRow_7 (by decide) ?_
    refine lv_bipush (v := jI (-4)) hx hb dX8_changeRow_10 (by decide) ?_
    rw [hQ9]
    refine ret_i (mc := 0) (ms := 0) hx hb hr hlocks hw hS (by first | exact Nat.le_of_ble_eq_true rfl | omega) (by first | exact Nat.le_of_ble_eq_true rfl | omega) dX8_changeRow_12 ?_
    exact ⟨X, Y, rfl, hR, Frm.rf, Frm.rf, hCI, by omega, Or.inl ⟨by omega, rfl, rfl, rfl⟩⟩
  · subst ez1
    refine x_if_eqT (tgt := 13) hx hb (by omega) (by decide) dX8_changeRow_7 (by decide) ?_
    refine lv_aload_n hx hb dX8_changeRow_13 rfl (lv_at hl 0 rfl) ?_
    refine x_geto hx hb hf8 hw (by first | exact Int.le_refl 0 | omega) (by first | exact zlt hc0 | omega) sl_0_10 lk51 dX8_changeRow_14 ?_
    refine lv_aload_n hx hb dX8_changeRow_17 rfl (lv_at hl 1 rfl) ?_
    refine lv_iload_n hx hb dX8_changeRow_18 rfl (lv_at hl 2 rfl) ?_
    refine gos_v (run_V (As := [.ref (ad 15 x), .int (jI k)]) (rest := []) hx hb hml hown hts (c_X2_noteField l D tc base ad cnt X Y ln hR hFx hLn hCI x k (by omega) (by omega) (by omega)) (cwV 2 hts gX8_changeRow_X2_noteField rfl rfl rfl (by first | exact hd_X2_noteField | decide +kernel) ⟨Nat.le_of_ble_eq_true rfl, Nat.le_of_ble_eq_true rfl⟩) hK hw (by first | exact Int.le_refl 0 | omega) (by first | exact zlt hc29 | omega) sl_29_0 rfl rfl hl.1 rfl (Nat.le_of_ble_eq_true rfl) dX8_changeRow_19 ⟨Nat.le_of_ble_eq_true rfl, Nat.le_of_ble_eq_true rfl⟩) hS (fun u5 H locs p6 hw hS => ?_)
    obtain ⟨X7, Y8, eu5, hRX7, hG9, hJ10, hCIX7, p6, hntX7⟩ := p6
    subst eu5
    have hFX7 : Frm [2802, 2803, 2902] X X7 := Frm.tr Frm.rf (Frm.mono hG9 (by first | exact nls_of rfl | decide))
    have hHY8 : Frm [2801, 2804, 1700] Y Y8 := Frm.tr Frm.rf (Frm.mono hJ10 (by first | exact nls_of rfl | decide))
    refine lv_aload_n hx hb dX8_changeRow_22 rfl (lv_at hl 1 rfl) ?_
    refine x_geto hx hb hf6 hw (by omega) (by omega) sl_15_2 lk158 dX8_changeRow_23 ?_
    refine lv_iload_n hx hb dX8_changeRow_26 rfl (lv_at hl 2 rfl) ?_
    refine lv_aload_n hx hb dX8_changeRow_27 rfl (lv_at hl 3 rfl) ?_
    refine x_aast hx hb hK.1 hw hS (by omega) (by omega) ar_17 rfl rfl sl_26_0 (len_E ar_17 (by first | exact Nat.ne_of_beq_eq_false rfl | decide)) (by omega) (by omega) (by omega) (by omega) (by omega) dX8_changeRow_28 (fun H locs hw hS => ?_)
    obtain ⟨Y11, hY11⟩ : ∃ Yq, Yq = u3 Y8 17 x k (some g) := ⟨_, rfl⟩
    rw [← hY11] at hw
    have hVY11 : Y11 17 x k = (some g) := by rw [hY11]; exact u3_s _ _ _ _ _
    have hHY11 : Frm [2801, 2804, 1700] Y Y11 := by rw [hY11]; exact Frm.set hHY8 (show 1700 ∈ [2801, 2804, 1700] by first | exact nlm_in rfl | decide)
    refine lv_iconst (v := jI 1) hx hb dX8_changeRow_29 rfl ?_
    rw [hQ9]
    refine ret_i (mc := 0) (ms := 0) hx hb hr hlocks hw hS (by first | exact Nat.le_of_ble_eq_true rfl | omega) (by first | exact Nat.le_of_ble_eq_true rfl | omega) dX8_changeRow_30 ?_
    have q12 : Frm [1700] Y8 Y11 := by rw [hY11]; exact Frm.set Frm.rf (show 1700 ∈ [1700] by first | exact nlm_in rfl | decide)
    have hCq13 : CInv cnt X7 Y11 ln := cinv_frm (M := []) (N := [1700]) hCIX7 Frm.rf q12 (by decide) (by decide)
    have q14 : Frm [1700] Y8 Y11 := by rw [hY11]; exact Frm.set Frm.rf (show 1700 ∈ [1700] by first | exact nlm_in rfl | decide)
    have h15 := eNoteC.to (M := []) (N := [1700]) hntX7 Frm.rf q14 (by decide) (by decide) (fun n j => rfl) (fun n j => (by rw [hY11, u3_k _ _ _ _ (by first | exact Nat.ne_of_beq_eq_false rfl | decide)]))
    exact ⟨X7, Y11, rfl, hRX7, hFX7, hHY11, hCq13, by omega, Or.inr ⟨by omega, rfl, h15, hVY11, fun y j hy => (by rw [hY11, u3_ij hy, hJ10 17 y j (show 1700 ∉ [2801, 2804] by first | exact nlm_ni rfl | decide)]), fun y j => (by rw [hG9 16 y j (show 1600 ∉ [2802, 2803, 2902] by first | exact nlm_ni rfl | decide)])⟩⟩

set_option maxHeartbeats 4000000 in
set_option maxRecDepth 100000 in
theorem c_X8_changeRow_n (l : Launch) (D : va_G) (tc : Nat → ClassId) (base : Nat) (ad : Nat → Int → Nat) (cnt : Nat → Int) (X : Nat → Int → Int → Int) (Y : Nat → Int → Int → Option Int) (ln : Int → Int) (hR : Rng X) (hFx : Fx cnt) (hLn : LnOK ln) (hCI : CInv cnt X Y ln) (x k : Int) (hx0 : 0 ≤ x ∧ x ≤ 29) (hk0 : 0 ≤ k ∧ k ≤ 4) : KI l D tc base yX8_changeRow wsX8_changeRow ({ frames := 3, cells := 0, slots := 0, locals := 68 } : Room) [.ref (ad 0 0), .ref (ad 15 x), .int (jI k), .null] (ad, cnt, X, Y, ln) 0 0 (fun z u => ∃ (X1 : Nat → Int → Int → Int) (Y1 : Nat → Int → Int → Option Int), u = (ad, cnt, X1, Y1, ln) ∧ Rng X1 ∧ Frm [2802, 2803, 2902] X X1 ∧ Frm [2801, 2804, 1700] Y Y1 ∧ CInv cnt X1 Y1 ln ∧ (-2147483648 ≤ z ∧ z ≤ 2147483647) ∧ ((80 ≤ X 29 0 1 ∧ z = -4 ∧ X1 = X ∧ Y1 = Y) ∨ (X 29 0 1 ≤ 79 ∧ z = 1 ∧ eNoteC X X1 Y Y1 (some x) k (X 16 x k) (Y 17 x k) ∧ Y1 17 x k = none ∧ (∀ y j, ¬ (y = x ∧ j = k) → Y1 17 y j = Y 17 y j) ∧ ∀ y j, X1 16 y j = X 16 y j))) := by
  refine K_of (cc := cX8_changeRow) (maxL := 4) (ret := (some .int)) (by decide) rfl (Nat.le_of_ble_eq_true rfl) ?_
  intro p e s m below meth c ls hx hb hr hml hown hts hlocks hl hK hw hS
  have hown : s.vm.findClass RX8 = some m.cls := hown
  obtain ⟨av9, hav9⟩ : ∃ a9 : Array Value, a9 = ([.ref (ad 0 0), .ref (ad 15 x), .int (jI k), .null] : List Value).toArray := ⟨_, rfl⟩
  rw [← hav9] at hts ⊢
  obtain ⟨Q9, hQ9⟩ : ∃ q9Q : State → Prop, q9Q = MQ below (QI D tc base (fun z u => ∃ (X1 : Nat → Int → Int → Int) (Y1 : Nat → Int → Int → Option Int), u = (ad, cnt, X1, Y1, ln) ∧ Rng X1 ∧ Frm [2802, 2803, 2902] X X1 ∧ Frm [2801, 2804, 1700] Y Y1 ∧ CInv cnt X1 Y1 ln ∧ (-2147483648 ≤ z ∧ z ≤ 2147483647) ∧ ((80 ≤ X 29 0 1 ∧ z = -4 ∧ X1 = X ∧ Y1 = Y) ∨ (X 29 0 1 ≤ 79 ∧ z = 1 ∧ eNoteC X X1 Y Y1 (some x) k (X 16 x k) (Y 17 x k) ∧ Y1 17 x k = none ∧ (∀ y j, ¬ (y = x ∧ j = k) → Y1 17 y j = Y 17 y j) ∧ ∀ y j, X1 16 y j = X 16 y j)))) av9 s 0 0 (frA base) := ⟨_, rfl⟩
  rw [← hQ9]
  have hi6 : ∀ w ∈ wsX60, w ∈ wsX8_changeRow := fun w h => List.mem_cons_of_mem _ (List.mem_append_left _ (List.mem_append_left _ (List.mem_append_right _ h)))
  have hf6 : fctx s m _ RX8 wsX8_changeRow D tc RX6 TX6 4 6 := ⟨hts, hi6, hown, hK.1, rfl⟩
  have hi8 : ∀ w ∈ wsX80, w ∈ wsX8_changeRow := fun w h => List.mem_cons_of_mem _ (List.mem_append_left _ (List.mem_append_left _ (List.mem_append_left _ (List.mem_append_right _ h))))
  have hf8 : fctx s m _ RX8 wsX8_changeRow D tc RX8 TX8 12 8 := ⟨hts, hi8, hown, hK.1, rfl⟩
  have lk51 := hts (.fieldLink RX8 51 (TX8 10).1 (TX8 10).2.1 (TX8 10).2.2.1) (gj_X8_changeRow_0 _ (gp_h))
  have lk158 := hts (.fieldLink RX8 158 (TX6 2).1 (TX6 2).2.1 (TX6 2).2.2.1) (gj_X8_changeRow_0 _ (gp_1 gp_h))
  have hc0 : cnt 0 = 1 := hFx.at 0 1 (by decide)
  have hc15 : cnt 15 = 30 := hFx.at 15 30 (by decide)
  have hc17 : cnt 17 = 30 := hFx.at 17 30 (by decide)
  have hc29 : cnt 29 = 1 := hFx.at 29 1 (by decide)
  have hl : lv_has ls 4 [(0, .ref (ad 0 0)), (1, .ref (ad 15 x)), (2, .int (jI k)), (3, .null)] := hl
  have ftc : 0 ≤ X 0 0 3 ∧ X 0 0 3 ≤ 30 := hR 0 0 3
  have fty : 0 ≤ X 0 0 1 ∧ X 0 0 1 ≤ 8 := hR 0 0 1
  have hct : cnt 19 = X 0 0 1 := hCI.2.2.2.1.1
  have hfj : 0 ≤ X 29 0 3 ∧ X 29 0 3 ≤ 4 := hR 29 0 3
  have hfn : 0 ≤ X 29 0 1 ∧ X 29 0 1 ≤ 80 := hR 29 0 1
  refine lv_aload_n hx hb dX8_changeRow_0 rfl (lv_at hl 0 rfl) ?_
  refine x_geto hx hb hf8 hw (by first | exact Int.le_refl 0 | omega) (by first | exact zlt hc0 | omega) sl_0_10 lk51 dX8_changeRow_1 ?_
  refine gos_i (run_V (As := []) (rest := []) hx hb hml hown hts (c_X2_isFull l D tc base ad cnt X Y ln hR hFx hLn hCI) (cwV 0 hts gX8_changeRow_X2_isFull rfl rfl rfl (by first | exact hd_X2_isFull | decide +kernel) ⟨Nat.le_of_ble_eq_true rfl, Nat.le_of_ble_eq_true rfl⟩) hK hw (by first | exact Int.le_refl 0 | omega) (by first | exact zlt hc29 | omega) sl_29_0 rfl rfl hl.1 rfl (Nat.le_of_ble_eq_true rfl) dX8_changeRow_4 ⟨Nat.le_of_ble_eq_true rfl, Nat.le_of_ble_eq_true rfl⟩) hS (fun z1 u2 H locs p3 hw hS => ?_)
  obtain ⟨eu2, p3⟩ := p3
  subst eu2
  rcases p3 with ⟨ez1, p3⟩ | ⟨ez1, p3⟩
  · subst ez1
    refine x_if_eqF (tgt := 13) hx hb (by omega) (by decide) dX8_changeRow_7 (by decide) ?_
    refine lv_bipush (v := jI (-4)) hx hb dX8_changeRow_10 (by decide) ?_
    rw [hQ9]
    refine ret_i (mc := 0) (ms := 0) hx hb hr hlocks hw hS (by first | exact Nat.le_of_ble_eq_true rfl | omega) (by first | exact Nat.le_of_ble_eq_true rfl | omega) dX8_changeRow_12 ?_
    exact ⟨X, Y, rfl, hR, Frm.rf, Frm.rf, hCI, by omega, Or.inl ⟨by omega, rfl, rfl, rfl⟩⟩
  · subst ez1
    refine x_if_eqT (tgt := 13) hx hb (by omega) (by decide) dX8_changeRow_7 (by decide) ?_
    refine lv_aload_n hx hb dX8_changeRow_13 rfl (lv_at hl 0 rfl) ?_
    refine x_geto hx hb hf8 hw (by first | exact Int.le_refl 0 | omega) (by first | exact zlt hc0 | omega) sl_0_10 lk51 dX8_changeRow_14 ?_
    refine lv_aload_n hx hb dX8_changeRow_17 rfl (lv_at hl 1 rfl) ?_
    refine lv_iload_n hx hb dX8_changeRow_18 rfl (lv_at hl 2 rfl) ?_
    refine gos_v (run_V (As := [.ref (ad 15 x), .int (jI k)]) (rest := []) hx hb hml hown hts (c_X2_noteField l D tc base ad cnt X Y ln hR hFx hLn hCI x k (by omega) (by omega) (by omega)) (cwV 2 hts gX8_changeRow_X2_noteField rfl rfl rfl (by first | exact hd_X2_noteField | decide +kernel) ⟨Nat.le_of_ble_eq_true rfl, Nat.le_of_ble_eq_true rfl⟩) hK hw (by first | exact Int.le_refl 0 | omega) (by first | exact zlt hc29 | omega) sl_29_0 rfl rfl hl.1 rfl (Nat.le_of_ble_eq_true rfl) dX8_changeRow_19 ⟨Nat.le_of_ble_eq_true rfl, Nat.le_of_ble_eq_true rfl⟩) hS (fun u5 H locs p6 hw hS => ?_)
    obtain ⟨X7, Y8, eu5, hRX7, hG9, hJ10, hCIX7, p6, hntX7⟩ := p6
    subst eu5
    have hFX7 : Frm [2802, 2803, 2902] X X7 := Frm.tr Frm.rf (Frm.mono hG9 (by first | exact nls_of rfl | decide))
    have hHY8 : Frm [2801, 2804, 1700] Y Y8 := Frm.tr Frm.rf (Frm.mono hJ10 (by first | exact nls_of rfl | decide))
    refine lv_aload_n hx hb dX8_changeRow_22 rfl (lv_at hl 1 rfl) ?_
    refine x_geto hx hb hf6 hw (by omega) (by omega) sl_15_2 lk158 dX8_changeRow_23 ?_
    refine lv_iload_n hx hb dX8_changeRow_26 rfl (lv_at hl 2 rfl) ?_
    refine lv_aload_nN hx hb dX8_changeRow_27 rfl (lv_at hl 3 rfl) ?_
    refine x_aastn hx hb hK.1 hw hS (by omega) (by omega) ar_17 rfl (len_E ar_17 (by first | exact Nat.ne_of_beq_eq_false rfl | decide)) (by omega) (by omega) (by omega) dX8_changeRow_28 (fun H locs hw hS => ?_)
    obtain ⟨Y11, hY11⟩ : ∃ Yq, Yq = u3 Y8 17 x k none := ⟨_, rfl⟩
    rw [← hY11] at hw
    have hVY11 : Y11 17 x k = none := by rw [hY11]; exact u3_s _ _ _ _ _
    have hHY11 : Frm [2801, 2804, 1700] Y Y11 := by rw [hY11]; exact Frm.set hHY8 (show 1700 ∈ [2801, 2804, 1700] by first | exact nlm_in rfl | decide)
    refine lv_iconst (v := jI 1) hx hb dX8_changeRow_29 rfl ?_
    rw [hQ9]
    refine ret_i (mc := 0) (ms := 0) hx hb hr hlocks hw hS (by first | exact Nat.le_of_ble_eq_true rfl | omega) (by first | exact Nat.le_of_ble_eq_true rfl | omega) dX8_changeRow_30 ?_
    have q12 : Frm [1700] Y8 Y11 := by rw [hY11]; exact Frm.set Frm.rf (show 1700 ∈ [1700] by first | exact nlm_in rfl | decide)
    have hCq13 : CInv cnt X7 Y11 ln := cinv_frm (M := []) (N := [1700]) hCIX7 Frm.rf q12 (by decide) (by decide)
    have q14 : Frm [1700] Y8 Y11 := by rw [hY11]; exact Frm.set Frm.rf (show 1700 ∈ [1700] by first | exact nlm_in rfl | decide)
    have h15 := eNoteC.to (M := []) (N := [1700]) hntX7 Frm.rf q14 (by decide) (by decide) (fun n j => rfl) (fun n j => (by rw [hY11, u3_k _ _ _ _ (by first | exact Nat.ne_of_beq_eq_false rfl | decide)]))
    exact ⟨X7, Y11, rfl, hRX7, hFX7, hHY11, hCq13, by omega, Or.inr ⟨by omega, rfl, h15, hVY11, fun y j hy => (by rw [hY11, u3_ij hy, hJ10 17 y j (show 1700 ∉ [2801, 2804] by first | exact nlm_ni rfl | decide)]), fun y j => (by rw [hG9 16 y j (show 1600 ∉ [2802, 2803, 2902] by first | exact nlm_ni rfl | decide)])⟩⟩

set_option maxHeartbeats 4000000 in
set_option maxRecDepth 100000 in
theorem c_X8_lowestBits (l : Launch) (D : va_G) (tc : Nat → ClassId) (base : Nat) (ad : Nat → Int → Nat) (cnt : Nat → Int) (X : Nat → Int → Int → Int) (Y : Nat → Int → Int → Option Int) (ln : Int → Int) (v lane : Int) (hv : -9223372036854775808 ≤ v ∧ v ≤ 9223372036854775807) (hlane : 0 ≤ lane ∧ lane ≤ 5) : KL l D tc base yX8_lowestBits wsX8_lowestBits ({ frames := 0, cells := 0, slots := 0, locals := 0 } : Room) [.long (jL v), .int (jI lane)] (ad, cnt, X, Y, ln) 0 0 (fun z u => u = (ad, cnt, X, Y, ln) ∧ (-9223372036854775808 ≤ z ∧ z ≤ 9223372036854775807) ∧ z = cutZ lane v) := by
  refine K_of (cc := cX8_lowestBits) (maxL := 3) (ret := (some .long)) (by decide) rfl (Nat.le_of_ble_eq_true rfl) ?_
  intro p e s m below meth c ls hx hb hr hml hown hts hlocks hl hK hw hS
  have hown : s.vm.findClass RX8 = some m.cls := hown
  obtain ⟨av9, hav9⟩ : ∃ a9 : Array Value, a9 = ([.long (jL v), .int (jI lane)] : List Value).toArray := ⟨_, rfl⟩
  rw [← hav9] at hts ⊢
  obtain ⟨Q9, hQ9⟩ : ∃ q9Q : State → Prop, q9Q = MQ below (QL D tc base (fun z u => u = (ad, cnt, X, Y, ln) ∧ (-9223372036854775808 ≤ z ∧ z ≤ 9223372036854775807) ∧ z = cutZ lane v)) av9 s 0 0 (frA base) := ⟨_, rfl⟩
  rw [← hQ9]
  have hl : lv_has ls 3 [(0, .long (jL v)), (2, .int (jI lane))] := hl
  refine lv_iload_n hx hb dX8_lowestBits_0 rfl (lv_at hl 1 rfl) ?_
  refine lv_iconst (v := jI 3) hx hb dX8_lowestBits_1 rfl ?_
  refine x_icmp_ne (tgt := 10) hx hb (by omega) (by omega) dX8_lowestBits_2 (by decide) (fun c1 => ?_) (fun c1 => ?_)
  · refine lv_iload_n hx hb dX8_lowestBits_10 rfl (lv_at hl 1 rfl) ?_
    refine lv_iconst (v := jI 4) hx hb dX8_lowestBits_11 rfl ?_
    refine x_icmp_ne (tgt := 21) hx hb (by omega) (by omega) dX8_lowestBits_12 (by decide) (fun c2 => ?_) (fun c2 => ?_)
    · refine lv_lload_n hx hb dX8_lowestBits_21 rfl (lv_at hl 0 rfl) ?_
      rw [hQ9]
      refine ret_l (mc := 0) (ms := 0) hx hb hr hlocks hw hS (by first | exact Nat.le_of_ble_eq_true rfl | omega) (by first | exact Nat.le_of_ble_eq_true rfl | omega) dX8_lowestBits_22 ?_
      exact ⟨rfl, by omega, by first | (unfold cutZ; rw [if_pos (by omega)]; assumption) | (unfold cutZ; rw [if_neg (by omega), if_pos (by omega)]; assumption) | (unfold cutZ; rw [if_neg (by omega), if_neg (by omega)])⟩
    · refine lv_lload_n hx hb dX8_lowestBits_15 rfl (lv_at hl 0 rfl) ?_
      refine x_l2i hx hb dX8_lowestBits_16 ?_
      refine x_eqi (fun z3 hz3 ez3 => ?_)
      refine x_i2l hx hb (by omega) dX8_lowestBits_17 ?_
      refine lv_goto (tgt := 22) hx hb dX8_lowestBits_18 (by decide) ?_
      rw [hQ9]
      refine ret_l (mc := 0) (ms := 0) hx hb hr hlocks hw hS (by first | exact Nat.le_of_ble_eq_true rfl | omega) (by first | exact Nat.le_of_ble_eq_true rfl | omega) dX8_lowestBits_22 ?_
      exact ⟨rfl, by omega, by first | (unfold cutZ; rw [if_pos (by omega)]; assumption) | (unfold cutZ; rw [if_neg (by omega), if_pos (by omega)]; assumption) | (unfold cutZ; rw [if_neg (by omega), if_neg (by omega)])⟩
  · refine lv_lload_n hx hb dX8_lowestBits_5 rfl (lv_at hl 0 rfl) ?_
    refine x_l2i hx hb dX8_lowestBits_6 ?_
    refine lv_i2b hx hb dX8_lowestBits_7 rfl ?_
    refine x_eqi (fun z4 hz4 ez4 => ?_)
    refine x_i2l hx hb (by omega) dX8_lowestBits_8 ?_
    rw [hQ9]
    refine ret_l (mc := 0) (ms := 0) hx hb hr hlocks hw hS (by first | exact Nat.le_of_ble_eq_true rfl | omega) (by first | exact Nat.le_of_ble_eq_true rfl | omega) dX8_lowestBits_9 ?_
    exact ⟨rfl, by omega, by first | (unfold cutZ; rw [if_pos (by omega)]; assumption) | (unfold cutZ; rw [if_neg (by omega), if_pos (by omega)]; assumption) | (unfold cutZ; rw [if_neg (by omega), if_neg (by omega)])⟩

set_option maxHeartbeats 4000000 in
set_option maxRecDepth 100000 in
theorem c_X8_shut (l : Launch) (D : va_G) (tc : Nat → ClassId) (base : Nat) (ad : Nat → Int → Nat) (cnt : Nat → Int) (X : Nat → Int → Int → Int) (Y : Nat → Int → Int → Option Int) (ln : Int → Int) (hR : Rng X) (hFx : Fx cnt) (hLn : LnOK ln) (hCI : CInv cnt X Y ln) (t k on : Int) (ht : -2147483648 ≤ t ∧ t ≤ 2147483647) (hk : -2147483648 ≤ k ∧ k ≤ 2147483647) (hon : 0 ≤ on ∧ on ≤ 1) : KI l D tc base yX8_shut wsX8_shut ({ frames := 2, cells := 0, slots := 0, locals := 42 } : Room) [.ref (ad 0 0), .int (jI t), .int (jI k), .int (jI on)] (ad, cnt, X, Y, ln) 0 0 (fun z u => ∃ (X1 : Nat → Int → Int → Int), u = (ad, cnt, X1, Y, ln) ∧ Rng X1 ∧ Frm [2300] X X1 ∧ CInv cnt X1 Y ln ∧ (-2147483648 ≤ z ∧ z ≤ 2147483647) ∧ ((0 ≤ t ∧ t < X 0 0 1 ∧ 0 ≤ k ∧ k < X 19 t 1 ∧ z = X 23 t k ∧ X1 23 t k = on) ∨ (¬ (0 ≤ t ∧ t < X 0 0 1 ∧ 0 ≤ k ∧ k < X 19 t 1) ∧ z = -1 ∧ X1 23 t k = X 23 t k)) ∧ ∀ y j, ¬ (y = t ∧ j = k) → X1 23 y j = X 23 y j) := by
  refine K_of (cc := cX8_shut) (maxL := 6) (ret := (some .int)) (by decide) rfl (Nat.le_of_ble_eq_true rfl) ?_
  intro p e s m below meth c ls hx hb hr hml hown hts hlocks hl hK hw hS
  have hown : s.vm.findClass RX8 = some m.cls := hown
  obtain ⟨av9, hav9⟩ : ∃ a9 : Array Value, a9 = ([.ref (ad 0 0), .int (jI t), .int (jI k), .int (jI on)] : List Value).toArray := ⟨_, rfl⟩
  rw [← hav9] at hts ⊢
  obtain ⟨Q9, hQ9⟩ : ∃ q9Q : State → Prop, q9Q = MQ below (QI D tc base (fun z u => ∃ (X1 : Nat → Int → Int → Int), u = (ad, cnt, X1, Y, ln) ∧ Rng X1 ∧ Frm [2300] X X1 ∧ CInv cnt X1 Y ln ∧ (-2147483648 ≤ z ∧ z ≤ 2147483647) ∧ ((0 ≤ t ∧ t < X 0 0 1 ∧ 0 ≤ k ∧ k < X 19 t 1 ∧ z = X 23 t k ∧ X1 23 t k = on) ∨ (¬ (0 ≤ t ∧ t < X 0 0 1 ∧ 0 ≤ k ∧ k < X 19 t 1) ∧ z = -1 ∧ X1 23 t k = X 23 t k)) ∧ ∀ y j, ¬ (y = t ∧ j = k) → X1 23 y j = X 23 y j)) av9 s 0 0 (frA base) := ⟨_, rfl⟩
  rw [← hQ9]
  have hi7 : ∀ w ∈ wsX70, w ∈ wsX8_shut := fun w h => List.mem_cons_of_mem _ (List.mem_append_left _ (List.mem_append_right _ h))
  have hf7 : fctx s m _ RX8 wsX8_shut D tc RX7 TX7 8 7 := ⟨hts, hi7, hown, hK.1, rfl⟩
  have lk112 := hts (.fieldLink RX8 112 (TX7 5).1 (TX7 5).2.1 (TX7 5).2.2.1) (gj_X8_shut_0 _ (gp_h))
  have hc0 : cnt 0 = 1 := hFx.at 0 1 (by decide)
  have hc23 : cnt 23 = cnt 19 := hFx.2.1 23 (by decide)
  have hl : lv_has ls 6 [(0, .ref (ad 0 0)), (1, .int (jI t)), (2, .int (jI k)), (3, .int (jI on))] := hl
  have ftc : 0 ≤ X 0 0 3 ∧ X 0 0 3 ≤ 30 := hR 0 0 3
  have fty : 0 ≤ X 0 0 1 ∧ X 0 0 1 ≤ 8 := hR 0 0 1
  have hct : cnt 19 = X 0 0 1 := hCI.2.2.2.1.1
  have hfj : 0 ≤ X 29 0 3 ∧ X 29 0 3 ≤ 4 := hR 29 0 3
  have hfn : 0 ≤ X 29 0 1 ∧ X 29 0 1 ≤ 80 := hR 29 0 1
  refine lv_aload_n hx hb dX8_shut_0 rfl (lv_at hl 0 rfl) ?_
  refine lv_iload_n hx hb dX8_shut_1 rfl (lv_at hl 1 rfl) ?_
  refine gos_r (run_V (As := [.int (jI t)]) (rest := []) hx hb hml hown hts (c_X8_typeNumbered l D tc base ad cnt X Y ln hR hFx hLn hCI t (by omega)) (cwV 1 hts gX8_shut_X8_typeNumbered rfl rfl rfl (by first | exact hd_X8_typeNumbered | decide +kernel) ⟨Nat.le_of_ble_eq_true rfl, Nat.le_of_ble_eq_true rfl⟩) hK hw (by first | exact Int.le_refl 0 | omega) (by first | exact zlt hc0 | omega) sl_0_0 rfl rfl hl.1 rfl (Nat.le_of_ble_eq_true rfl) dX8_shut_2 ⟨Nat.le_of_ble_eq_true rfl, Nat.le_of_ble_eq_true rfl⟩) hS (fun u2 H locs p3 hw hS => ?_) (fun z1 u2 H locs p3 hw hS => ?_)
  · obtain ⟨eu2, hsp3, hnp3⟩ := p3
    subst eu2
    refine lv_astoreN (lv' := [(4, .null), (0, .ref (ad 0 0)), (1, .int (jI t)), (2, .int (jI k)), (3, .int (jI on))]) hx hb dX8_shut_5 hl (by decide) rfl (fun ls hl => ?_)
    refine lv_aloadN hx hb dX8_shut_7 (lv_at hl 0 rfl) ?_
    refine lv_ifnullN (tgt := 21) hx hb dX8_shut_9 (by decide) ?_
    refine lv_iconst (v := jI (-1)) hx hb dX8_shut_21 rfl ?_
    rw [hQ9]
    refine ret_i (mc := 0) (ms := 0) hx hb hr hlocks hw hS (by first | exact Nat.le_of_ble_eq_true rfl | omega) (by first | exact Nat.le_of_ble_eq_true rfl | omega) dX8_shut_22 ?_
    exact ⟨X, rfl, hR, Frm.rf, hCI, by omega, (by have h9n : ¬ (0 ≤ t ∧ t < X 0 0 1) := hnp3 rfl; (try delta Hid at *); first | exact Or.inr ((⟨(fun q => by omega), by omega, by omega⟩)) | exact Or.inl ⟨by omega, by omega, by omega, by omega, by omega, by omega⟩ | omega), fun y j h => (by rfl)⟩
  · obtain ⟨eu2, hsp3, hnp3⟩ := p3
    subst eu2
    obtain ⟨ezz1, p3⟩ := hsp3 z1 rfl
    refine lv_astore (lv' := [(4, .ref (ad 19 z1)), (0, .ref (ad 0 0)), (1, .int (jI t)), (2, .int (jI k)), (3, .int (jI on))]) hx hb dX8_shut_5 hl (by decide) rfl (fun ls hl => ?_)
    refine lv_aload hx hb dX8_shut_7 (lv_at hl 0 rfl) ?_
    refine lv_ifnull hx hb dX8_shut_9 ?_
    refine lv_aload hx hb dX8_shut_12 (lv_at hl 0 rfl) ?_
    refine lv_iload_n hx hb dX8_shut_14 rfl (lv_at hl 3 rfl) ?_
    refine gos_i (run_V (As := [.int (jI k)]) (rest := []) hx hb hml hown hts (c_X7_hasField l D tc base ad cnt X Y ln hR hFx hLn z1 k (by omega) (by omega)) (cwV 1 hts gX8_shut_X7_hasField rfl rfl rfl (by first | exact hd_X7_hasField | decide +kernel) ⟨Nat.le_of_ble_eq_true rfl, Nat.le_of_ble_eq_true rfl⟩) hK hw (by first | exact Int.le_refl 0 | omega) (by first | exact zlt hc19 | omega) sl_19_0 rfl rfl hl.1 rfl (Nat.le_of_ble_eq_true rfl) dX8_shut_15 ⟨Nat.le_of_ble_eq_true rfl, Nat.le_of_ble_eq_true rfl⟩) hS (fun z4 u5 H locs p6 hw hS => ?_)
    obtain ⟨eu5, p6⟩ := p6
    subst eu5
    rcases p6 with ⟨ez4, p6⟩ | ⟨ez4, p6⟩
    · subst ez4
      refine x_if_neT (tgt := 23) hx hb (by omega) (by decide) dX8_shut_18 (by decide) ?_
      refine lv_aload hx hb dX8_shut_23 (lv_at hl 0 rfl) ?_
      refine x_geto hx hb hf7 hw (by omega) (by omega) sl_19_5 lk112 dX8_shut_25 ?_
      refine lv_iload_n hx hb dX8_shut_28 rfl (lv_at hl 3 rfl) ?_
      refine x_zald hx hb hK.1 hw (by omega) (by omega) ar_23 (len_E ar_23 (by first | exact Nat.ne_of_beq_eq_false rfl | decide)) (by omega) (by omega) (by omega) dX8_shut_29 ?_
      have f7 : 0 ≤ X 23 z1 k ∧ X 23 z1 k ≤ 1 := hR 23 z1 k
      refine x_if_eq (tgt := 37) hx hb (by omega) dX8_shut_30 (by decide) (fun c8 => ?_) (fun c8 => ?_)
      · refine lv_iconst (v := jI 0) hx hb dX8_shut_37 rfl ?_
        refine lv_istore (lv' := [(5, .int (jI 0)), (4, .ref (ad 19 z1)), (0, .ref (ad 0 0)), (1, .int (jI t)), (2, .int (jI k)), (3, .int (jI on))]) hx hb dX8_shut_38 hl (by decide) rfl (fun ls hl => ?_)
        refine lv_aload hx hb dX8_shut_40 (lv_at hl 1 rfl) ?_
        refine x_geto hx hb hf7 hw (by omega) (by omega) sl_19_5 lk112 dX8_shut_42 ?_
        refine lv_iload_n hx hb dX8_shut_45 rfl (lv_at hl 4 rfl) ?_
        refine lv_iload_n hx hb dX8_shut_46 rfl (lv_at hl 5 rfl) ?_
        refine x_zast hx hb hK.1 hw hS (by omega) (by omega) ar_23 (len_E ar_23 (by first | exact Nat.ne_of_beq_eq_false rfl | decide)) (by omega) (by omega) (by omega) (by omega) (by omega) dX8_shut_47 (fun H locs hw hS => ?_)
        obtain ⟨X9, hX9⟩ : ∃ Xq, Xq = u3 X 23 z1 k on := ⟨_, rfl⟩
        rw [← hX9] at hw
        have hRX9 : Rng X9 := by rw [hX9]; exact rng_set hR (show 0 ≤ on ∧ on ≤ 1 by omega)
        have hVX9 : X9 23 z1 k = on := by rw [hX9]; exact u3_s _ _ _ _ _
        have hFX9 : Frm [2300] X X9 := by rw [hX9]; exact Frm.set Frm.rf (show 2300 ∈ [2300] by first | exact nlm_in rfl | decide)
        refine lv_iload hx hb dX8_shut_48 (lv_at hl 0 rfl) ?_
        rw [hQ9]
        refine ret_i (mc := 0) (ms := 0) hx hb hr hlocks hw hS (by first | exact Nat.le_of_ble_eq_true rfl | omega) (by first | exact Nat.le_of_ble_eq_true rfl | omega) dX8_shut_50 ?_
        have q10 : Frm [2300] X X9 := by rw [hX9]; exact Frm.set Frm.rf (show 2300 ∈ [2300] by first | exact nlm_in rfl | decide)
        have hCq11 : CInv cnt X9 Y ln := cinv_frm (M := [2300]) (N := []) hCI q10 Frm.rf (by decide) (by decide)
        exact ⟨X9, rfl, hRX9, hFX9, hCq11, by omega, (by rw [← ezz1]; (try delta Hid at *); first | exact Or.inl ⟨by omega, by omega, by omega, by omega, by omega, by omega⟩ | omega), fun y j h => (by rw [hX9, u3_ij (by omega)])⟩
      · refine lv_iconst (v := jI 1) hx hb dX8_shut_33 rfl ?_
        refine lv_goto (tgt := 38) hx hb dX8_shut_34 (by decide) ?_
        refine lv_istore (lv' := [(5, .int (jI 1)), (4, .ref (ad 19 z1)), (0, .ref (ad 0 0)), (1, .int (jI t)), (2, .int (jI k)), (3, .int (jI on))]) hx hb dX8_shut_38 hl (by decide) rfl (fun ls hl => ?_)
        refine lv_aload hx hb dX8_shut_40 (lv_at hl 1 rfl) ?_
        refine x_geto hx hb hf7 hw (by omega) (by omega) sl_19_5 lk112 dX8_shut_42 ?_
        refine lv_iload_n hx hb dX8_shut_45 rfl (lv_at hl 4 rfl) ?_
        refine lv_iload_n hx hb dX8_shut_46 rfl (lv_at hl 5 rfl) ?_
        refine x_zast hx hb hK.1 hw hS (by omega) (by omega) ar_23 (len_E ar_23 (by first | exact Nat.ne_of_beq_eq_false rfl | decide)) (by omega) (by omega) (by omega) (by omega) (by omega) dX8_shut_47 (fun H locs hw hS => ?_)
        obtain ⟨X12, hX12⟩ : ∃ Xq, Xq = u3 X 23 z1 k on := ⟨_, rfl⟩
        rw [← hX12] at hw
        have hRX12 : Rng X12 := by rw [hX12]; exact rng_set hR (show 0 ≤ on ∧ on ≤ 1 by omega)
        have hVX12 : X12 23 z1 k = on := by rw [hX12]; exact u3_s _ _ _ _ _
        have hFX12 : Frm [2300] X X12 := by rw [hX12]; exact Frm.set Frm.rf (show 2300 ∈ [2300] by first | exact nlm_in rfl | decide)
        refine lv_iload hx hb dX8_shut_48 (lv_at hl 0 rfl) ?_
        rw [hQ9]
        refine ret_i (mc := 0) (ms := 0) hx hb hr hlocks hw hS (by first | exact Nat.le_of_ble_eq_true rfl | omega) (by first | exact Nat.le_of_ble_eq_true rfl | omega) dX8_shut_50 ?_
        have q13 : Frm [2300] X X12 := by rw [hX12]; exact Frm.set Frm.rf (show 2300 ∈ [2300] by first | exact nlm_in rfl | decide)
        have hCq14 : CInv cnt X12 Y ln := cinv_frm (M := [2300]) (N := []) hCI q13 Frm.rf (by decide) (by decide)
        exact ⟨X12, rfl, hRX12, hFX12, hCq14, by omega, (by rw [← ezz1]; (try delta Hid at *); first | exact Or.inl ⟨by omega, by omega, by omega, by omega, by omega, by omega⟩ | omega), fun y j h => (by rw [hX12, u3_ij (by omega)])⟩
    · subst ez4
      refine x_if_neF (tgt := 23) hx hb (by omega) (by decide) dX8_shut_18 (by decide) ?_
      refine lv_iconst (v := jI (-1)) hx hb dX8_shut_21 rfl ?_
      rw [hQ9]
      refine ret_i (mc := 0) (ms := 0) hx hb hr hlocks hw hS (by first | exact Nat.le_of_ble_eq_true rfl | omega) (by first | exact Nat.le_of_ble_eq_true rfl | omega) dX8_shut_22 ?_
      exact ⟨X, rfl, hR, Frm.rf, hCI, by omega, (by rw [← ezz1]; (try delta Hid at *); first | exact Or.inr ((⟨(fun q => by omega), by omega, by omega⟩)) | exact Or.inl ⟨by omega, by omega, by omega, by omega, by omega, by omega⟩ | omega), fun y j h => (by rfl)⟩

set_option maxHeartbeats 4000000 in
set_option maxRecDepth 100000 in
theorem c_X8_unchecked (l : Launch) (D : va_G) (tc : Nat → ClassId) (base : Nat) (ad : Nat → Int → Nat) (cnt : Nat → Int) (X : Nat → Int → Int → Int) (Y : Nat → Int → Int → Option Int) (ln : Int → Int) (hR : Rng X) (hFx : Fx cnt) (hLn : LnOK ln) (hCI : CInv cnt X Y ln) (t : Int) (ht : -2147483648 ≤ t ∧ t ≤ 2147483647) : KI l D tc base yX8_unchecked wsX8_unchecked ({ frames := 2, cells := 0, slots := 0, locals := 42 } : Room) [.ref (ad 0 0), .int (jI t)] (ad, cnt, X, Y, ln) 0 0 (fun z u => ∃ (X1 : Nat → Int → Int → Int), u = (ad, cnt, X1, Y, ln) ∧ Rng X1 ∧ Frm [1907] X X1 ∧ CInv cnt X1 Y ln ∧ (-2147483648 ≤ z ∧ z ≤ 2147483647) ∧ ((0 ≤ t ∧ t < X 0 0 1 ∧ z = X 19 t 6 ∧ X1 19 t 6 = 0) ∨ (¬ (0 ≤ t ∧ t < X 0 0 1) ∧ z = -1 ∧ X1 19 t 6 = X 19 t 6)) ∧ ∀ y, y ≠ t → X1 19 y 6 = X 19 y 6) := by
  refine K_of (cc := cX8_unchecked) (maxL := 4) (ret := (some .int)) (by decide) rfl (Nat.le_of_ble_eq_true rfl) ?_
  intro p e s m below meth c ls hx hb hr hml hown hts hlocks hl hK hw hS
  have hown : s.vm.findClass RX8 = some m.cls := hown
  obtain ⟨av9, hav9⟩ : ∃ a9 : Array Value, a9 = ([.ref (ad 0 0), .int (jI t)] : List Value).toArray := ⟨_, rfl⟩
  rw [← hav9] at hts ⊢
  obtain ⟨Q9, hQ9⟩ : ∃ q9Q : State → Prop, q9Q = MQ below (QI D tc base (fun z u => ∃ (X1 : Nat → Int → Int → Int), u = (ad, cnt, X1, Y, ln) ∧ Rng X1 ∧ Frm [1907] X X1 ∧ CInv cnt X1 Y ln ∧ (-2147483648 ≤ z ∧ z ≤ 2147483647) ∧ ((0 ≤ t ∧ t < X 0 0 1 ∧ z = X 19 t 6 ∧ X1 19 t 6 = 0) ∨ (¬ (0 ≤ t ∧ t < X 0 0 1) ∧ z = -1 ∧ X1 19 t 6 = X 19 t 6)) ∧ ∀ y, y ≠ t → X1 19 y 6 = X 19 y 6)) av9 s 0 0 (frA base) := ⟨_, rfl⟩
  rw [← hQ9]
  have hi7 : ∀ w ∈ wsX70, w ∈ wsX8_unchecked := fun w h => List.mem_cons_of_mem _ (List.mem_append_left _ (List.mem_append_right _ h))
  have hf7 : fctx s m _ RX8 wsX8_unchecked D tc RX7 TX7 8 7 := ⟨hts, hi7, hown, hK.1, rfl⟩
  have lk115 := hts (.fieldLink RX8 115 (TX7 6).1 (TX7 6).2.1 (TX7 6).2.2.1) (gj_X8_unchecked_0 _ (gp_h))
  have hc0 : cnt 0 = 1 := hFx.at 0 1 (by decide)
  have hl : lv_has ls 4 [(0, .ref (ad 0 0)), (1, .int (jI t))] := hl
  have ftc : 0 ≤ X 0 0 3 ∧ X 0 0 3 ≤ 30 := hR 0 0 3
  have fty : 0 ≤ X 0 0 1 ∧ X 0 0 1 ≤ 8 := hR 0 0 1
  have hct : cnt 19 = X 0 0 1 := hCI.2.2.2.1.1
  have hfj : 0 ≤ X 29 0 3 ∧ X 29 0 3 ≤ 4 := hR 29 0 3
  have hfn : 0 ≤ X 29 0 1 ∧ X 29 0 1 ≤ 80 := hR 29 0 1
  refine lv_aload_n hx hb dX8_unchecked_0 rfl (lv_at hl 0 rfl) ?_
  refine lv_iload_n hx hb dX8_unchecked_1 rfl (lv_at hl 1 rfl) ?_
  refine gos_r (run_V (As := [.int (jI t)]) (rest := []) hx hb hml hown hts (c_X8_typeNumbered l D tc base ad cnt X Y ln hR hFx hLn hCI t (by omega)) (cwV 1 hts gX8_unchecked_X8_typeNumbered rfl rfl rfl (by first | exact hd_X8_typeNumbered | decide +kernel) ⟨Nat.le_of_ble_eq_true rfl, Nat.le_of_ble_eq_true rfl⟩) hK hw (by first | exact Int.le_refl 0 | omega) (by first | exact zlt hc0 | omega) sl_0_0 rfl rfl hl.1 rfl (Nat.le_of_ble_eq_true rfl) dX8_unchecked_2 ⟨Nat.le_of_ble_eq_true rfl, Nat.le_of_ble_eq_true rfl⟩) hS (fun u2 H locs p3 hw hS => ?_) (fun z1 u2 H locs p3 hw hS => ?_)
  · obtain ⟨eu2, hsp3, hnp3⟩ := p3
    subst eu2
    refine lv_astore_nN (lv' := [(2, .null), (0, .ref (ad 0 0)), (1, .int (jI t))]) hx hb dX8_unchecked_5 rfl hl (by decide) rfl (fun ls hl => ?_)
    refine lv_aload_nN hx hb dX8_unchecked_6 rfl (lv_at hl 0 rfl) ?_
    refine lv_ifnonnullN hx hb dX8_unchecked_7 ?_
    refine lv_iconst (v := jI (-1)) hx hb dX8_unchecked_10 rfl ?_
    rw [hQ9]
    refine ret_i (mc := 0) (ms := 0) hx hb hr hlocks hw hS (by first | exact Nat.le_of_ble_eq_true rfl | omega) (by first | exact Nat.le_of_ble_eq_true rfl | omega) dX8_unchecked_11 ?_
    exact ⟨X, rfl, hR, Frm.rf, hCI, by omega, (by have h9n : ¬ (0 ≤ t ∧ t < X 0 0 1) := hnp3 rfl; (try delta Hid at *); first | exact Or.inr ((⟨(fun q => by omega), by omega, by omega⟩)) | exact Or.inl ⟨by omega, by omega, by omega, by omega⟩ | omega), fun y hy => (by rfl)⟩
  · obtain ⟨eu2, hsp3, hnp3⟩ := p3
    subst eu2
    obtain ⟨ezz1, p3⟩ := hsp3 z1 rfl
    refine lv_astore_n (lv' := [(2, .ref (ad 19 z1)), (0, .ref (ad 0 0)), (1, .int (jI t))]) hx hb dX8_unchecked_5 rfl hl (by decide) rfl (fun ls hl => ?_)
    refine lv_aload_n hx hb dX8_unchecked_6 rfl (lv_at hl 0 rfl) ?_
    refine lv_ifnonnull (tgt := 12) hx hb dX8_unchecked_7 (by decide) ?_
    refine lv_aload_n hx hb dX8_unchecked_12 rfl (lv_at hl 0 rfl) ?_
    refine x_geti (jz := 6) hx hb hf7 hw (by omega) (by omega) sl_19_6 rfl lk115 dX8_unchecked_13 ?_
    have f4 : 0 ≤ X 19 z1 6 ∧ X 19 z1 6 ≤ 4 := hR 19 z1 6
    refine lv_istore_n (lv' := [(3, .int (jI (X 19 z1 6))), (2, .ref (ad 19 z1)), (0, .ref (ad 0 0)), (1, .int (jI t))]) hx hb dX8_unchecked_16 rfl hl (by decide) rfl (fun ls hl => ?_)
    refine lv_aload_n hx hb dX8_unchecked_17 rfl (lv_at hl 1 rfl) ?_
    refine lv_iconst (v := jI 0) hx hb dX8_unchecked_18 rfl ?_
    refine x_puti (jz := 6) hx hb hf7 ⟨tyX7_ok, nmX7⟩ hw hS (by omega) (by omega) sl_19_6 rfl lk115 rfl (tyX7_ok 6 (by decide)) rfl rfl dX8_unchecked_19 (fun H locs hw hS => ?_)
    obtain ⟨X5, hX5⟩ : ∃ Xq, Xq = u3 X 19 z1 6 0 := ⟨_, rfl⟩
    rw [← hX5] at hw
    have hRX5 : Rng X5 := by rw [hX5]; exact rng_set hR (show 0 ≤ 0 ∧ 0 ≤ 4 by omega)
    have hVX5 : X5 19 z1 6 = 0 := by rw [hX5]; exact u3_s _ _ _ _ _
    have hFX5 : Frm [1907] X X5 := by rw [hX5]; exact Frm.set Frm.rf (show 1907 ∈ [1907] by first | exact nlm_in rfl | decide)
    refine lv_iload_n hx hb dX8_unchecked_22 rfl (lv_at hl 0 rfl) ?_
    rw [hQ9]
    refine ret_i (mc := 0) (ms := 0) hx hb hr hlocks hw hS (by first | exact Nat.le_of_ble_eq_true rfl | omega) (by first | exact Nat.le_of_ble_eq_true rfl | omega) dX8_unchecked_23 ?_
    have q6 : Frm [1907] X X5 := by rw [hX5]; exact Frm.set Frm.rf (show 1907 ∈ [1907] by first | exact nlm_in rfl | decide)
    exact ⟨X5, rfl, hRX5, hFX5, cinv_checks (q := z1) hCI q6 Frm.rf (fun i hi => (by rw [hX5, u3_ij (by omega)])) (fun i j _ => rfl) (fun j a b c => by rw [hVX5] at b; omega), by omega, (by rw [← ezz1]; (try delta Hid at *); first | exact Or.inl ⟨by omega, by omega, by omega, by omega⟩ | omega), fun y hy => (by rw [hX5, u3_ij (by omega)])⟩

set_option maxHeartbeats 4000000 in
set_option maxRecDepth 100000 in
theorem c_X8_word (l : Launch) (D : va_G) (tc : Nat → ClassId) (base : Nat) (ad : Nat → Int → Nat) (cnt : Nat → Int) (X : Nat → Int → Int → Int) (Y : Nat → Int → Int → Option Int) (ln : Int → Int) (hR : Rng X) (hFx : Fx cnt) (hLn : LnOK ln) (hCI : CInv cnt X Y ln) (w on : Int) (hw : -2147483648 ≤ w ∧ w ≤ 2147483647) (hon : 0 ≤ on ∧ on ≤ 1) : KI l D tc base yX8_word wsX8_word ({ frames := 1, cells := 0, slots := 0, locals := 21 } : Room) [.ref (ad 0 0), .int (jI w), .int (jI on)] (ad, cnt, X, Y, ln) 0 0 (fun z u => ∃ (X1 : Nat → Int → Int → Int), u = (ad, cnt, X1, Y, ln) ∧ Rng X1 ∧ Frm [300] X X1 ∧ CInv cnt X1 Y ln ∧ (-2147483648 ≤ z ∧ z ≤ 2147483647) ∧ ((0 ≤ w ∧ w < 16 ∧ z = X 3 0 w ∧ X1 3 0 w = on) ∨ (¬ (0 ≤ w ∧ w < 16) ∧ z = -1 ∧ X1 3 0 w = X 3 0 w)) ∧ ∀ y, y ≠ w → X1 3 0 y = X 3 0 y) := by
  refine K_of (cc := cX8_word) (maxL := 4) (ret := (some .int)) (by decide) rfl (Nat.le_of_ble_eq_true rfl) ?_
  intro p e s m below meth c ls hx hb hr hml hown hts hlocks hl hK hw hS
  have hown : s.vm.findClass RX8 = some m.cls := hown
  obtain ⟨av9, hav9⟩ : ∃ a9 : Array Value, a9 = ([.ref (ad 0 0), .int (jI w), .int (jI on)] : List Value).toArray := ⟨_, rfl⟩
  rw [← hav9] at hts ⊢
  obtain ⟨Q9, hQ9⟩ : ∃ q9Q : State → Prop, q9Q = MQ below (QI D tc base (fun z u => ∃ (X1 : Nat → Int → Int → Int), u = (ad, cnt, X1, Y, ln) ∧ Rng X1 ∧ Frm [300] X X1 ∧ CInv cnt X1 Y ln ∧ (-2147483648 ≤ z ∧ z ≤ 2147483647) ∧ ((0 ≤ w ∧ w < 16 ∧ z = X 3 0 w ∧ X1 3 0 w = on) ∨ (¬ (0 ≤ w ∧ w < 16) ∧ z = -1 ∧ X1 3 0 w = X 3 0 w)) ∧ ∀ y, y ≠ w → X1 3 0 y = X 3 0 y)) av9 s 0 0 (frA base) := ⟨_, rfl⟩
  rw [← hQ9]
  have hi8 : ∀ w ∈ wsX80, w ∈ wsX8_word := fun w h => List.mem_cons_of_mem _ (List.mem_append_right _ h)
  have hf8 : fctx s m _ RX8 wsX8_word D tc RX8 TX8 12 8 := ⟨hts, hi8, hown, hK.1, rfl⟩
  have lk21 := hts (.fieldLink RX8 21 (TX8 4).1 (TX8 4).2.1 (TX8 4).2.2.1) (gj_X8_word_0 _ (gp_h))
  have hc0 : cnt 0 = 1 := hFx.at 0 1 (by decide)
  have hc3 : cnt 3 = 1 := hFx.at 3 1 (by decide)
  have hl : lv_has ls 4 [(0, .ref (ad 0 0)), (1, .int (jI w)), (2, .int (jI on))] := hl
  have ftc : 0 ≤ X 0 0 3 ∧ X 0 0 3 ≤ 30 := hR 0 0 3
  have fty : 0 ≤ X 0 0 1 ∧ X 0 0 1 ≤ 8 := hR 0 0 1
  have hct : cnt 19 = X 0 0 1 := hCI.2.2.2.1.1
  have hfj : 0 ≤ X 29 0 3 ∧ X 29 0 3 ≤ 4 := hR 29 0 3
  have hfn : 0 ≤ X 29 0 1 ∧ X 29 0 1 ≤ 80 := hR 29 0 1
  refine lv_iload_n hx hb dX8_word_0 rfl (lv_at hl 1 rfl) ?_
  refine lv_bipush (v := jI 16) hx hb dX8_word_1 (by decide) ?_
  refine gos_i (run_S (As := [.int (jI w), .int (jI 16)]) (rest := []) hx hb hml hown hts (c_X8_isBelow l D tc base ad cnt X Y ln w 16 (by omega) (by omega)) (cwS 2 hts gX8_word_X8_isBelow rfl rfl rfl (by first | exact hd_X8_isBelow | decide +kernel) ⟨Nat.le_of_ble_eq_true rfl, Nat.le_of_ble_eq_true rfl⟩) hK hw rfl hl.1 rfl (Nat.le_of_ble_eq_true rfl) dX8_word_3 ⟨Nat.le_of_ble_eq_true rfl, Nat.le_of_ble_eq_true rfl⟩) hS (fun z1 u2 H locs p3 hw hS => ?_)
  obtain ⟨eu2, p3⟩ := p3
  subst eu2
  rcases p3 with ⟨ez1, p3⟩ | ⟨ez1, p3⟩
  · subst ez1
    refine x_if_neT (tgt := 11) hx hb (by omega) (by decide) dX8_word_6 (by decide) ?_
    refine lv_aload_n hx hb dX8_word_11 rfl (lv_at hl 0 rfl) ?_
    refine x_geto hx hb hf8 hw (by first | exact Int.le_refl 0 | omega) (by first | exact zlt hc0 | omega) sl_0_4 lk21 dX8_word_12 ?_
    refine lv_iload_n hx hb dX8_word_15 rfl (lv_at hl 1 rfl) ?_
    refine x_zald hx hb hK.1 hw (by first | exact Int.le_refl 0 | omega) (by first | exact zlt hc3 | omega) ar_3 (len_E ar_3 (by first | exact Nat.ne_of_beq_eq_false rfl | decide)) (by omega) (by omega) (by omega) dX8_word_16 ?_
    have f4 : 0 ≤ X 3 0 w ∧ X 3 0 w ≤ 1 := hR 3 0 w
    refine x_if_eq (tgt := 24) hx hb (by omega) dX8_word_17 (by decide) (fun c5 => ?_) (fun c5 => ?_)
    · refine lv_iconst (v := jI 0) hx hb dX8_word_24 rfl ?_
      refine lv_istore_n (lv' := [(3, .int (jI 0)), (0, .ref (ad 0 0)), (1, .int (jI w)), (2, .int (jI on))]) hx hb dX8_word_25 rfl hl (by decide) rfl (fun ls hl => ?_)
      refine lv_aload_n hx hb dX8_word_26 rfl (lv_at hl 1 rfl) ?_
      refine x_geto hx hb hf8 hw (by first | exact Int.le_refl 0 | omega) (by first | exact zlt hc0 | omega) sl_0_4 lk21 dX8_word_27 ?_
      refine lv_iload_n hx hb dX8_word_30 rfl (lv_at hl 2 rfl) ?_
      refine lv_iload_n hx hb dX8_word_31 rfl (lv_at hl 3 rfl) ?_
      refine x_zast hx hb hK.1 hw hS (by first | exact Int.le_refl 0 | omega) (by first | exact zlt hc3 | omega) ar_3 (len_E ar_3 (by first | exact Nat.ne_of_beq_eq_false rfl | decide)) (by omega) (by omega) (by omega) (by omega) (by omega) dX8_word_32 (fun H locs hw hS => ?_)
      obtain ⟨X6, hX6⟩ : ∃ Xq, Xq = u3 X 3 0 w on := ⟨_, rfl⟩
      rw [← hX6] at hw
      have hRX6 : Rng X6 := by rw [hX6]; exact rng_set hR (show 0 ≤ on ∧ on ≤ 1 by omega)
      have hVX6 : X6 3 0 w = on := by rw [hX6]; exact u3_s _ _ _ _ _
      have hFX6 : Frm [300] X X6 := by rw [hX6]; exact Frm.set Frm.rf (show 300 ∈ [300] by first | exact nlm_in rfl | decide)
      refine lv_iload_n hx hb dX8_word_33 rfl (lv_at hl 0 rfl) ?_
      rw [hQ9]
      refine ret_i (mc := 0) (ms := 0) hx hb hr hlocks hw hS (by first | exact Nat.le_of_ble_eq_true rfl | omega) (by first | exact Nat.le_of_ble_eq_true rfl | omega) dX8_word_34 ?_
      have q7 : Frm [300] X X6 := by rw [hX6]; exact Frm.set Frm.rf (show 300 ∈ [300] by first | exact nlm_in rfl | decide)
      have hCq8 : CInv cnt X6 Y ln := cinv_frm (M := [300]) (N := []) hCI q7 Frm.rf (by decide) (by decide)
      exact ⟨X6, rfl, hRX6, hFX6, hCq8, by omega, (by (try delta Hid at *); first | exact Or.inl ⟨by omega, by omega, by omega, by omega⟩ | omega), fun y hy => (by rw [hX6, u3_ij (by omega)])⟩
    · refine lv_iconst (v := jI 1) hx hb dX8_word_20 rfl ?_
      refine lv_goto (tgt := 25) hx hb dX8_word_21 (by decide) ?_
      refine lv_istore_n (lv' := [(3, .int (jI 1)), (0, .ref (ad 0 0)), (1, .int (jI w)), (2, .int (jI on))]) hx hb dX8_word_25 rfl hl (by decide) rfl (fun ls hl => ?_)
      refine lv_aload_n hx hb dX8_word_26 rfl (lv_at hl 1 rfl) ?_
      refine x_geto hx hb hf8 hw (by first | exact Int.le_refl 0 | omega) (by first | exact zlt hc0 | omega) sl_0_4 lk21 dX8_word_27 ?_
      refine lv_iload_n hx hb dX8_word_30 rfl (lv_at hl 2 rfl) ?_
      refine lv_iload_n hx hb dX8_word_31 rfl (lv_at hl 3 rfl) ?_
      refine x_zast hx hb hK.1 hw hS (by first | exact Int.le_refl 0 | omega) (by first | exact zlt hc3 | omega) ar_3 (len_E ar_3 (by first | exact Nat.ne_of_beq_eq_false rfl | decide)) (by omega) (by omega) (by omega) (by omega) (by omega) dX8_word_32 (fun H locs hw hS => ?_)
      obtain ⟨X9, hX9⟩ : ∃ Xq, Xq = u3 X 3 0 w on := ⟨_, rfl⟩
      rw [← hX9] at hw
      have hRX9 : Rng X9 := by rw [hX9]; exact rng_set hR (show 0 ≤ on ∧ on ≤ 1 by omega)
      have hVX9 : X9 3 0 w = on := by rw [hX9]; exact u3_s _ _ _ _ _
      have hFX9 : Frm [300] X X9 := by rw [hX9]; exact Frm.set Frm.rf (show 300 ∈ [300] by first | exact nlm_in rfl | decide)
      refine lv_iload_n hx hb dX8_word_33 rfl (lv_at hl 0 rfl) ?_
      rw [hQ9]
      refine ret_i (mc := 0) (ms := 0) hx hb hr hlocks hw hS (by first | exact Nat.le_of_ble_eq_true rfl | omega) (by first | exact Nat.le_of_ble_eq_true rfl | omega) dX8_word_34 ?_
      have q10 : Frm [300] X X9 := by rw [hX9]; exact Frm.set Frm.rf (show 300 ∈ [300] by first | exact nlm_in rfl | decide)
      have hCq11 : CInv cnt X9 Y ln := cinv_frm (M := [300]) (N := []) hCI q10 Frm.rf (by decide) (by decide)
      exact ⟨X9, rfl, hRX9, hFX9, hCq11, by omega, (by (try delta Hid at *); first | exact Or.inl ⟨by omega, by omega, by omega, by omega⟩ | omega), fun y hy => (by rw [hX9, u3_ij (by omega)])⟩
  · subst ez1
    refine x_if_neF (tgt := 11) hx hb (by omega) (by decide) dX8_word_6 (by decide) ?_
    refine lv_iconst (v := jI (-1)) hx hb dX8_word_9 rfl ?_
    rw [hQ9]
    refine ret_i (mc := 0) (ms := 0) hx hb hr hlocks hw hS (by first | exact Nat.le_of_ble_eq_true rfl | omega) (by first | exact Nat.le_of_ble_eq_true rfl | omega) dX8_word_10 ?_
    exact ⟨X, rfl, hR, Frm.rf, hCI, by omega, (by (try delta Hid at *); first | exact Or.inr ((⟨(fun q => by omega), by omega, by omega⟩)) | exact Or.inl ⟨by omega, by omega, by omega, by omega⟩ | omega), fun y hy => (by rfl)⟩

set_option maxHeartbeats 4000000 in
set_option maxRecDepth 100000 in
theorem c_X8_thing (l : Launch) (D : va_G) (tc : Nat → ClassId) (base : Nat) (ad : Nat → Int → Nat) (cnt : Nat → Int) (X : Nat → Int → Int → Int) (Y : Nat → Int → Int → Option Int) (ln : Int → Int) (hR : Rng X) (hFx : Fx cnt) (hLn : LnOK ln) (hCI : CInv cnt X Y ln) (t : Int) (ht : -2147483648 ≤ t ∧ t ≤ 2147483647) : KI l D tc base yX8_thing wsX8_thing ({ frames := 2, cells := 0, slots := 0, locals := 43 } : Room) [.ref (ad 0 0), .int (jI t)] (ad, cnt, X, Y, ln) 0 0 (fun z u => ∃ (X1 : Nat → Int → Int → Int) (Y1 : Nat → Int → Int → Option Int), u = (ad, cnt, X1, Y1, ln) ∧ Rng X1 ∧ Frm [4, 1600] X X1 ∧ Frm [1501, 1700] Y Y1 ∧ CInv cnt X1 Y1 ln ∧ (-2147483648 ≤ z ∧ z ≤ 2147483647) ∧ ((¬ (0 ≤ t ∧ t < X 0 0 1) ∧ z = -1) ∨ ((0 ≤ t ∧ t < X 0 0 1) ∧ 30 ≤ X 0 0 3 ∧ z = -4) ∨ ((0 ≤ t ∧ t < X 0 0 1) ∧ X 0 0 3 < 30 ∧ z = X 0 0 3)) ∧ (z < 0 → X1 = X ∧ Y1 = Y) ∧ (0 ≤ z → X1 0 0 3 = X 0 0 3 + 1 ∧ Y1 15 (X 0 0 3) 0 = some t ∧ (∀ y, y ≠ X 0 0 3 → Y1 15 y 0 = Y 15 y 0) ∧ (∀ j, 0 ≤ j → j < X 19 t 1 → X1 16 (X 0 0 3) j = X 22 t j ∧ Y1 17 (X 0 0 3) j = none) ∧ ∀ y j, y ≠ X 0 0 3 → X1 16 y j = X 16 y j ∧ Y1 17 y j = Y 17 y j)) := by
  refine K_of (cc := cX8_thing) (maxL := 3) (ret := (some .int)) (by decide) rfl (Nat.le_of_ble_eq_true rfl) ?_
  intro p e s m below meth c ls hx hb hr hml hown hts hlocks hl hK hw hS
  have hown : s.vm.findClass RX8 = some m.cls := hown
  obtain ⟨av9, hav9⟩ : ∃ a9 : Array Value, a9 = ([.ref (ad 0 0), .int (jI t)] : List Value).toArray := ⟨_, rfl⟩
  rw [← hav9] at hts ⊢
  obtain ⟨Q9, hQ9⟩ : ∃ q9Q : State → Prop, q9Q = MQ below (QI D tc base (fun z u => ∃ (X1 : Nat → Int → Int → Int) (Y1 : Nat → Int → Int → Option Int), u = (ad, cnt, X1, Y1, ln) ∧ Rng X1 ∧ Frm [4, 1600] X X1 ∧ Frm [1501, 1700] Y Y1 ∧ CInv cnt X1 Y1 ln ∧ (-2147483648 ≤ z ∧ z ≤ 2147483647) ∧ ((¬ (0 ≤ t ∧ t < X 0 0 1) ∧ z = -1) ∨ ((0 ≤ t ∧ t < X 0 0 1) ∧ 30 ≤ X 0 0 3 ∧ z = -4) ∨ ((0 ≤ t ∧ t < X 0 0 1) ∧ X 0 0 3 < 30 ∧ z = X 0 0 3)) ∧ (z < 0 → X1 = X ∧ Y1 = Y) ∧ (0 ≤ z → X1 0 0 3 = X 0 0 3 + 1 ∧ Y1 15 (X 0 0 3) 0 = some t ∧ (∀ y, y ≠ X 0 0 3 → Y1 15 y 0 = Y 15 y 0) ∧ (∀ j, 0 ≤ j → j < X 19 t 1 → X1 16 (X 0 0 3) j = X 22 t j ∧ Y1 17 (X 0 0 3) j = none) ∧ ∀ y j, y ≠ X 0 0 3 → X1 16 y j = X 16 y j ∧ Y1 17 y j = Y 17 y j))) av9 s 0 0 (frA base) := ⟨_, rfl⟩
  rw [← hQ9]
  have hi8 : ∀ w ∈ wsX80, w ∈ wsX8_thing := fun w h => List.mem_cons_of_mem _ (List.mem_append_left _ (List.mem_append_left _ (List.mem_append_right _ h)))
  have hf8 : fctx s m _ RX8 wsX8_thing D tc RX8 TX8 12 8 := ⟨hts, hi8, hown, hK.1, rfl⟩
  have lk17 := hts (.fieldLink RX8 17 (TX8 2).1 (TX8 2).2.1 (TX8 2).2.2.1) (gj_X8_thing_0 _ (gp_1 gp_h))
  have lk94 := hts (.fieldLink RX8 94 (TX8 3).1 (TX8 3).2.1 (TX8 3).2.2.1) (gj_X8_thing_0 _ (gp_h))
  have hc0 : cnt 0 = 1 := hFx.at 0 1 (by decide)
  have hc2 : cnt 2 = 1 := hFx.at 2 1 (by decide)
  have hc15 : cnt 15 = 30 := hFx.at 15 30 (by decide)
  have hl : lv_has ls 3 [(0, .ref (ad 0 0)), (1, .int (jI t))] := hl
  have ftc : 0 ≤ X 0 0 3 ∧ X 0 0 3 ≤ 30 := hR 0 0 3
  have fty : 0 ≤ X 0 0 1 ∧ X 0 0 1 ≤ 8 := hR 0 0 1
  have hct : cnt 19 = X 0 0 1 := hCI.2.2.2.1.1
  have hfj : 0 ≤ X 29 0 3 ∧ X 29 0 3 ≤ 4 := hR 29 0 3
  have hfn : 0 ≤ X 29 0 1 ∧ X 29 0 1 ≤ 80 := hR 29 0 1
  refine lv_aload_n hx hb dX8_thing_0 rfl (lv_at hl 0 rfl) ?_
  refine lv_iload_n hx hb dX8_thing_1 rfl (lv_at hl 1 rfl) ?_
  refine gos_r (run_V (As := [.int (jI t)]) (rest := []) hx hb hml hown hts (c_X8_typeNumbered l D tc base ad cnt X Y ln hR hFx hLn hCI t (by omega)) (cwV 1 hts gX8_thing_X8_typeNumbered rfl rfl rfl (by first | exact hd_X8_typeNumbered | decide +kernel) ⟨Nat.le_of_ble_eq_true rfl, Nat.le_of_ble_eq_true rfl⟩) hK hw (by first | exact Int.le_refl 0 | omega) (by first | exact zlt hc0 | omega) sl_0_0 rfl rfl hl.1 rfl (Nat.le_of_ble_eq_true rfl) dX8_thing_2 ⟨Nat.le_of_ble_eq_true rfl, Nat.le_of_ble_eq_true rfl⟩) hS (fun u2 H locs p3 hw hS => ?_) (fun z1 u2 H locs p3 hw hS => ?_)
  · obtain ⟨eu2, hsp3, hnp3⟩ := p3
    subst eu2
    refine lv_astore_nN (lv' := [(2, .null), (0, .ref (ad 0 0)), (1, .int (jI t))]) hx hb dX8_thing_5 rfl hl (by decide) rfl (fun ls hl => ?_)
    refine lv_aload_nN hx hb dX8_thing_6 rfl (lv_at hl 0 rfl) ?_
    refine lv_ifnonnullN hx hb dX8_thing_7 ?_
    refine lv_iconst (v := jI (-1)) hx hb dX8_thing_10 rfl ?_
    rw [hQ9]
    refine ret_i (mc := 0) (ms := 0) hx hb hr hlocks hw hS (by first | exact Nat.le_of_ble_eq_true rfl | omega) (by first | exact Nat.le_of_ble_eq_true rfl | omega) dX8_thing_11 ?_
    exact ⟨X, Y, rfl, hR, Frm.rf, Frm.rf, hCI, by omega, (by have h9n : ¬ (0 ≤ t ∧ t < X 0 0 1) := hnp3 rfl; exact Or.inl ⟨h9n, by omega⟩), fun _ => ⟨rfl, rfl⟩, fun q => (by exfalso; omega)⟩
  · obtain ⟨eu2, hsp3, hnp3⟩ := p3
    subst eu2
    obtain ⟨ezz1, p3⟩ := hsp3 z1 rfl
    refine lv_astore_n (lv' := [(2, .ref (ad 19 z1)), (0, .ref (ad 0 0)), (1, .int (jI t))]) hx hb dX8_thing_5 rfl hl (by decide) rfl (fun ls hl => ?_)
    refine lv_aload_n hx hb dX8_thing_6 rfl (lv_at hl 0 rfl) ?_
    refine lv_ifnonnull (tgt := 12) hx hb dX8_thing_7 (by decide) ?_
    refine lv_aload_n hx hb dX8_thing_12 rfl (lv_at hl 1 rfl) ?_
    refine x_geti (jz := 3) hx hb hf8 hw (by first | exact Int.le_refl 0 | omega) (by first | exact zlt hc0 | omega) sl_0_3 rfl lk94 dX8_thing_13 ?_
    have f4 : 0 ≤ X 0 0 3 ∧ X 0 0 3 ≤ 30 := hR 0 0 3
    refine lv_bipush (v := jI 30) hx hb dX8_thing_16 (by decide) ?_
    refine x_icmp_lt (tgt := 24) hx hb (by omega) (by omega) dX8_thing_18 (by decide) (fun c5 => ?_) (fun c5 => ?_)
    · refine lv_aload_n hx hb dX8_thing_24 rfl (lv_at hl 1 rfl) ?_
      refine x_geto hx hb hf8 hw (by first | exact Int.le_refl 0 | omega) (by first | exact zlt hc0 | omega) sl_0_2 lk17 dX8_thing_25 ?_
      refine lv_aload_n hx hb dX8_thing_28 rfl (lv_at hl 1 rfl) ?_
      refine x_geti (jz := 3) hx hb hf8 hw (by first | exact Int.le_refl 0 | omega) (by first | exact zlt hc0 | omega) sl_0_3 rfl lk94 dX8_thing_29 ?_
      have f6 : 0 ≤ X 0 0 3 ∧ X 0 0 3 ≤ 30 := hR 0 0 3
      refine x_aald hx hb hK.1 hw (by first | exact Int.le_refl 0 | omega) (by first | exact zlt hc2 | omega) ar_2 rfl (len_E ar_2 (by first | exact Nat.ne_of_beq_eq_false rfl | decide)) (by omega) (by omega) (by omega) dX8_thing_32 (fun y7 => ?_) (fun r8 y7 gr8 lr8 => ?_)
      · exfalso
        have h9 := hCI.1 (X 0 0 3) (by omega) (by omega); rw [h9] at y7; cases y7
      · have er8 : r8 = (X 0 0 3) := by have h9 := hCI.1 (X 0 0 3) (by omega) (by omega); rw [h9] at y7; cases y7; rfl
        rw [er8]
        refine lv_aload_n hx hb dX8_thing_33 rfl (lv_at hl 0 rfl) ?_
        refine gos_v (run_V (As := [.ref (ad 19 z1)]) (rest := []) hx hb hml hown hts (c_X6_become l D tc base ad cnt X Y ln hR hFx hLn hCI (X 0 0 3) z1 (by omega) (by omega)) (cwV 1 hts gX8_thing_X6_become rfl rfl rfl (by first | exact hd_X6_become | decide +kernel) ⟨Nat.le_of_ble_eq_true rfl, Nat.le_of_ble_eq_true rfl⟩) hK hw (by first | exact Int.le_refl 0 | omega) (by first | exact zlt hc15 | omega) sl_15_0 rfl rfl hl.1 rfl (Nat.le_of_ble_eq_true rfl) dX8_thing_34 ⟨Nat.le_of_ble_eq_true rfl, Nat.le_of_ble_eq_true rfl⟩) hS (fun u10 H locs p11 hw hS => ?_)
        obtain ⟨X12, Y13, eu10, hRX12, hG14, hJ15, hCIX12, p11, hytX12, hyoX12, hbnX12, hboX12⟩ := p11
        subst eu10
        have hFX12 : Frm [4, 1600] X X12 := Frm.tr Frm.rf (Frm.mono hG14 (by first | exact nls_of rfl | decide))
        have hHY13 : Frm [1501, 1700] Y Y13 := Frm.tr Frm.rf (Frm.mono hJ15 (by first | exact nls_of rfl | decide))
        refine lv_aload_n hx hb dX8_thing_37 rfl (lv_at hl 1 rfl) ?_
        refine lv_dup hx hb dX8_thing_38 rfl ?_
        refine x_geti (jz := 3) hx hb hf8 hw (by first | exact Int.le_refl 0 | omega) (by first | exact zlt hc0 | omega) sl_0_3 rfl lk94 dX8_thing_39 ?_
        have e16 : X12 0 0 3 = X 0 0 3 := by rw [hG14 0 0 3 (show 4 ∉ [1600] by first | exact nlm_ni rfl | decide)]
        rw [e16]
        have f17 : 0 ≤ X 0 0 3 ∧ X 0 0 3 ≤ 30 := hR 0 0 3
        refine lv_iconst (v := jI 1) hx hb dX8_thing_42 rfl ?_
        refine x_iadd hx hb dX8_thing_43 ?_
        refine x_puti (jz := 3) hx hb hf8 ⟨tyX8_ok, nmX8⟩ hw hS (by first | exact Int.le_refl 0 | omega) (by first | exact zlt hc0 | omega) sl_0_3 rfl lk94 rfl (tyX8_ok 3 (by decide)) rfl rfl dX8_thing_44 (fun H locs hw hS => ?_)
        obtain ⟨X18, hX18⟩ : ∃ Xq, Xq = u3 X12 0 0 3 ((X 0 0 3) + 1) := ⟨_, rfl⟩
        rw [← hX18] at hw
        have hRX18 : Rng X18 := by rw [hX18]; exact rng_set hRX12 (show 0 ≤ ((X 0 0 3) + 1) ∧ ((X 0 0 3) + 1) ≤ 30 by omega)
        have hVX18 : X18 0 0 3 = ((X 0 0 3) + 1) := by rw [hX18]; exact u3_s _ _ _ _ _
        have hFX18 : Frm [4, 1600] X X18 := by rw [hX18]; exact Frm.set hFX12 (show 4 ∈ [4, 1600] by first | exact nlm_in rfl | decide)
        refine lv_aload_n hx hb dX8_thing_47 rfl (lv_at hl 1 rfl) ?_
        refine x_geti (jz := 3) hx hb hf8 hw (by first | exact Int.le_refl 0 | omega) (by first | exact zlt hc0 | omega) sl_0_3 rfl lk94 dX8_thing_48 ?_
        rw [hVX18]
        refine lv_iconst (v := jI 1) hx hb dX8_thing_51 rfl ?_
        refine x_isub hx hb dX8_thing_52 ?_
        rw [hQ9]
        refine ret_i (mc := 0) (ms := 0) hx hb hr hlocks hw hS (by first | exact Nat.le_of_ble_eq_true rfl | omega) (by first | exact Nat.le_of_ble_eq_true rfl | omega) dX8_thing_53 ?_
        have e19 : X12 0 0 3 = X 0 0 3 := (by rw [hG14 0 0 3 (show 4 ∉ [1600] by first | exact nlm_ni rfl | decide)])
        have q20 : Frm [4] X12 X18 := by rw [hX18]; exact Frm.set Frm.rf (show 4 ∈ [4] by first | exact nlm_in rfl | decide)
        exact ⟨X18, Y13, rfl, hRX18, hFX18, hHY13, cinv_things hCIX12 q20 (fun x9 a b c => by rw [hVX18] at b; rw [e19] at c; rw [show x9 = X 0 0 3 by omega, hytX12]; exact fun q => by cases q), by omega, (by rw [← ezz1]; exact Or.inr (Or.inr ⟨⟨by omega, by omega⟩, by omega, by omega⟩)), fun q => (by exfalso; omega), fun _ => (by rw [← ezz1]; exact ⟨(by rw [hVX18] <;> omega), hytX12, hyoX12, fun j a b => (by rw [hX18, u3_k _ _ _ _ (by first | exact Nat.ne_of_beq_eq_false rfl | decide)]; exact hbnX12 j a b), fun y j hy => (by rw [hX18, u3_k _ _ _ _ (by first | exact Nat.ne_of_beq_eq_false rfl | decide)]; exact hboX12 y j hy)⟩)⟩
    · refine lv_bipush (v := jI (-4)) hx hb dX8_thing_21 (by decide) ?_
      rw [hQ9]
      refine ret_i (mc := 0) (ms := 0) hx hb hr hlocks hw hS (by first | exact Nat.le_of_ble_eq_true rfl | omega) (by first | exact Nat.le_of_ble_eq_true rfl | omega) dX8_thing_23 ?_
      exact ⟨X, Y, rfl, hR, Frm.rf, Frm.rf, hCI, by omega, (by rw [← ezz1]; exact Or.inr (Or.inl ⟨⟨by omega, by omega⟩, by omega, by omega⟩)), fun _ => ⟨rfl, rfl⟩, fun q => (by exfalso; omega)⟩

set_option maxHeartbeats 4000000 in
set_option maxRecDepth 100000 in
theorem c_X8_put (l : Launch) (D : va_G) (tc : Nat → ClassId) (base : Nat) (ad : Nat → Int → Nat) (cnt : Nat → Int) (X : Nat → Int → Int → Int) (Y : Nat → Int → Int → Option Int) (ln : Int → Int) (hR : Rng X) (hFx : Fx cnt) (hLn : LnOK ln) (hCI : CInv cnt X Y ln) (x k v : Int) (hx : -2147483648 ≤ x ∧ x ≤ 2147483647) (hk : -2147483648 ≤ k ∧ k ≤ 2147483647) (hv : -9223372036854775808 ≤ v ∧ v ≤ 9223372036854775807) : KI l D tc base yX8_put wsX8_put ({ frames := 4, cells := 0, slots := 0, locals := 92 } : Room) [.ref (ad 0 0), .int (jI x), .int (jI k), .long (jL v)] (ad, cnt, X, Y, ln) 0 0 (fun z u => ∃ (X1 : Nat → Int → Int → Int) (Y1 : Nat → Int → Int → Option Int), u = (ad, cnt, X1, Y1, ln) ∧ Rng X1 ∧ Frm [2802, 2803, 2902, 1600] X X1 ∧ Frm [2801, 2804] Y Y1 ∧ CInv cnt X1 Y1 ln ∧ (-2147483648 ≤ z ∧ z ≤ 2147483647) ∧ ((¬ (0 ≤ x ∧ x < X 0 0 3 ∧ 0 ≤ k ∧ k < X 19 (tyo (Y 15 x 0)) 1) ∧ z = -1) ∨ ((0 ≤ x ∧ x < X 0 0 3 ∧ 0 ≤ k ∧ k < X 19 (tyo (Y 15 x 0)) 1) ∧ 1 < X 21 (tyo (Y 15 x 0)) k ∧ z = -14) ∨ ((0 ≤ x ∧ x < X 0 0 3 ∧ 0 ≤ k ∧ k < X 19 (tyo (Y 15 x 0)) 1) ∧ X 21 (tyo (Y 15 x 0)) k = 1 ∧ v ≠ -1 ∧ ¬ (0 ≤ v ∧ v < 16 ∧ X 3 0 v = 1) ∧ z = -17) ∨ ((0 ≤ x ∧ x < X 0 0 3 ∧ 0 ≤ k ∧ k < X 19 (tyo (Y 15 x 0)) 1) ∧ X 21 (tyo (Y 15 x 0)) k ≤ 1 ∧ (X 21 (tyo (Y 15 x 0)) k = 1 → v = -1 ∨ (0 ≤ v ∧ v < 16 ∧ X 3 0 v = 1)) ∧ 80 ≤ X 29 0 1 ∧ z = -4) ∨ ((0 ≤ x ∧ x < X 0 0 3 ∧ 0 ≤ k ∧ k < X 19 (tyo (Y 15 x 0)) 1) ∧ X 21 (tyo (Y 15 x 0)) k ≤ 1 ∧ (X 21 (tyo (Y 15 x 0)) k = 1 → v = -1 ∨ (0 ≤ v ∧ v < 16 ∧ X 3 0 v = 1)) ∧ X 29 0 1 ≤ 79 ∧ z = 1)) ∧ (z < 0 → X1 = X ∧ Y1 = Y) ∧ (z = 1 → eNoteC X X1 Y Y1 (some x) k (X 16 x k) (Y 17 x k) ∧ X1 16 x k = v ∧ (∀ y j, ¬ (y = x ∧ j = k) → X1 16 y j = X 16 y j) ∧ ∀ y j, Y1 17 y j = Y 17 y j)) := by
  refine K_of (cc := cX8_put) (maxL := 7) (ret := (some .int)) (by decide) rfl (Nat.le_of_ble_eq_true rfl) ?_
  intro p e s m below meth c ls hx hb hr hml hown hts hlocks hl hK hw hS
  have hown : s.vm.findClass RX8 = some m.cls := hown
  obtain ⟨av9, hav9⟩ : ∃ a9 : Array Value, a9 = ([.ref (ad 0 0), .int (jI x), .int (jI k), .long (jL v)] : List Value).toArray := ⟨_, rfl⟩
  rw [← hav9] at hts ⊢
  obtain ⟨Q9, hQ9⟩ : ∃ q9Q : State → Prop, q9Q = MQ below (QI D tc base (fun z u => ∃ (X1 : Nat → Int → Int → Int) (Y1 : Nat → Int → Int → Option Int), u = (ad, cnt, X1, Y1, ln) ∧ Rng X1 ∧ Frm [2802, 2803, 2902, 1600] X X1 ∧ Frm [2801, 2804] Y Y1 ∧ CInv cnt X1 Y1 ln ∧ (-2147483648 ≤ z ∧ z ≤ 2147483647) ∧ ((¬ (0 ≤ x ∧ x < X 0 0 3 ∧ 0 ≤ k ∧ k < X 19 (tyo (Y 15 x 0)) 1) ∧ z = -1) ∨ ((0 ≤ x ∧ x < X 0 0 3 ∧ 0 ≤ k ∧ k < X 19 (tyo (Y 15 x 0)) 1) ∧ 1 < X 21 (tyo (Y 15 x 0)) k ∧ z = -14) ∨ ((0 ≤ x ∧ x < X 0 0 3 ∧ 0 ≤ k ∧ k < X 19 (tyo (Y 15 x 0)) 1) ∧ X 21 (tyo (Y 15 x 0)) k = 1 ∧ v ≠ -1 ∧ ¬ (0 ≤ v ∧ v < 16 ∧ X 3 0 v = 1) ∧ z = -17) ∨ ((0 ≤ x ∧ x < X 0 0 3 ∧ 0 ≤ k ∧ k < X 19 (tyo (Y 15 x 0)) 1) ∧ X 21 (tyo (Y 15 x 0)) k ≤ 1 ∧ (X 21 (tyo (Y 15 x 0)) k = 1 → v = -1 ∨ (0 ≤ v ∧ v < 16 ∧ X 3 0 v = 1)) ∧ 80 ≤ X 29 0 1 ∧ z = -4) ∨ ((0 ≤ x ∧ x < X 0 0 3 ∧ 0 ≤ k ∧ k < X 19 (tyo (Y 15 x 0)) 1) ∧ X 21 (tyo (Y 15 x 0)) k ≤ 1 ∧ (X 21 (tyo (Y 15 x 0)) k = 1 → v = -1 ∨ (0 ≤ v ∧ v < 16 ∧ X 3 0 v = 1)) ∧ X 29 0 1 ≤ 79 ∧ z = 1)) ∧ (z < 0 → X1 = X ∧ Y1 = Y) ∧ (z = 1 → eNoteC X X1 Y Y1 (some x) k (X 16 x k) (Y 17 x k) ∧ X1 16 x k = v ∧ (∀ y j, ¬ (y = x ∧ j = k) → X1 16 y j = X 16 y j) ∧ ∀ y j, Y1 17 y j = Y 17 y j))) av9 s 0 0 (frA base) := ⟨_, rfl⟩
  rw [← hQ9]
  have hi6 : ∀ w ∈ wsX60, w ∈ wsX8_put := fun w h => List.mem_cons_of_mem _ (List.mem_append_left _ (List.mem_append_left _ (List.mem_append_left _ (List.mem_append_left _ (List.mem_append_right _ h)))))
  have hf6 : fctx s m _ RX8 wsX8_put D tc RX6 TX6 4 6 := ⟨hts, hi6, hown, hK.1, rfl⟩
  have hi7 : ∀ w ∈ wsX70, w ∈ wsX8_put := fun w h => List.mem_cons_of_mem _ (List.mem_append_left _ (List.mem_append_left _ (List.mem_append_left _ (List.mem_append_right _ h))))
  have hf7 : fctx s m _ RX8 wsX8_put D tc RX7 TX7 8 7 := ⟨hts, hi7, hown, hK.1, rfl⟩
  have lk97 := hts (.fieldLink RX8 97 (TX6 0).1 (TX6 0).2.1 (TX6 0).2.2.1) (gj_X8_put_0 _ (gp_h))
  have lk135 := hts (.fieldLink RX8 135 (TX7 3).1 (TX7 3).2.1 (TX7 3).2.2.1) (gj_X8_put_0 _ (gp_1 gp_h))
  have hc0 : cnt 0 = 1 := hFx.at 0 1 (by decide)
  have hc15 : cnt 15 = 30 := hFx.at 15 30 (by decide)
  have hc21 : cnt 21 = cnt 19 := hFx.2.1 21 (by decide)
  have hl : lv_has ls 7 [(0, .ref (ad 0 0)), (1, .int (jI x)), (2, .int (jI k)), (3, .long (jL v))] := hl
  have ftc : 0 ≤ X 0 0 3 ∧ X 0 0 3 ≤ 30 := hR 0 0 3
  have fty : 0 ≤ X 0 0 1 ∧ X 0 0 1 ≤ 8 := hR 0 0 1
  have hct : cnt 19 = X 0 0 1 := hCI.2.2.2.1.1
  have hfj : 0 ≤ X 29 0 3 ∧ X 29 0 3 ≤ 4 := hR 29 0 3
  have hfn : 0 ≤ X 29 0 1 ∧ X 29 0 1 ≤ 80 := hR 29 0 1
  refine lv_aload_n hx hb dX8_put_0 rfl (lv_at hl 0 rfl) ?_
  refine lv_iload_n hx hb dX8_put_1 rfl (lv_at hl 1 rfl) ?_
  refine lv_iload_n hx hb dX8_put_2 rfl (lv_at hl 2 rfl) ?_
  refine gos_r (run_V (As := [.int (jI x), .int (jI k)]) (rest := []) hx hb hml hown hts (c_X8_thingWithField l D tc base ad cnt X Y ln hR hFx hLn hCI x k (by omega) (by omega)) (cwV 2 hts gX8_put_X8_thingWithField rfl rfl rfl (by first | exact hd_X8_thingWithField | decide +kernel) ⟨Nat.le_of_ble_eq_true rfl, Nat.le_of_ble_eq_true rfl⟩) hK hw (by first | exact Int.le_refl 0 | omega) (by first | exact zlt hc0 | omega) sl_0_0 rfl rfl hl.1 rfl (Nat.le_of_ble_eq_true rfl) dX8_put_3 ⟨Nat.le_of_ble_eq_true rfl, Nat.le_of_ble_eq_true rfl⟩) hS (fun u2 H locs p3 hw hS => ?_) (fun z1 u2 H locs p3 hw hS => ?_)
  · obtain ⟨eu2, hsp3, hnp3⟩ := p3
    subst eu2
    refine lv_astoreN (lv' := [(5, .null), (0, .ref (ad 0 0)), (1, .int (jI x)), (2, .int (jI k)), (3, .long (jL v))]) hx hb dX8_put_6 hl (by decide) rfl (fun ls hl => ?_)
    refine lv_aloadN hx hb dX8_put_8 (lv_at hl 0 rfl) ?_
    refine lv_ifnonnullN hx hb dX8_put_10 ?_
    refine lv_iconst (v := jI (-1)) hx hb dX8_put_13 rfl ?_
    rw [hQ9]
    refine ret_i (mc := 0) (ms := 0) hx hb hr hlocks hw hS (by first | exact Nat.le_of_ble_eq_true rfl | omega) (by first | exact Nat.le_of_ble_eq_true rfl | omega) dX8_put_14 ?_
    have h9n4 : ¬ (0 ≤ x ∧ x < X 0 0 3 ∧ 0 ≤ k ∧ k < X 19 (tyo (Y 15 x 0)) 1) := hnp3 rfl
    exact ⟨X, Y, rfl, hR, Frm.rf, Frm.rf, hCI, by omega, (by exact Or.inl ⟨(fun q => by (try delta Hid at *); omega), by omega⟩), fun _ => ⟨rfl, rfl⟩, fun q => (by exfalso; omega)⟩
  · obtain ⟨eu2, hsp3, hnp3⟩ := p3
    subst eu2
    obtain ⟨ezz1, p3, h1p3, h2p3, h3p3, h4p3, h5p3⟩ := hsp3 z1 rfl
    refine lv_astore (lv' := [(5, .ref (ad 15 z1)), (0, .ref (ad 0 0)), (1, .int (jI x)), (2, .int (jI k)), (3, .long (jL v))]) hx hb dX8_put_6 hl (by decide) rfl (fun ls hl => ?_)
    refine lv_aload hx hb dX8_put_8 (lv_at hl 0 rfl) ?_
    refine lv_ifnonnull (tgt := 15) hx hb dX8_put_10 (by decide) ?_
    refine lv_aload hx hb dX8_put_15 (lv_at hl 0 rfl) ?_
    refine x_getr (jz := 0) hx hb hf6 hw (by omega) (by omega) sl_15_0 rfl lk97 dX8_put_17 (fun y5 => ?_) (fun r6 y5 gr6 lr6 => ?_)
    · exfalso
      exact absurd y5 (hCI.2.2.2.2.1 z1 (by omega) (by omega))
    · refine x_geto hx hb hf7 hw (by omega) (by omega) sl_19_3 lk135 dX8_put_20 ?_
      refine lv_iload_n hx hb dX8_put_23 rfl (lv_at hl 3 rfl) ?_
      refine x_iald hx hb hK.1 hw (by omega) (by omega) ar_21 (len_E ar_21 (by first | exact Nat.ne_of_beq_eq_false rfl | decide)) (by omega) (by omega) (by omega) dX8_put_24 ?_
      have f7 : 0 ≤ X 21 r6 k ∧ X 21 r6 k ≤ 5 := hR 21 r6 k
      refine lv_istore (lv' := [(6, .int (jI (X 21 r6 k))), (5, .ref (ad 15 z1)), (0, .ref (ad 0 0)), (1, .int (jI x)), (2, .int (jI k)), (3, .long (jL v))]) hx hb dX8_put_25 hl (by decide) rfl (fun ls hl => ?_)
      refine lv_iload hx hb dX8_put_27 (lv_at hl 0 rfl) ?_
      refine x_if_eq (tgt := 43) hx hb (by omega) dX8_put_29 (by decide) (fun c8 => ?_) (fun c8 => ?_)
      · refine lv_iload hx hb dX8_put_43 (lv_at hl 0 rfl) ?_
        refine lv_iconst (v := jI 1) hx hb dX8_put_45 rfl ?_
        refine x_icmp_ne (tgt := 71) hx hb (by omega) (by omega) dX8_put_46 (by decide) (fun c9 => ?_) (fun c9 => ?_)
        · refine lv_aload_n hx hb dX8_put_71 rfl (lv_at hl 2 rfl) ?_
          refine lv_aload hx hb dX8_put_72 (lv_at hl 1 rfl) ?_
          refine lv_iload_n hx hb dX8_put_74 rfl (lv_at hl 4 rfl) ?_
          refine lv_lload_n hx hb dX8_put_75 rfl (lv_at hl 5 rfl) ?_
          refine gos_i (run_V (As := [.ref (ad 15 z1), .int (jI k), .long (jL v)]) (rest := []) hx hb hml hown hts (c_X8_changeValue l D tc base ad cnt X Y ln hR hFx hLn hCI z1 k v (by omega) (by omega) (by omega)) (cwV 3 hts gX8_put_X8_changeValue rfl rfl rfl (by first | exact hd_X8_changeValue | decide +kernel) ⟨Nat.le_of_ble_eq_true rfl, Nat.le_of_ble_eq_true rfl⟩) hK hw (by first | exact Int.le_refl 0 | omega) (by first | exact zlt hc0 | omega) sl_0_0 rfl rfl hl.1 rfl (Nat.le_of_ble_eq_true rfl) dX8_put_76 ⟨Nat.le_of_ble_eq_true rfl, Nat.le_of_ble_eq_true rfl⟩) hS (fun z10 u11 H locs p12 hw hS => ?_)
          obtain ⟨X13, Y14, eu11, hRX13, hG15, hJ16, hCIX13, p12, hcvX13⟩ := p12
          subst eu11
          have hFX13 : Frm [2802, 2803, 2902, 1600] X X13 := Frm.tr Frm.rf (Frm.mono hG15 (by first | exact nls_of rfl | decide))
          have hHY14 : Frm [2801, 2804] Y Y14 := Frm.tr Frm.rf (Frm.mono hJ16 (by first | exact nls_of rfl | decide))
          rw [hQ9]
          refine ret_i (mc := 0) (ms := 0) hx hb hr hlocks hw hS (by first | exact Nat.le_of_ble_eq_true rfl | omega) (by first | exact Nat.le_of_ble_eq_true rfl | omega) dX8_put_79 ?_
          have hT17 : tyo (Y 15 x 0) = r6 := by rw [← ezz1]; exact tyo_some y5
          have hk18 : k < X 19 r6 1 := h5p3 r6 (by rw [← ezz1]; exact y5)
          rcases hcvX13 with ⟨c1, c2, c3, c4⟩ | ⟨c1, c2, c3, c4, c5, c6⟩
          · exact ⟨X13, Y14, rfl, hRX13, hFX13, hHY14, hCIX13, by omega, (by rw [hT17]; first | (have h9z : (z10 : Int) = -1 := (by omega); exact Or.inl ⟨(fun q => by (try delta Hid at *); omega), by omega⟩) | (have h9z : (z10 : Int) = -14 := (by omega); exact Or.inr (Or.inl ⟨(by (try delta Hid at *); omega), by omega, by omega⟩)) | (have h9z : (z10 : Int) = -17 := (by omega); exact Or.inr (Or.inr (Or.inl ⟨(by (try delta Hid at *); omega), by omega, by omega, (fun q => by (try delta Hid at *); omega), by omega⟩))) | (have h9z : (z10 : Int) = -4 := (by omega); exact Or.inr (Or.inr (Or.inr (Or.inl ⟨(by (try delta Hid at *); omega), by omega, (by (try delta Hid at *); omega), by omega, by omega⟩)))) | (have h9z : (z10 : Int) = 1 := (by omega); exact Or.inr (Or.inr (Or.inr (Or.inr (⟨(by (try delta Hid at *); omega), by omega, (by (try delta Hid at *); omega), by omega, by omega⟩))))) | exact Or.inl ⟨(fun q => by (try delta Hid at *); omega), by omega⟩ | exact Or.inr (Or.inl ⟨(by (try delta Hid at *); omega), by omega, by omega⟩) | exact Or.inr (Or.inr (Or.inl ⟨(by (try delta Hid at *); omega), by omega, by omega, (fun q => by (try delta Hid at *); omega), by omega⟩)) | exact Or.inr (Or.inr (Or.inr (Or.inl ⟨(by (try delta Hid at *); omega), by omega, (by (try delta Hid at *); omega), by omega, by omega⟩))) | exact Or.inr (Or.inr (Or.inr (Or.inr (⟨(by (try delta Hid at *); omega), by omega, (by (try delta Hid at *); omega), by omega, by omega⟩))))), fun _ => ⟨c3, c4⟩, fun q => (by exfalso; omega)⟩
          · exact ⟨X13, Y14, rfl, hRX13, hFX13, hHY14, hCIX13, by omega, (by rw [hT17]; first | (have h9z : (z10 : Int) = -1 := (by omega); exact Or.inl ⟨(fun q => by (try delta Hid at *); omega), by omega⟩) | (have h9z : (z10 : Int) = -14 := (by omega); exact Or.inr (Or.inl ⟨(by (try delta Hid at *); omega), by omega, by omega⟩)) | (have h9z : (z10 : Int) = -17 := (by omega); exact Or.inr (Or.inr (Or.inl ⟨(by (try delta Hid at *); omega), by omega, by omega, (fun q => by (try delta Hid at *); omega), by omega⟩))) | (have h9z : (z10 : Int) = -4 := (by omega); exact Or.inr (Or.inr (Or.inr (Or.inl ⟨(by (try delta Hid at *); omega), by omega, (by (try delta Hid at *); omega), by omega, by omega⟩)))) | (have h9z : (z10 : Int) = 1 := (by omega); exact Or.inr (Or.inr (Or.inr (Or.inr (⟨(by (try delta Hid at *); omega), by omega, (by (try delta Hid at *); omega), by omega, by omega⟩))))) | exact Or.inl ⟨(fun q => by (try delta Hid at *); omega), by omega⟩ | exact Or.inr (Or.inl ⟨(by (try delta Hid at *); omega), by omega, by omega⟩) | exact Or.inr (Or.inr (Or.inl ⟨(by (try delta Hid at *); omega), by omega, by omega, (fun q => by (try delta Hid at *); omega), by omega⟩)) | exact Or.inr (Or.inr (Or.inr (Or.inl ⟨(by (try delta Hid at *); omega), by omega, (by (try delta Hid at *); omega), by omega, by omega⟩))) | exact Or.inr (Or.inr (Or.inr (Or.inr (⟨(by (try delta Hid at *); omega), by omega, (by (try delta Hid at *); omega), by omega, by omega⟩))))), fun q => (by exfalso; omega), fun _ => (by rw [← ezz1]; exact ⟨c3, c4, c5, c6⟩)⟩
        · refine lv_lload_n hx hb dX8_put_49 rfl (lv_at hl 5 rfl) ?_
          refine lv_ldc2 (v := jL (-1)) hx hb hown (hts (.constantLong RX8 88 (-1)) (by first | exact gj_X8_put_0 _ (gp_1 (gp_1 gp_h)) | decide +kernel)) dX8_put_50 ?_
          refine x_lcmp hx hb (by omega) (by omega) dX8_put_53 ?_
          obtain ⟨z19, ez19⟩ : ∃ y : Int, y = cmpZ v (-1) := ⟨_, rfl⟩
          rw [← ez19]
          have gz19 : (z19 < 0 ↔ (v : Int) < (-1)) ∧ (z19 = 0 ↔ (v : Int) = (-1)) ∧ -1 ≤ z19 ∧ z19 ≤ 1 := by rw [ez19]; exact ⟨cmpZ_lt, cmpZ_eq, (cmpZ_r _ _).1, (cmpZ_r _ _).2⟩
          clear ez19
          refine x_if_eq (tgt := 71) hx hb (by omega) dX8_put_54 (by decide) (fun c20 => ?_) (fun c20 => ?_)
          · replace c20 := cz_eqT gz19 c20
            clear gz19
            refine lv_aload_n hx hb dX8_put_71 rfl (lv_at hl 2 rfl) ?_
            refine lv_aload hx hb dX8_put_72 (lv_at hl 1 rfl) ?_
            refine lv_iload_n hx hb dX8_put_74 rfl (lv_at hl 4 rfl) ?_
            refine lv_lload_n hx hb dX8_put_75 rfl (lv_at hl 5 rfl) ?_
            refine gos_i (run_V (As := [.ref (ad 15 z1), .int (jI k), .long (jL v)]) (rest := []) hx hb hml hown hts (c_X8_changeValue l D tc base ad cnt X Y ln hR hFx hLn hCI z1 k v (by omega) (by omega) (by omega)) (cwV 3 hts gX8_put_X8_changeValue rfl rfl rfl (by first | exact hd_X8_changeValue | decide +kernel) ⟨Nat.le_of_ble_eq_true rfl, Nat.le_of_ble_eq_true rfl⟩) hK hw (by first | exact Int.le_refl 0 | omega) (by first | exact zlt hc0 | omega) sl_0_0 rfl rfl hl.1 rfl (Nat.le_of_ble_eq_true rfl) dX8_put_76 ⟨Nat.le_of_ble_eq_true rfl, Nat.le_of_ble_eq_true rfl⟩) hS (fun z21 u22 H locs p23 hw hS => ?_)
            obtain ⟨X24, Y25, eu22, hRX24, hG26, hJ27, hCIX24, p23, hcvX24⟩ := p23
            subst eu22
            have hFX24 : Frm [2802, 2803, 2902, 1600] X X24 := Frm.tr Frm.rf (Frm.mono hG26 (by first | exact nls_of rfl | decide))
            have hHY25 : Frm [2801, 2804] Y Y25 := Frm.tr Frm.rf (Frm.mono hJ27 (by first | exact nls_of rfl | decide))
            rw [hQ9]
            refine ret_i (mc := 0) (ms := 0) hx hb hr hlocks hw hS (by first | exact Nat.le_of_ble_eq_true rfl | omega) (by first | exact Nat.le_of_ble_eq_true rfl | omega) dX8_put_79 ?_
            have hT28 : tyo (Y 15 x 0) = r6 := by rw [← ezz1]; exact tyo_some y5
            have hk29 : k < X 19 r6 1 := h5p3 r6 (by rw [← ezz1]; exact y5)
            rcases hcvX24 with ⟨c1, c2, c3, c4⟩ | ⟨c1, c2, c3, c4, c5, c6⟩
            · exact ⟨X24, Y25, rfl, hRX24, hFX24, hHY25, hCIX24, by omega, (by rw [hT28]; first | (have h9z : (z21 : Int) = -1 := (by omega); exact Or.inl ⟨(fun q => by (try delta Hid at *); omega), by omega⟩) | (have h9z : (z21 : Int) = -14 := (by omega); exact Or.inr (Or.inl ⟨(by (try delta Hid at *); omega), by omega, by omega⟩)) | (have h9z : (z21 : Int) = -17 := (by omega); exact Or.inr (Or.inr (Or.inl ⟨(by (try delta Hid at *); omega), by omega, by omega, (fun q => by (try delta Hid at *); omega), by omega⟩))) | (have h9z : (z21 : Int) = -4 := (by omega); exact Or.inr (Or.inr (Or.inr (Or.inl ⟨(by (try delta Hid at *); omega), by omega, (by (try delta Hid at *); omega), by omega, by omega⟩)))) | (have h9z : (z21 : Int) = 1 := (by omega); exact Or.inr (Or.inr (Or.inr (Or.inr (⟨(by (try delta Hid at *); omega), by omega, (by (try delta Hid at *); omega), by omega, by omega⟩))))) | exact Or.inl ⟨(fun q => by (try delta Hid at *); omega), by omega⟩ | exact Or.inr (Or.inl ⟨(by (try delta Hid at *); omega), by omega, by omega⟩) | exact Or.inr (Or.inr (Or.inl ⟨(by (try delta Hid at *); omega), by omega, by omega, (fun q => by (try delta Hid at *); omega), by omega⟩)) | exact Or.inr (Or.inr (Or.inr (Or.inl ⟨(by (try delta Hid at *); omega), by omega, (by (try delta Hid at *); omega), by omega, by omega⟩))) | exact Or.inr (Or.inr (Or.inr (Or.inr (⟨(by (try delta Hid at *); omega), by omega, (by (try delta Hid at *); omega), by omega, by omega⟩))))), fun _ => ⟨c3, c4⟩, fun q => (by exfalso; omega)⟩
            · exact ⟨X24, Y25, rfl, hRX24, hFX24, hHY25, hCIX24, by omega, (by rw [hT28]; first | (have h9z : (z21 : Int) = -1 := (by omega); exact Or.inl ⟨(fun q => by (try delta Hid at *); omega), by omega⟩) | (have h9z : (z21 : Int) = -14 := (by omega); exact Or.inr (Or.inl ⟨(by (try delta Hid at *); omega), by omega, by omega⟩)) | (have h9z : (z21 : Int) = -17 := (by omega); exact Or.inr (Or.inr (Or.inl ⟨(by (try delta Hid at *); omega), by omega, by omega, (fun q => by (try delta Hid at *); omega), by omega⟩))) | (have h9z : (z21 : Int) = -4 := (by omega); exact Or.inr (Or.inr (Or.inr (Or.inl ⟨(by (try delta Hid at *); omega), by omega, (by (try delta Hid at *); omega), by omega, by omega⟩)))) | (have h9z : (z21 : Int) = 1 := (by omega); exact Or.inr (Or.inr (Or.inr (Or.inr (⟨(by (try delta Hid at *); omega), by omega, (by (try delta Hid at *); omega), by omega, by omega⟩))))) | exact Or.inl ⟨(fun q => by (try delta Hid at *); omega), by omega⟩ | exact Or.inr (Or.inl ⟨(by (try delta Hid at *); omega), by omega, by omega⟩) | exact Or.inr (Or.inr (Or.inl ⟨(by (try delta Hid at *); omega), by omega, by omega, (fun q => by (try delta Hid at *); omega), by omega⟩)) | exact Or.inr (Or.inr (Or.inr (Or.inl ⟨(by (try delta Hid at *); omega), by omega, (by (try delta Hid at *); omega), by omega, by omega⟩))) | exact Or.inr (Or.inr (Or.inr (Or.inr (⟨(by (try delta Hid at *); omega), by omega, (by (try delta Hid at *); omega), by omega, by omega⟩))))), fun q => (by exfalso; omega), fun _ => (by rw [← ezz1]; exact ⟨c3, c4, c5, c6⟩)⟩
          · replace c20 := cz_eqF gz19 c20
            clear gz19
            refine lv_aload_n hx hb dX8_put_57 rfl (lv_at hl 2 rfl) ?_
            refine lv_lload_n hx hb dX8_put_58 rfl (lv_at hl 5 rfl) ?_
            refine gos_i (run_V (As := [.long (jL v)]) (rest := []) hx hb hml hown hts (c_X8_isWordInUse l D tc base ad cnt X Y ln hR hFx hLn v (by omega)) (cwV 1 hts gX8_put_X8_isWordInUse rfl rfl rfl (by first | exact hd_X8_isWordInUse | decide +kernel) ⟨Nat.le_of_ble_eq_true rfl, Nat.le_of_ble_eq_true rfl⟩) hK hw (by first | exact Int.le_refl 0 | omega) (by first | exact zlt hc0 | omega) sl_0_0 rfl rfl hl.1 rfl (Nat.le_of_ble_eq_true rfl) dX8_put_59 ⟨Nat.le_of_ble_eq_true rfl, Nat.le_of_ble_eq_true rfl⟩) hS (fun z30 u31 H locs p32 hw hS => ?_)
            obtain ⟨eu31, p32⟩ := p32
            subst eu31
            rcases p32 with ⟨ez30, p32⟩ | ⟨ez30, p32⟩
            · subst ez30
              refine x_if_neT (tgt := 71) hx hb (by omega) (by decide) dX8_put_62 (by decide) ?_
              refine lv_aload_n hx hb dX8_put_71 rfl (lv_at hl 2 rfl) ?_
              refine lv_aload hx hb dX8_put_72 (lv_at hl 1 rfl) ?_
              refine lv_iload_n hx hb dX8_put_74 rfl (lv_at hl 4 rfl) ?_
              refine lv_lload_n hx hb dX8_put_75 rfl (lv_at hl 5 rfl) ?_
              refine gos_i (run_V (As := [.ref (ad 15 z1), .int (jI k), .long (jL v)]) (rest := []) hx hb hml hown hts (c_X8_changeValue l D tc base ad cnt X Y ln hR hFx hLn hCI z1 k v (by omega) (by omega) (by omega)) (cwV 3 hts gX8_put_X8_changeValue rfl rfl rfl (by first | exact hd_X8_changeValue | decide +kernel) ⟨Nat.le_of_ble_eq_true rfl, Nat.le_of_ble_eq_true rfl⟩) hK hw (by first | exact Int.le_refl 0 | omega) (by first | exact zlt hc0 | omega) sl_0_0 rfl rfl hl.1 rfl (Nat.le_of_ble_eq_true rfl) dX8_put_76 ⟨Nat.le_of_ble_eq_true rfl, Nat.le_of_ble_eq_true rfl⟩) hS (fun z33 u34 H locs p35 hw hS => ?_)
              obtain ⟨X36, Y37, eu34, hRX36, hG38, hJ39, hCIX36, p35, hcvX36⟩ := p35
              subst eu34
              have hFX36 : Frm [2802, 2803, 2902, 1600] X X36 := Frm.tr Frm.rf (Frm.mono hG38 (by first | exact nls_of rfl | decide))
              have hHY37 : Frm [2801, 2804] Y Y37 := Frm.tr Frm.rf (Frm.mono hJ39 (by first | exact nls_of rfl | decide))
              rw [hQ9]
              refine ret_i (mc := 0) (ms := 0) hx hb hr hlocks hw hS (by first | exact Nat.le_of_ble_eq_true rfl | omega) (by first | exact Nat.le_of_ble_eq_true rfl | omega) dX8_put_79 ?_
              have hT40 : tyo (Y 15 x 0) = r6 := by rw [← ezz1]; exact tyo_some y5
              have hk41 : k < X 19 r6 1 := h5p3 r6 (by rw [← ezz1]; exact y5)
              rcases hcvX36 with ⟨c1, c2, c3, c4⟩ | ⟨c1, c2, c3, c4, c5, c6⟩
              · exact ⟨X36, Y37, rfl, hRX36, hFX36, hHY37, hCIX36, by omega, (by rw [hT40]; first | (have h9z : (z33 : Int) = -1 := (by omega); exact Or.inl ⟨(fun q => by (try delta Hid at *); omega), by omega⟩) | (have h9z : (z33 : Int) = -14 := (by omega); exact Or.inr (Or.inl ⟨(by (try delta Hid at *); omega), by omega, by omega⟩)) | (have h9z : (z33 : Int) = -17 := (by omega); exact Or.inr (Or.inr (Or.inl ⟨(by (try delta Hid at *); omega), by omega, by omega, (fun q => by (try delta Hid at *); omega), by omega⟩))) | (have h9z : (z33 : Int) = -4 := (by omega); exact Or.inr (Or.inr (Or.inr (Or.inl ⟨(by (try delta Hid at *); omega), by omega, (by (try delta Hid at *); omega), by omega, by omega⟩)))) | (have h9z : (z33 : Int) = 1 := (by omega); exact Or.inr (Or.inr (Or.inr (Or.inr (⟨(by (try delta Hid at *); omega), by omega, (by (try delta Hid at *); omega), by omega, by omega⟩))))) | exact Or.inl ⟨(fun q => by (try delta Hid at *); omega), by omega⟩ | exact Or.inr (Or.inl ⟨(by (try delta Hid at *); omega), by omega, by omega⟩) | exact Or.inr (Or.inr (Or.inl ⟨(by (try delta Hid at *); omega), by omega, by omega, (fun q => by (try delta Hid at *); omega), by omega⟩)) | exact Or.inr (Or.inr (Or.inr (Or.inl ⟨(by (try delta Hid at *); omega), by omega, (by (try delta Hid at *); omega), by omega, by omega⟩))) | exact Or.inr (Or.inr (Or.inr (Or.inr (⟨(by (try delta Hid at *); omega), by omega, (by (try delta Hid at *); omega), by omega, by omega⟩))))), fun _ => ⟨c3, c4⟩, fun q => (by exfalso; omega)⟩
              · exact ⟨X36, Y37, rfl, hRX36, hFX36, hHY37, hCIX36, by omega, (by rw [hT40]; first | (have h9z : (z33 : Int) = -1 := (by omega); exact Or.inl ⟨(fun q => by (try delta Hid at *); omega), by omega⟩) | (have h9z : (z33 : Int) = -14 := (by omega); exact Or.inr (Or.inl ⟨(by (try delta Hid at *); omega), by omega, by omega⟩)) | (have h9z : (z33 : Int) = -17 := (by omega); exact Or.inr (Or.inr (Or.inl ⟨(by (try delta Hid at *); omega), by omega, by omega, (fun q => by (try delta Hid at *); omega), by omega⟩))) | (have h9z : (z33 : Int) = -4 := (by omega); exact Or.inr (Or.inr (Or.inr (Or.inl ⟨(by (try delta Hid at *); omega), by omega, (by (try delta Hid at *); omega), by omega, by omega⟩)))) | (have h9z : (z33 : Int) = 1 := (by omega); exact Or.inr (Or.inr (Or.inr (Or.inr (⟨(by (try delta Hid at *); omega), by omega, (by (try delta Hid at *); omega), by omega, by omega⟩))))) | exact Or.inl ⟨(fun q => by (try delta Hid at *); omega), by omega⟩ | exact Or.inr (Or.inl ⟨(by (try delta Hid at *); omega), by omega, by omega⟩) | exact Or.inr (Or.inr (Or.inl ⟨(by (try delta Hid at *); omega), by omega, by omega, (fun q => by (try delta Hid at *); omega), by omega⟩)) | exact Or.inr (Or.inr (Or.inr (Or.inl ⟨(by (try delta Hid at *); omega), by omega, (by (try delta Hid at *); omega), by omega, by omega⟩))) | exact Or.inr (Or.inr (Or.inr (Or.inr (⟨(by (try delta Hid at *); omega), by omega, (by (try delta Hid at *); omega), by omega, by omega⟩))))), fun q => (by exfalso; omega), fun _ => (by rw [← ezz1]; exact ⟨c3, c4, c5, c6⟩)⟩
            · subst ez30
              refine x_if_neF (tgt := 71) hx hb (by omega) (by decide) dX8_put_62 (by decide) ?_
              refine lv_bipush (v := jI 7) hx hb dX8_put_65 (by decide) ?_
              refine gos_i (run_S (As := [.int (jI 7)]) (rest := []) hx hb hml hown hts (c_X8_failed l D tc base ad cnt X Y ln 7 (by omega)) (cwS 1 hts gX8_put_X8_failed rfl rfl rfl (by first | exact hd_X8_failed | decide +kernel) ⟨Nat.le_of_ble_eq_true rfl, Nat.le_of_ble_eq_true rfl⟩) hK hw rfl hl.1 rfl (Nat.le_of_ble_eq_true rfl) dX8_put_67 ⟨Nat.le_of_ble_eq_true rfl, Nat.le_of_ble_eq_true rfl⟩) hS (fun z42 u43 H locs p44 hw hS => ?_)
              obtain ⟨eu43, p44⟩ := p44
              subst eu43
              rw [hQ9]
              refine ret_i (mc := 0) (ms := 0) hx hb hr hlocks hw hS (by first | exact Nat.le_of_ble_eq_true rfl | omega) (by first | exact Nat.le_of_ble_eq_true rfl | omega) dX8_put_70 ?_
              have hT45 : tyo (Y 15 x 0) = r6 := by rw [← ezz1]; exact tyo_some y5
              have hk46 : k < X 19 r6 1 := h5p3 r6 (by rw [← ezz1]; exact y5)
              exact ⟨X, Y, rfl, hR, Frm.rf, Frm.rf, hCI, by omega, (by rw [hT45]; first | (have h9z : (z42 : Int) = -1 := (by omega); exact Or.inl ⟨(fun q => by (try delta Hid at *); omega), by omega⟩) | (have h9z : (z42 : Int) = -14 := (by omega); exact Or.inr (Or.inl ⟨(by (try delta Hid at *); omega), by omega, by omega⟩)) | (have h9z : (z42 : Int) = -17 := (by omega); exact Or.inr (Or.inr (Or.inl ⟨(by (try delta Hid at *); omega), by omega, by omega, (fun q => by (try delta Hid at *); omega), by omega⟩))) | (have h9z : (z42 : Int) = -4 := (by omega); exact Or.inr (Or.inr (Or.inr (Or.inl ⟨(by (try delta Hid at *); omega), by omega, (by (try delta Hid at *); omega), by omega, by omega⟩)))) | (have h9z : (z42 : Int) = 1 := (by omega); exact Or.inr (Or.inr (Or.inr (Or.inr (⟨(by (try delta Hid at *); omega), by omega, (by (try delta Hid at *); omega), by omega, by omega⟩))))) | exact Or.inl ⟨(fun q => by (try delta Hid at *); omega), by omega⟩ | exact Or.inr (Or.inl ⟨(by (try delta Hid at *); omega), by omega, by omega⟩) | exact Or.inr (Or.inr (Or.inl ⟨(by (try delta Hid at *); omega), by omega, by omega, (fun q => by (try delta Hid at *); omega), by omega⟩)) | exact Or.inr (Or.inr (Or.inr (Or.inl ⟨(by (try delta Hid at *); omega), by omega, (by (try delta Hid at *); omega), by omega, by omega⟩))) | exact Or.inr (Or.inr (Or.inr (Or.inr (⟨(by (try delta Hid at *); omega), by omega, (by (try delta Hid at *); omega), by omega, by omega⟩))))), fun _ => ⟨rfl, rfl⟩, fun q => (by exfalso; omega)⟩
      · refine lv_iload hx hb dX8_put_32 (lv_at hl 0 rfl) ?_
        refine lv_iconst (v := jI 1) hx hb dX8_put_34 rfl ?_
        refine x_icmp_eq (tgt := 43) hx hb (by omega) (by omega) dX8_put_35 (by decide) (fun c47 => ?_) (fun c47 => ?_)
        · refine lv_iload hx hb dX8_put_43 (lv_at hl 0 rfl) ?_
          refine lv_iconst (v := jI 1) hx hb dX8_put_45 rfl ?_
          refine x_icmp_ne (tgt := 71) hx hb (by omega) (by omega) dX8_put_46 (by decide) (fun c48 => ?_) (fun c48 => ?_)
          · refine lv_aload_n hx hb dX8_put_71 rfl (lv_at hl 2 rfl) ?_
            refine lv_aload hx hb dX8_put_72 (lv_at hl 1 rfl) ?_
            refine lv_iload_n hx hb dX8_put_74 rfl (lv_at hl 4 rfl) ?_
            refine lv_lload_n hx hb dX8_put_75 rfl (lv_at hl 5 rfl) ?_
            refine gos_i (run_V (As := [.ref (ad 15 z1), .int (jI k), .long (jL v)]) (rest := []) hx hb hml hown hts (c_X8_changeValue l D tc base ad cnt X Y ln hR hFx hLn hCI z1 k v (by omega) (by omega) (by omega)) (cwV 3 hts gX8_put_X8_changeValue rfl rfl rfl (by first | exact hd_X8_changeValue | decide +kernel) ⟨Nat.le_of_ble_eq_true rfl, Nat.le_of_ble_eq_true rfl⟩) hK hw (by first | exact Int.le_refl 0 | omega) (by first | exact zlt hc0 | omega) sl_0_0 rfl rfl hl.1 rfl (Nat.le_of_ble_eq_true rfl) dX8_put_76 ⟨Nat.le_of_ble_eq_true rfl, Nat.le_of_ble_eq_true rfl⟩) hS (fun z49 u50 H locs p51 hw hS => ?_)
            obtain ⟨X52, Y53, eu50, hRX52, hG54, hJ55, hCIX52, p51, hcvX52⟩ := p51
            subst eu50
            have hFX52 : Frm [2802, 2803, 2902, 1600] X X52 := Frm.tr Frm.rf (Frm.mono hG54 (by first | exact nls_of rfl | decide))
            have hHY53 : Frm [2801, 2804] Y Y53 := Frm.tr Frm.rf (Frm.mono hJ55 (by first | exact nls_of rfl | decide))
            rw [hQ9]
            refine ret_i (mc := 0) (ms := 0) hx hb hr hlocks hw hS (by first | exact Nat.le_of_ble_eq_true rfl | omega) (by first | exact Nat.le_of_ble_eq_true rfl | omega) dX8_put_79 ?_
            have hT56 : tyo (Y 15 x 0) = r6 := by rw [← ezz1]; exact tyo_some y5
            have hk57 : k < X 19 r6 1 := h5p3 r6 (by rw [← ezz1]; exact y5)
            rcases hcvX52 with ⟨c1, c2, c3, c4⟩ | ⟨c1, c2, c3, c4, c5, c6⟩
            · exact ⟨X52, Y53, rfl, hRX52, hFX52, hHY53, hCIX52, by omega, (by rw [hT56]; first | (have h9z : (z49 : Int) = -1 := (by omega); exact Or.inl ⟨(fun q => by (try delta Hid at *); omega), by omega⟩) | (have h9z : (z49 : Int) = -14 := (by omega); exact Or.inr (Or.inl ⟨(by (try delta Hid at *); omega), by omega, by omega⟩)) | (have h9z : (z49 : Int) = -17 := (by omega); exact Or.inr (Or.inr (Or.inl ⟨(by (try delta Hid at *); omega), by omega, by omega, (fun q => by (try delta Hid at *); omega), by omega⟩))) | (have h9z : (z49 : Int) = -4 := (by omega); exact Or.inr (Or.inr (Or.inr (Or.inl ⟨(by (try delta Hid at *); omega), by omega, (by (try delta Hid at *); omega), by omega, by omega⟩)))) | (have h9z : (z49 : Int) = 1 := (by omega); exact Or.inr (Or.inr (Or.inr (Or.inr (⟨(by (try delta Hid at *); omega), by omega, (by (try delta Hid at *); omega), by omega, by omega⟩))))) | exact Or.inl ⟨(fun q => by (try delta Hid at *); omega), by omega⟩ | exact Or.inr (Or.inl ⟨(by (try delta Hid at *); omega), by omega, by omega⟩) | exact Or.inr (Or.inr (Or.inl ⟨(by (try delta Hid at *); omega), by omega, by omega, (fun q => by (try delta Hid at *); omega), by omega⟩)) | exact Or.inr (Or.inr (Or.inr (Or.inl ⟨(by (try delta Hid at *); omega), by omega, (by (try delta Hid at *); omega), by omega, by omega⟩))) | exact Or.inr (Or.inr (Or.inr (Or.inr (⟨(by (try delta Hid at *); omega), by omega, (by (try delta Hid at *); omega), by omega, by omega⟩))))), fun _ => ⟨c3, c4⟩, fun q => (by exfalso; omega)⟩
            · exact ⟨X52, Y53, rfl, hRX52, hFX52, hHY53, hCIX52, by omega, (by rw [hT56]; first | (have h9z : (z49 : Int) = -1 := (by omega); exact Or.inl ⟨(fun q => by (try delta Hid at *); omega), by omega⟩) | (have h9z : (z49 : Int) = -14 := (by omega); exact Or.inr (Or.inl ⟨(by (try delta Hid at *); omega), by omega, by omega⟩)) | (have h9z : (z49 : Int) = -17 := (by omega); exact Or.inr (Or.inr (Or.inl ⟨(by (try delta Hid at *); omega), by omega, by omega, (fun q => by (try delta Hid at *); omega), by omega⟩))) | (have h9z : (z49 : Int) = -4 := (by omega); exact Or.inr (Or.inr (Or.inr (Or.inl ⟨(by (try delta Hid at *); omega), by omega, (by (try delta Hid at *); omega), by omega, by omega⟩)))) | (have h9z : (z49 : Int) = 1 := (by omega); exact Or.inr (Or.inr (Or.inr (Or.inr (⟨(by (try delta Hid at *); omega), by omega, (by (try delta Hid at *); omega), by omega, by omega⟩))))) | exact Or.inl ⟨(fun q => by (try delta Hid at *); omega), by omega⟩ | exact Or.inr (Or.inl ⟨(by (try delta Hid at *); omega), by omega, by omega⟩) | exact Or.inr (Or.inr (Or.inl ⟨(by (try delta Hid at *); omega), by omega, by omega, (fun q => by (try delta Hid at *); omega), by omega⟩)) | exact Or.inr (Or.inr (Or.inr (Or.inl ⟨(by (try delta Hid at *); omega), by omega, (by (try delta Hid at *); omega), by omega, by omega⟩))) | exact Or.inr (Or.inr (Or.inr (Or.inr (⟨(by (try delta Hid at *); omega), by omega, (by (try delta Hid at *); omega), by omega, by omega⟩))))), fun q => (by exfalso; omega), fun _ => (by rw [← ezz1]; exact ⟨c3, c4, c5, c6⟩)⟩
          · refine lv_lload_n hx hb dX8_put_49 rfl (lv_at hl 5 rfl) ?_
            refine lv_ldc2 (v := jL (-1)) hx hb hown (hts (.constantLong RX8 88 (-1)) (by first | exact gj_X8_put_0 _ (gp_1 (gp_1 gp_h)) | decide +kernel)) dX8_put_50 ?_
            refine x_lcmp hx hb (by omega) (by omega) dX8_put_53 ?_
            obtain ⟨z58, ez58⟩ : ∃ y : Int, y = cmpZ v (-1) := ⟨_, rfl⟩
            rw [← ez58]
            have gz58 : (z58 < 0 ↔ (v : Int) < (-1)) ∧ (z58 = 0 ↔ (v : Int) = (-1)) ∧ -1 ≤ z58 ∧ z58 ≤ 1 := by rw [ez58]; exact ⟨cmpZ_lt, cmpZ_eq, (cmpZ_r _ _).1, (cmpZ_r _ _).2⟩
            clear ez58
            refine x_if_eq (tgt := 71) hx hb (by omega) dX8_put_54 (by decide) (fun c59 => ?_) (fun c59 => ?_)
            · replace c59 := cz_eqT gz58 c59
              clear gz58
              refine lv_aload_n hx hb dX8_put_71 rfl (lv_at hl 2 rfl) ?_
              refine lv_aload hx hb dX8_put_72 (lv_at hl 1 rfl) ?_
              refine lv_iload_n hx hb dX8_put_74 rfl (lv_at hl 4 rfl) ?_
              refine lv_lload_n hx hb dX8_put_75 rfl (lv_at hl 5 rfl) ?_
              refine gos_i (run_V (As := [.ref (ad 15 z1), .int (jI k), .long (jL v)]) (rest := []) hx hb hml hown hts (c_X8_changeValue l D tc base ad cnt X Y ln hR hFx hLn hCI z1 k v (by omega) (by omega) (by omega)) (cwV 3 hts gX8_put_X8_changeValue rfl rfl rfl (by first | exact hd_X8_changeValue | decide +kernel) ⟨Nat.le_of_ble_eq_true rfl, Nat.le_of_ble_eq_true rfl⟩) hK hw (by first | exact Int.le_refl 0 | omega) (by first | exact zlt hc0 | omega) sl_0_0 rfl rfl hl.1 rfl (Nat.le_of_ble_eq_true rfl) dX8_put_76 ⟨Nat.le_of_ble_eq_true rfl, Nat.le_of_ble_eq_true rfl⟩) hS (fun z60 u61 H locs p62 hw hS => ?_)
              obtain ⟨X63, Y64, eu61, hRX63, hG65, hJ66, hCIX63, p62, hcvX63⟩ := p62
              subst eu61
              have hFX63 : Frm [2802, 2803, 2902, 1600] X X63 := Frm.tr Frm.rf (Frm.mono hG65 (by first | exact nls_of rfl | decide))
              have hHY64 : Frm [2801, 2804] Y Y64 := Frm.tr Frm.rf (Frm.mono hJ66 (by first | exact nls_of rfl | decide))
              rw [hQ9]
              refine ret_i (mc := 0) (ms := 0) hx hb hr hlocks hw hS (by first | exact Nat.le_of_ble_eq_true rfl | omega) (by first | exact Nat.le_of_ble_eq_true rfl | omega) dX8_put_79 ?_
              have hT67 : tyo (Y 15 x 0) = r6 := by rw [← ezz1]; exact tyo_some y5
              have hk68 : k < X 19 r6 1 := h5p3 r6 (by rw [← ezz1]; exact y5)
              rcases hcvX63 with ⟨c1, c2, c3, c4⟩ | ⟨c1, c2, c3, c4, c5, c6⟩
              · exact ⟨X63, Y64, rfl, hRX63, hFX63, hHY64, hCIX63, by omega, (by rw [hT67]; first | (have h9z : (z60 : Int) = -1 := (by omega); exact Or.inl ⟨(fun q => by (try delta Hid at *); omega), by omega⟩) | (have h9z : (z60 : Int) = -14 := (by omega); exact Or.inr (Or.inl ⟨(by (try delta Hid at *); omega), by omega, by omega⟩)) | (have h9z : (z60 : Int) = -17 := (by omega); exact Or.inr (Or.inr (Or.inl ⟨(by (try delta Hid at *); omega), by omega, by omega, (fun q => by (try delta Hid at *); omega), by omega⟩))) | (have h9z : (z60 : Int) = -4 := (by omega); exact Or.inr (Or.inr (Or.inr (Or.inl ⟨(by (try delta Hid at *); omega), by omega, (by (try delta Hid at *); omega), by omega, by omega⟩)))) | (have h9z : (z60 : Int) = 1 := (by omega); exact Or.inr (Or.inr (Or.inr (Or.inr (⟨(by (try delta Hid at *); omega), by omega, (by (try delta Hid at *); omega), by omega, by omega⟩))))) | exact Or.inl ⟨(fun q => by (try delta Hid at *); omega), by omega⟩ | exact Or.inr (Or.inl ⟨(by (try delta Hid at *); omega), by omega, by omega⟩) | exact Or.inr (Or.inr (Or.inl ⟨(by (try delta Hid at *); omega), by omega, by omega, (fun q => by (try delta Hid at *); omega), by omega⟩)) | exact Or.inr (Or.inr (Or.inr (Or.inl ⟨(by (try delta Hid at *); omega), by omega, (by (try delta Hid at *); omega), by omega, by omega⟩))) | exact Or.inr (Or.inr (Or.inr (Or.inr (⟨(by (try delta Hid at *); omega), by omega, (by (try delta Hid at *); omega), by omega, by omega⟩))))), fun _ => ⟨c3, c4⟩, fun q => (by exfalso; omega)⟩
              · exact ⟨X63, Y64, rfl, hRX63, hFX63, hHY64, hCIX63, by omega, (by rw [hT67]; first | (have h9z : (z60 : Int) = -1 := (by omega); exact Or.inl ⟨(fun q => by (try delta Hid at *); omega), by omega⟩) | (have h9z : (z60 : Int) = -14 := (by omega); exact Or.inr (Or.inl ⟨(by (try delta Hid at *); omega), by omega, by omega⟩)) | (have h9z : (z60 : Int) = -17 := (by omega); exact Or.inr (Or.inr (Or.inl ⟨(by (try delta Hid at *); omega), by omega, by omega, (fun q => by (try delta Hid at *); omega), by omega⟩))) | (have h9z : (z60 : Int) = -4 := (by omega); exact Or.inr (Or.inr (Or.inr (Or.inl ⟨(by (try delta Hid at *); omega), by omega, (by (try delta Hid at *); omega), by omega, by omega⟩)))) | (have h9z : (z60 : Int) = 1 := (by omega); exact Or.inr (Or.inr (Or.inr (Or.inr (⟨(by (try delta Hid at *); omega), by omega, (by (try delta Hid at *); omega), by omega, by omega⟩))))) | exact Or.inl ⟨(fun q => by (try delta Hid at *); omega), by omega⟩ | exact Or.inr (Or.inl ⟨(by (try delta Hid at *); omega), by omega, by omega⟩) | exact Or.inr (Or.inr (Or.inl ⟨(by (try delta Hid at *); omega), by omega, by omega, (fun q => by (try delta Hid at *); omega), by omega⟩)) | exact Or.inr (Or.inr (Or.inr (Or.inl ⟨(by (try delta Hid at *); omega), by omega, (by (try delta Hid at *); omega), by omega, by omega⟩))) | exact Or.inr (Or.inr (Or.inr (Or.inr (⟨(by (try delta Hid at *); omega), by omega, (by (try delta Hid at *); omega), by omega, by omega⟩))))), fun q => (by exfalso; omega), fun _ => (by rw [← ezz1]; exact ⟨c3, c4, c5, c6⟩)⟩
            · replace c59 := cz_eqF gz58 c59
              clear gz58
              refine lv_aload_n hx hb dX8_put_57 rfl (lv_at hl 2 rfl) ?_
              refine lv_lload_n hx hb dX8_put_58 rfl (lv_at hl 5 rfl) ?_
              refine gos_i (run_V (As := [.long (jL v)]) (rest := []) hx hb hml hown hts (c_X8_isWordInUse l D tc base ad cnt X Y ln hR hFx hLn v (by omega)) (cwV 1 hts gX8_put_X8_isWordInUse rfl rfl rfl (by first | exact hd_X8_isWordInUse | decide +kernel) ⟨Nat.le_of_ble_eq_true rfl, Nat.le_of_ble_eq_true rfl⟩) hK hw (by first | exact Int.le_refl 0 | omega) (by first | exact zlt hc0 | omega) sl_0_0 rfl rfl hl.1 rfl (Nat.le_of_ble_eq_true rfl) dX8_put_59 ⟨Nat.le_of_ble_eq_true rfl, Nat.le_of_ble_eq_true rfl⟩) hS (fun z69 u70 H locs p71 hw hS => ?_)
              obtain ⟨eu70, p71⟩ := p71
              subst eu70
              rcases p71 with ⟨ez69, p71⟩ | ⟨ez69, p71⟩
              · subst ez69
                refine x_if_neT (tgt := 71) hx hb (by omega) (by decide) dX8_put_62 (by decide) ?_
                refine lv_aload_n hx hb dX8_put_71 rfl (lv_at hl 2 rfl) ?_
                refine lv_aload hx hb dX8_put_72 (lv_at hl 1 rfl) ?_
                refine lv_iload_n hx hb dX8_put_74 rfl (lv_at hl 4 rfl) ?_
                refine lv_lload_n hx hb dX8_put_75 rfl (lv_at hl 5 rfl) ?_
                refine gos_i (run_V (As := [.ref (ad 15 z1), .int (jI k), .long (jL v)]) (rest := []) hx hb hml hown hts (c_X8_changeValue l D tc base ad cnt X Y ln hR hFx hLn hCI z1 k v (by omega) (by omega) (by omega)) (cwV 3 hts gX8_put_X8_changeValue rfl rfl rfl (by first | exact hd_X8_changeValue | decide +kernel) ⟨Nat.le_of_ble_eq_true rfl, Nat.le_of_ble_eq_true rfl⟩) hK hw (by first | exact Int.le_refl 0 | omega) (by first | exact zlt hc0 | omega) sl_0_0 rfl rfl hl.1 rfl (Nat.le_of_ble_eq_true rfl) dX8_put_76 ⟨Nat.le_of_ble_eq_true rfl, Nat.le_of_ble_eq_true rfl⟩) hS (fun z72 u73 H locs p74 hw hS => ?_)
                obtain ⟨X75, Y76, eu73, hRX75, hG77, hJ78, hCIX75, p74, hcvX75⟩ := p74
                subst eu73
                have hFX75 : Frm [2802, 2803, 2902, 1600] X X75 := Frm.tr Frm.rf (Frm.mono hG77 (by first | exact nls_of rfl | decide))
                have hHY76 : Frm [2801, 2804] Y Y76 := Frm.tr Frm.rf (Frm.mono hJ78 (by first | exact nls_of rfl | decide))
                rw [hQ9]
                refine ret_i (mc := 0) (ms := 0) hx hb hr hlocks hw hS (by first | exact Nat.le_of_ble_eq_true rfl | omega) (by first | exact Nat.le_of_ble_eq_true rfl | omega) dX8_put_79 ?_
                have hT79 : tyo (Y 15 x 0) = r6 := by rw [← ezz1]; exact tyo_some y5
                have hk80 : k < X 19 r6 1 := h5p3 r6 (by rw [← ezz1]; exact y5)
                rcases hcvX75 with ⟨c1, c2, c3, c4⟩ | ⟨c1, c2, c3, c4, c5, c6⟩
                · exact ⟨X75, Y76, rfl, hRX75, hFX75, hHY76, hCIX75, by omega, (by rw [hT79]; first | (have h9z : (z72 : Int) = -1 := (by omega); exact Or.inl ⟨(fun q => by (try delta Hid at *); omega), by omega⟩) | (have h9z : (z72 : Int) = -14 := (by omega); exact Or.inr (Or.inl ⟨(by (try delta Hid at *); omega), by omega, by omega⟩)) | (have h9z : (z72 : Int) = -17 := (by omega); exact Or.inr (Or.inr (Or.inl ⟨(by (try delta Hid at *); omega), by omega, by omega, (fun q => by (try delta Hid at *); omega), by omega⟩))) | (have h9z : (z72 : Int) = -4 := (by omega); exact Or.inr (Or.inr (Or.inr (Or.inl ⟨(by (try delta Hid at *); omega), by omega, (by (try delta Hid at *); omega), by omega, by omega⟩)))) | (have h9z : (z72 : Int) = 1 := (by omega); exact Or.inr (Or.inr (Or.inr (Or.inr (⟨(by (try delta Hid at *); omega), by omega, (by (try delta Hid at *); omega), by omega, by omega⟩))))) | exact Or.inl ⟨(fun q => by (try delta Hid at *); omega), by omega⟩ | exact Or.inr (Or.inl ⟨(by (try delta Hid at *); omega), by omega, by omega⟩) | exact Or.inr (Or.inr (Or.inl ⟨(by (try delta Hid at *); omega), by omega, by omega, (fun q => by (try delta Hid at *); omega), by omega⟩)) | exact Or.inr (Or.inr (Or.inr (Or.inl ⟨(by (try delta Hid at *); omega), by omega, (by (try delta Hid at *); omega), by omega, by omega⟩))) | exact Or.inr (Or.inr (Or.inr (Or.inr (⟨(by (try delta Hid at *); omega), by omega, (by (try delta Hid at *); omega), by omega, by omega⟩))))), fun _ => ⟨c3, c4⟩, fun q => (by exfalso; omega)⟩
                · exact ⟨X75, Y76, rfl, hRX75, hFX75, hHY76, hCIX75, by omega, (by rw [hT79]; first | (have h9z : (z72 : Int) = -1 := (by omega); exact Or.inl ⟨(fun q => by (try delta Hid at *); omega), by omega⟩) | (have h9z : (z72 : Int) = -14 := (by omega); exact Or.inr (Or.inl ⟨(by (try delta Hid at *); omega), by omega, by omega⟩)) | (have h9z : (z72 : Int) = -17 := (by omega); exact Or.inr (Or.inr (Or.inl ⟨(by (try delta Hid at *); omega), by omega, by omega, (fun q => by (try delta Hid at *); omega), by omega⟩))) | (have h9z : (z72 : Int) = -4 := (by omega); exact Or.inr (Or.inr (Or.inr (Or.inl ⟨(by (try delta Hid at *); omega), by omega, (by (try delta Hid at *); omega), by omega, by omega⟩)))) | (have h9z : (z72 : Int) = 1 := (by omega); exact Or.inr (Or.inr (Or.inr (Or.inr (⟨(by (try delta Hid at *); omega), by omega, (by (try delta Hid at *); omega), by omega, by omega⟩))))) | exact Or.inl ⟨(fun q => by (try delta Hid at *); omega), by omega⟩ | exact Or.inr (Or.inl ⟨(by (try delta Hid at *); omega), by omega, by omega⟩) | exact Or.inr (Or.inr (Or.inl ⟨(by (try delta Hid at *); omega), by omega, by omega, (fun q => by (try delta Hid at *); omega), by omega⟩)) | exact Or.inr (Or.inr (Or.inr (Or.inl ⟨(by (try delta Hid at *); omega), by omega, (by (try delta Hid at *); omega), by omega, by omega⟩))) | exact Or.inr (Or.inr (Or.inr (Or.inr (⟨(by (try delta Hid at *); omega), by omega, (by (try delta Hid at *); omega), by omega, by omega⟩))))), fun q => (by exfalso; omega), fun _ => (by rw [← ezz1]; exact ⟨c3, c4, c5, c6⟩)⟩
              · subst ez69
                refine x_if_neF (tgt := 71) hx hb (by omega) (by decide) dX8_put_62 (by decide) ?_
                refine lv_bipush (v := jI 7) hx hb dX8_put_65 (by decide) ?_
                refine gos_i (run_S (As := [.int (jI 7)]) (rest := []) hx hb hml hown hts (c_X8_failed l D tc base ad cnt X Y ln 7 (by omega)) (cwS 1 hts gX8_put_X8_failed rfl rfl rfl (by first | exact hd_X8_failed | decide +kernel) ⟨Nat.le_of_ble_eq_true rfl, Nat.le_of_ble_eq_true rfl⟩) hK hw rfl hl.1 rfl (Nat.le_of_ble_eq_true rfl) dX8_put_67 ⟨Nat.le_of_ble_eq_true rfl, Nat.le_of_ble_eq_true rfl⟩) hS (fun z81 u82 H locs p83 hw hS => ?_)
                obtain ⟨eu82, p83⟩ := p83
                subst eu82
                rw [hQ9]
                refine ret_i (mc := 0) (ms := 0) hx hb hr hlocks hw hS (by first | exact Nat.le_of_ble_eq_true rfl | omega) (by first | exact Nat.le_of_ble_eq_true rfl | omega) dX8_put_70 ?_
                have hT84 : tyo (Y 15 x 0) = r6 := by rw [← ezz1]; exact tyo_some y5
                have hk85 : k < X 19 r6 1 := h5p3 r6 (by rw [← ezz1]; exact y5)
                exact ⟨X, Y, rfl, hR, Frm.rf, Frm.rf, hCI, by omega, (by rw [hT84]; first | (have h9z : (z81 : Int) = -1 := (by omega); exact Or.inl ⟨(fun q => by (try delta Hid at *); omega), by omega⟩) | (have h9z : (z81 : Int) = -14 := (by omega); exact Or.inr (Or.inl ⟨(by (try delta Hid at *); omega), by omega, by omega⟩)) | (have h9z : (z81 : Int) = -17 := (by omega); exact Or.inr (Or.inr (Or.inl ⟨(by (try delta Hid at *); omega), by omega, by omega, (fun q => by (try delta Hid at *); omega), by omega⟩))) | (have h9z : (z81 : Int) = -4 := (by omega); exact Or.inr (Or.inr (Or.inr (Or.inl ⟨(by (try delta Hid at *); omega), by omega, (by (try delta Hid at *); omega), by omega, by omega⟩)))) | (have h9z : (z81 : Int) = 1 := (by omega); exact Or.inr (Or.inr (Or.inr (Or.inr (⟨(by (try delta Hid at *); omega), by omega, (by (try delta Hid at *); omega), by omega, by omega⟩))))) | exact Or.inl ⟨(fun q => by (try delta Hid at *); omega), by omega⟩ | exact Or.inr (Or.inl ⟨(by (try delta Hid at *); omega), by omega, by omega⟩) | exact Or.inr (Or.inr (Or.inl ⟨(by (try delta Hid at *); omega), by omega, by omega, (fun q => by (try delta Hid at *); omega), by omega⟩)) | exact Or.inr (Or.inr (Or.inr (Or.inl ⟨(by (try delta Hid at *); omega), by omega, (by (try delta Hid at *); omega), by omega, by omega⟩))) | exact Or.inr (Or.inr (Or.inr (Or.inr (⟨(by (try delta Hid at *); omega), by omega, (by (try delta Hid at *); omega), by omega, by omega⟩))))), fun _ => ⟨rfl, rfl⟩, fun q => (by exfalso; omega)⟩
        · refine lv_iconst (v := jI 4) hx hb dX8_put_38 rfl ?_
          refine gos_i (run_S (As := [.int (jI 4)]) (rest := []) hx hb hml hown hts (c_X8_failed l D tc base ad cnt X Y ln 4 (by omega)) (cwS 1 hts gX8_put_X8_failed rfl rfl rfl (by first | exact hd_X8_failed | decide +kernel) ⟨Nat.le_of_ble_eq_true rfl, Nat.le_of_ble_eq_true rfl⟩) hK hw rfl hl.1 rfl (Nat.le_of_ble_eq_true rfl) dX8_put_39 ⟨Nat.le_of_ble_eq_true rfl, Nat.le_of_ble_eq_true rfl⟩) hS (fun z86 u87 H locs p88 hw hS => ?_)
          obtain ⟨eu87, p88⟩ := p88
          subst eu87
          rw [hQ9]
          refine ret_i (mc := 0) (ms := 0) hx hb hr hlocks hw hS (by first | exact Nat.le_of_ble_eq_true rfl | omega) (by first | exact Nat.le_of_ble_eq_true rfl | omega) dX8_put_42 ?_
          have hT89 : tyo (Y 15 x 0) = r6 := by rw [← ezz1]; exact tyo_some y5
          have hk90 : k < X 19 r6 1 := h5p3 r6 (by rw [← ezz1]; exact y5)
          exact ⟨X, Y, rfl, hR, Frm.rf, Frm.rf, hCI, by omega, (by rw [hT89]; first | (have h9z : (z86 : Int) = -1 := (by omega); exact Or.inl ⟨(fun q => by (try delta Hid at *); omega), by omega⟩) | (have h9z : (z86 : Int) = -14 := (by omega); exact Or.inr (Or.inl ⟨(by (try delta Hid at *); omega), by omega, by omega⟩)) | (have h9z : (z86 : Int) = -17 := (by omega); exact Or.inr (Or.inr (Or.inl ⟨(by (try delta Hid at *); omega), by omega, by omega, (fun q => by (try delta Hid at *); omega), by omega⟩))) | (have h9z : (z86 : Int) = -4 := (by omega); exact Or.inr (Or.inr (Or.inr (Or.inl ⟨(by (try delta Hid at *); omega), by omega, (by (try delta Hid at *); omega), by omega, by omega⟩)))) | (have h9z : (z86 : Int) = 1 := (by omega); exact Or.inr (Or.inr (Or.inr (Or.inr (⟨(by (try delta Hid at *); omega), by omega, (by (try delta Hid at *); omega), by omega, by omega⟩))))) | exact Or.inl ⟨(fun q => by (try delta Hid at *); omega), by omega⟩ | exact Or.inr (Or.inl ⟨(by (try delta Hid at *); omega), by omega, by omega⟩) | exact Or.inr (Or.inr (Or.inl ⟨(by (try delta Hid at *); omega), by omega, by omega, (fun q => by (try delta Hid at *); omega), by omega⟩)) | exact Or.inr (Or.inr (Or.inr (Or.inl ⟨(by (try delta Hid at *); omega), by omega, (by (try delta Hid at *); omega), by omega, by omega⟩))) | exact Or.inr (Or.inr (Or.inr (Or.inr (⟨(by (try delta Hid at *); omega), by omega, (by (try delta Hid at *); omega), by omega, by omega⟩))))), fun _ => ⟨rfl, rfl⟩, fun q => (by exfalso; omega)⟩

set_option maxHeartbeats 4000000 in
set_option maxRecDepth 100000 in
theorem c_X8_refer (l : Launch) (D : va_G) (tc : Nat → ClassId) (base : Nat) (ad : Nat → Int → Nat) (cnt : Nat → Int) (X : Nat → Int → Int → Int) (Y : Nat → Int → Int → Option Int) (ln : Int → Int) (hR : Rng X) (hFx : Fx cnt) (hLn : LnOK ln) (hCI : CInv cnt X Y ln) (x k y : Int) (hx : -2147483648 ≤ x ∧ x ≤ 2147483647) (hk : -2147483648 ≤ k ∧ k ≤ 2147483647) (hy : -2147483648 ≤ y ∧ y ≤ 2147483647) : KI l D tc base yX8_refer wsX8_refer ({ frames := 4, cells := 0, slots := 0, locals := 92 } : Room) [.ref (ad 0 0), .int (jI x), .int (jI k), .int (jI y)] (ad, cnt, X, Y, ln) 0 0 (fun z u => ∃ (X1 : Nat → Int → Int → Int) (Y1 : Nat → Int → Int → Option Int), u = (ad, cnt, X1, Y1, ln) ∧ Rng X1 ∧ Frm [2802, 2803, 2902, 1600] X X1 ∧ Frm [2801, 2804] Y Y1 ∧ CInv cnt X1 Y1 ln ∧ (-2147483648 ≤ z ∧ z ≤ 2147483647) ∧ ((¬ ((0 ≤ x ∧ x < X 0 0 3 ∧ 0 ≤ k ∧ k < X 19 (tyo (Y 15 x 0)) 1) ∧ (y = -1 ∨ (0 ≤ y ∧ y < X 0 0 3))) ∧ z = -1) ∨ ((0 ≤ x ∧ x < X 0 0 3 ∧ 0 ≤ k ∧ k < X 19 (tyo (Y 15 x 0)) 1) ∧ (y = -1 ∨ (0 ≤ y ∧ y < X 0 0 3)) ∧ X 21 (tyo (Y 15 x 0)) k ≠ 2 ∧ z = -14) ∨ ((0 ≤ x ∧ x < X 0 0 3 ∧ 0 ≤ k ∧ k < X 19 (tyo (Y 15 x 0)) 1) ∧ (y = -1 ∨ (0 ≤ y ∧ y < X 0 0 3)) ∧ X 21 (tyo (Y 15 x 0)) k = 2 ∧ 80 ≤ X 29 0 1 ∧ z = -4) ∨ ((0 ≤ x ∧ x < X 0 0 3 ∧ 0 ≤ k ∧ k < X 19 (tyo (Y 15 x 0)) 1) ∧ (y = -1 ∨ (0 ≤ y ∧ y < X 0 0 3)) ∧ X 21 (tyo (Y 15 x 0)) k = 2 ∧ X 29 0 1 ≤ 79 ∧ z = 1)) ∧ (z < 0 → X1 = X ∧ Y1 = Y) ∧ (z = 1 → eNoteC X X1 Y Y1 (some x) k (X 16 x k) (Y 17 x k) ∧ X1 16 x k = y ∧ (∀ p j, ¬ (p = x ∧ j = k) → X1 16 p j = X 16 p j) ∧ ∀ p j, Y1 17 p j = Y 17 p j)) := by
  refine K_of (cc := cX8_refer) (maxL := 5) (ret := (some .int)) (by decide) rfl (Nat.le_of_ble_eq_true rfl) ?_
  intro p e s m below meth c ls hx hb hr hml hown hts hlocks hl hK hw hS
  have hown : s.vm.findClass RX8 = some m.cls := hown
  obtain ⟨av9, hav9⟩ : ∃ a9 : Array Value, a9 = ([.ref (ad 0 0), .int (jI x), .int (jI k), .int (jI y)] : List Value).toArray := ⟨_, rfl⟩
  rw [← hav9] at hts ⊢
  obtain ⟨Q9, hQ9⟩ : ∃ q9Q : State → Prop, q9Q = MQ below (QI D tc base (fun z u => ∃ (X1 : Nat → Int → Int → Int) (Y1 : Nat → Int → Int → Option Int), u = (ad, cnt, X1, Y1, ln) ∧ Rng X1 ∧ Frm [2802, 2803, 2902, 1600] X X1 ∧ Frm [2801, 2804] Y Y1 ∧ CInv cnt X1 Y1 ln ∧ (-2147483648 ≤ z ∧ z ≤ 2147483647) ∧ ((¬ ((0 ≤ x ∧ x < X 0 0 3 ∧ 0 ≤ k ∧ k < X 19 (tyo (Y 15 x 0)) 1) ∧ (y = -1 ∨ (0 ≤ y ∧ y < X 0 0 3))) ∧ z = -1) ∨ ((0 ≤ x ∧ x < X 0 0 3 ∧ 0 ≤ k ∧ k < X 19 (tyo (Y 15 x 0)) 1) ∧ (y = -1 ∨ (0 ≤ y ∧ y < X 0 0 3)) ∧ X 21 (tyo (Y 15 x 0)) k ≠ 2 ∧ z = -14) ∨ ((0 ≤ x ∧ x < X 0 0 3 ∧ 0 ≤ k ∧ k < X 19 (tyo (Y 15 x 0)) 1) ∧ (y = -1 ∨ (0 ≤ y ∧ y < X 0 0 3)) ∧ X 21 (tyo (Y 15 x 0)) k = 2 ∧ 80 ≤ X 29 0 1 ∧ z = -4) ∨ ((0 ≤ x ∧ x < X 0 0 3 ∧ 0 ≤ k ∧ k < X 19 (tyo (Y 15 x 0)) 1) ∧ (y = -1 ∨ (0 ≤ y ∧ y < X 0 0 3)) ∧ X 21 (tyo (Y 15 x 0)) k = 2 ∧ X 29 0 1 ≤ 79 ∧ z = 1)) ∧ (z < 0 → X1 = X ∧ Y1 = Y) ∧ (z = 1 → eNoteC X X1 Y Y1 (some x) k (X 16 x k) (Y 17 x k) ∧ X1 16 x k = y ∧ (∀ p j, ¬ (p = x ∧ j = k) → X1 16 p j = X 16 p j) ∧ ∀ p j, Y1 17 p j = Y 17 p j))) av9 s 0 0 (frA base) := ⟨_, rfl⟩
  rw [← hQ9]
  have hi6 : ∀ w ∈ wsX60, w ∈ wsX8_refer := fun w h => List.mem_cons_of_mem _ (List.mem_append_left _ (List.mem_append_left _ (List.mem_append_left _ (List.mem_append_right _ h))))
  have hf6 : fctx s m _ RX8 wsX8_refer D tc RX6 TX6 4 6 := ⟨hts, hi6, hown, hK.1, rfl⟩
  have hi7 : ∀ w ∈ wsX70, w ∈ wsX8_refer := fun w h => List.mem_cons_of_mem _ (List.mem_append_left _ (List.mem_append_left _ (List.mem_append_right _ h)))
  have hf7 : fctx s m _ RX8 wsX8_refer D tc RX7 TX7 8 7 := ⟨hts, hi7, hown, hK.1, rfl⟩
  have hi8 : ∀ w ∈ wsX80, w ∈ wsX8_refer := fun w h => List.mem_cons_of_mem _ (List.mem_append_left _ (List.mem_append_left _ (List.mem_append_left _ (List.mem_append_left _ (List.mem_append_right _ h)))))
  have hf8 : fctx s m _ RX8 wsX8_refer D tc RX8 TX8 12 8 := ⟨hts, hi8, hown, hK.1, rfl⟩
  have lk94 := hts (.fieldLink RX8 94 (TX8 3).1 (TX8 3).2.1 (TX8 3).2.2.1) (gj_X8_refer_0 _ (gp_h))
  have lk97 := hts (.fieldLink RX8 97 (TX6 0).1 (TX6 0).2.1 (TX6 0).2.2.1) (gj_X8_refer_0 _ (gp_1 gp_h))
  have lk135 := hts (.fieldLink RX8 135 (TX7 3).1 (TX7 3).2.1 (TX7 3).2.2.1) (gj_X8_refer_0 _ (gp_1 (gp_1 gp_h)))
  have hc0 : cnt 0 = 1 := hFx.at 0 1 (by decide)
  have hc15 : cnt 15 = 30 := hFx.at 15 30 (by decide)
  have hc21 : cnt 21 = cnt 19 := hFx.2.1 21 (by decide)
  have hl : lv_has ls 5 [(0, .ref (ad 0 0)), (1, .int (jI x)), (2, .int (jI k)), (3, .int (jI y))] := hl
  have ftc : 0 ≤ X 0 0 3 ∧ X 0 0 3 ≤ 30 := hR 0 0 3
  have fty : 0 ≤ X 0 0 1 ∧ X 0 0 1 ≤ 8 := hR 0 0 1
  have hct : cnt 19 = X 0 0 1 := hCI.2.2.2.1.1
  have hfj : 0 ≤ X 29 0 3 ∧ X 29 0 3 ≤ 4 := hR 29 0 3
  have hfn : 0 ≤ X 29 0 1 ∧ X 29 0 1 ≤ 80 := hR 29 0 1
  refine lv_aload_n hx hb dX8_refer_0 rfl (lv_at hl 0 rfl) ?_
  refine lv_iload_n hx hb dX8_refer_1 rfl (lv_at hl 1 rfl) ?_
  refine lv_iload_n hx hb dX8_refer_2 rfl (lv_at hl 2 rfl) ?_
  refine gos_r (run_V (As := [.int (jI x), .int (jI k)]) (rest := []) hx hb hml hown hts (c_X8_thingWithField l D tc base ad cnt X Y ln hR hFx hLn hCI x k (by omega) (by omega)) (cwV 2 hts gX8_refer_X8_thingWithField rfl rfl rfl (by first | exact hd_X8_thingWithField | decide +kernel) ⟨Nat.le_of_ble_eq_true rfl, Nat.le_of_ble_eq_true rfl⟩) hK hw (by first | exact Int.le_refl 0 | omega) (by first | exact zlt hc0 | omega) sl_0_0 rfl rfl hl.1 rfl (Nat.le_of_ble_eq_true rfl) dX8_refer_3 ⟨Nat.le_of_ble_eq_true rfl, Nat.le_of_ble_eq_true rfl⟩) hS (fun u2 H locs p3 hw hS => ?_) (fun z1 u2 H locs p3 hw hS => ?_)
  · obtain ⟨eu2, hsp3, hnp3⟩ := p3
    subst eu2
    refine lv_astoreN (lv' := [(4, .null), (0, .ref (ad 0 0)), (1, .int (jI x)), (2, .int (jI k)), (3, .int (jI y))]) hx hb dX8_refer_6 hl (by decide) rfl (fun ls hl => ?_)
    refine lv_aloadN hx hb dX8_refer_8 (lv_at hl 0 rfl) ?_
    refine lv_ifnullN (tgt := 29) hx hb dX8_refer_10 (by decide) ?_
    refine lv_iconst (v := jI (-1)) hx hb dX8_refer_29 rfl ?_
    rw [hQ9]
    refine ret_i (mc := 0) (ms := 0) hx hb hr hlocks hw hS (by first | exact Nat.le_of_ble_eq_true rfl | omega) (by first | exact Nat.le_of_ble_eq_true rfl | omega) dX8_refer_30 ?_
    have h9n4 : ¬ (0 ≤ x ∧ x < X 0 0 3 ∧ 0 ≤ k ∧ k < X 19 (tyo (Y 15 x 0)) 1) := hnp3 rfl
    exact ⟨X, Y, rfl, hR, Frm.rf, Frm.rf, hCI, by omega, (by exact Or.inl ⟨(fun q => by (try delta Hid at *); omega), by omega⟩), fun _ => ⟨rfl, rfl⟩, fun q => (by exfalso; omega)⟩
  · obtain ⟨eu2, hsp3, hnp3⟩ := p3
    subst eu2
    obtain ⟨ezz1, p3, h1p3, h2p3, h3p3, h4p3, h5p3⟩ := hsp3 z1 rfl
    refine lv_astore (lv' := [(4, .ref (ad 15 z1)), (0, .ref (ad 0 0)), (1, .int (jI x)), (2, .int (jI k)), (3, .int (jI y))]) hx hb dX8_refer_6 hl (by decide) rfl (fun ls hl => ?_)
    refine lv_aload hx hb dX8_refer_8 (lv_at hl 0 rfl) ?_
    refine lv_ifnull hx hb dX8_refer_10 ?_
    refine lv_iload_n hx hb dX8_refer_13 rfl (lv_at hl 4 rfl) ?_
    refine lv_iconst (v := jI (-1)) hx hb dX8_refer_14 rfl ?_
    refine x_icmp_eq (tgt := 31) hx hb (by omega) (by omega) dX8_refer_15 (by decide) (fun c5 => ?_) (fun c5 => ?_)
    · refine lv_aload hx hb dX8_refer_31 (lv_at hl 0 rfl) ?_
      refine x_getr (jz := 0) hx hb hf6 hw (by omega) (by omega) sl_15_0 rfl lk97 dX8_refer_33 (fun y6 => ?_) (fun r7 y6 gr7 lr7 => ?_)
      · exfalso
        exact absurd y6 (hCI.2.2.2.2.1 z1 (by omega) (by omega))
      · refine x_geto hx hb hf7 hw (by omega) (by omega) sl_19_3 lk135 dX8_refer_36 ?_
        refine lv_iload_n hx hb dX8_refer_39 rfl (lv_at hl 3 rfl) ?_
        refine x_iald hx hb hK.1 hw (by omega) (by omega) ar_21 (len_E ar_21 (by first | exact Nat.ne_of_beq_eq_false rfl | decide)) (by omega) (by omega) (by omega) dX8_refer_40 ?_
        have f8 : 0 ≤ X 21 r7 k ∧ X 21 r7 k ≤ 5 := hR 21 r7 k
        refine lv_iconst (v := jI 2) hx hb dX8_refer_41 rfl ?_
        refine x_icmp_eq (tgt := 50) hx hb (by omega) (by omega) dX8_refer_42 (by decide) (fun c9 => ?_) (fun c9 => ?_)
        · refine lv_aload_n hx hb dX8_refer_50 rfl (lv_at hl 1 rfl) ?_
          refine lv_aload hx hb dX8_refer_51 (lv_at hl 0 rfl) ?_
          refine lv_iload_n hx hb dX8_refer_53 rfl (lv_at hl 3 rfl) ?_
          refine lv_iload_n hx hb dX8_refer_54 rfl (lv_at hl 4 rfl) ?_
          refine x_i2l hx hb (by omega) dX8_refer_55 ?_
          refine gos_i (run_V (As := [.ref (ad 15 z1), .int (jI k), .long (jL y)]) (rest := []) hx hb hml hown hts (c_X8_changeValue l D tc base ad cnt X Y ln hR hFx hLn hCI z1 k y (by omega) (by omega) (by omega)) (cwV 3 hts gX8_refer_X8_changeValue rfl rfl rfl (by first | exact hd_X8_changeValue | decide +kernel) ⟨Nat.le_of_ble_eq_true rfl, Nat.le_of_ble_eq_true rfl⟩) hK hw (by first | exact Int.le_refl 0 | omega) (by first | exact zlt hc0 | omega) sl_0_0 rfl rfl hl.1 rfl (Nat.le_of_ble_eq_true rfl) dX8_refer_56 ⟨Nat.le_of_ble_eq_true rfl, Nat.le_of_ble_eq_true rfl⟩) hS (fun z10 u11 H locs p12 hw hS => ?_)
          obtain ⟨X13, Y14, eu11, hRX13, hG15, hJ16, hCIX13, p12, hcvX13⟩ := p12
          subst eu11
          have hFX13 : Frm [2802, 2803, 2902, 1600] X X13 := Frm.tr Frm.rf (Frm.mono hG15 (by first | exact nls_of rfl | decide))
          have hHY14 : Frm [2801, 2804] Y Y14 := Frm.tr Frm.rf (Frm.mono hJ16 (by first | exact nls_of rfl | decide))
          rw [hQ9]
          refine ret_i (mc := 0) (ms := 0) hx hb hr hlocks hw hS (by first | exact Nat.le_of_ble_eq_true rfl | omega) (by first | exact Nat.le_of_ble_eq_true rfl | omega) dX8_refer_59 ?_
          have hT17 : tyo (Y 15 x 0) = r7 := by rw [← ezz1]; exact tyo_some y6
          have hk18 : k < X 19 r7 1 := h5p3 r7 (by rw [← ezz1]; exact y6)
          rcases hcvX13 with ⟨c1, c2, c3, c4⟩ | ⟨c1, c2, c3, c4, c5, c6⟩
          · exact ⟨X13, Y14, rfl, hRX13, hFX13, hHY14, hCIX13, by omega, (by rw [hT17]; first | (have h9z : (z10 : Int) = -1 := (by omega); exact Or.inl ⟨(fun q => by (try delta Hid at *); omega), by omega⟩) | (have h9z : (z10 : Int) = -14 := (by omega); exact Or.inr (Or.inl ⟨(by (try delta Hid at *); omega), (by (try delta Hid at *); omega), by omega, by omega⟩)) | (have h9z : (z10 : Int) = -4 := (by omega); exact Or.inr (Or.inr (Or.inl ⟨(by (try delta Hid at *); omega), (by (try delta Hid at *); omega), by omega, by omega, by omega⟩))) | (have h9z : (z10 : Int) = 1 := (by omega); exact Or.inr (Or.inr (Or.inr (⟨(by (try delta Hid at *); omega), (by (try delta Hid at *); omega), by omega, by omega, by omega⟩)))) | exact Or.inl ⟨(fun q => by (try delta Hid at *); omega), by omega⟩ | exact Or.inr (Or.inl ⟨(by (try delta Hid at *); omega), (by (try delta Hid at *); omega), by omega, by omega⟩) | exact Or.inr (Or.inr (Or.inl ⟨(by (try delta Hid at *); omega), (by (try delta Hid at *); omega), by omega, by omega, by omega⟩)) | exact Or.inr (Or.inr (Or.inr (⟨(by (try delta Hid at *); omega), (by (try delta Hid at *); omega), by omega, by omega, by omega⟩)))), fun _ => ⟨c3, c4⟩, fun q => (by exfalso; omega)⟩
          · exact ⟨X13, Y14, rfl, hRX13, hFX13, hHY14, hCIX13, by omega, (by rw [hT17]; first | (have h9z : (z10 : Int) = -1 := (by omega); exact Or.inl ⟨(fun q => by (try delta Hid at *); omega), by omega⟩) | (have h9z : (z10 : Int) = -14 := (by omega); exact Or.inr (Or.inl ⟨(by (try delta Hid at *); omega), (by (try delta Hid at *); omega), by omega, by omega⟩)) | (have h9z : (z10 : Int) = -4 := (by omega); exact Or.inr (Or.inr (Or.inl ⟨(by (try delta Hid at *); omega), (by (try delta Hid at *); omega), by omega, by omega, by omega⟩))) | (have h9z : (z10 : Int) = 1 := (by omega); exact Or.inr (Or.inr (Or.inr (⟨(by (try delta Hid at *); omega), (by (try delta Hid at *); omega), by omega, by omega, by omega⟩)))) | exact Or.inl ⟨(fun q => by (try delta Hid at *); omega), by omega⟩ | exact Or.inr (Or.inl ⟨(by (try delta Hid at *); omega), (by (try delta Hid at *); omega), by omega, by omega⟩) | exact Or.inr (Or.inr (Or.inl ⟨(by (try delta Hid at *); omega), (by (try delta Hid at *); omega), by omega, by omega, by omega⟩)) | exact Or.inr (Or.inr (Or.inr (⟨(by (try delta Hid at *); omega), (by (try delta Hid at *); omega), by omega, by omega, by omega⟩)))), fun q => (by exfalso; omega), fun _ => (by rw [← ezz1]; exact ⟨c3, c4, c5, c6⟩)⟩
        · refine lv_iconst (v := jI 4) hx hb dX8_refer_45 rfl ?_
          refine gos_i (run_S (As := [.int (jI 4)]) (rest := []) hx hb hml hown hts (c_X8_failed l D tc base ad cnt X Y ln 4 (by omega)) (cwS 1 hts gX8_refer_X8_failed rfl rfl rfl (by first | exact hd_X8_failed | decide +kernel) ⟨Nat.le_of_ble_eq_true rfl, Nat.le_of_ble_eq_true rfl⟩) hK hw rfl hl.1 rfl (Nat.le_of_ble_eq_true rfl) dX8_refer_46 ⟨Nat.le_of_ble_eq_true rfl, Nat.le_of_ble_eq_true rfl⟩) hS (fun z19 u20 H locs p21 hw hS => ?_)
          obtain ⟨eu20, p21⟩ := p21
          subst eu20
          rw [hQ9]
          refine ret_i (mc := 0) (ms := 0) hx hb hr hlocks hw hS (by first | exact Nat.le_of_ble_eq_true rfl | omega) (by first | exact Nat.le_of_ble_eq_true rfl | omega) dX8_refer_49 ?_
          have hT22 : tyo (Y 15 x 0) = r7 := by rw [← ezz1]; exact tyo_some y6
          have hk23 : k < X 19 r7 1 := h5p3 r7 (by rw [← ezz1]; exact y6)
          exact ⟨X, Y, rfl, hR, Frm.rf, Frm.rf, hCI, by omega, (by rw [hT22]; first | (have h9z : (z19 : Int) = -1 := (by omega); exact Or.inl ⟨(fun q => by (try delta Hid at *); omega), by omega⟩) | (have h9z : (z19 : Int) = -14 := (by omega); exact Or.inr (Or.inl ⟨(by (try delta Hid at *); omega), (by (try delta Hid at *); omega), by omega, by omega⟩)) | (have h9z : (z19 : Int) = -4 := (by omega); exact Or.inr (Or.inr (Or.inl ⟨(by (try delta Hid at *); omega), (by (try delta Hid at *); omega), by omega, by omega, by omega⟩))) | (have h9z : (z19 : Int) = 1 := (by omega); exact Or.inr (Or.inr (Or.inr (⟨(by (try delta Hid at *); omega), (by (try delta Hid at *); omega), by omega, by omega, by omega⟩)))) | exact Or.inl ⟨(fun q => by (try delta Hid at *); omega), by omega⟩ | exact Or.inr (Or.inl ⟨(by (try delta Hid at *); omega), (by (try delta Hid at *); omega), by omega, by omega⟩) | exact Or.inr (Or.inr (Or.inl ⟨(by (try delta Hid at *); omega), (by (try delta Hid at *); omega), by omega, by omega, by omega⟩)) | exact Or.inr (Or.inr (Or.inr (⟨(by (try delta Hid at *); omega), (by (try delta Hid at *); omega), by omega, by omega, by omega⟩)))), fun _ => ⟨rfl, rfl⟩, fun q => (by exfalso; omega)⟩
    · refine lv_iload_n hx hb dX8_refer_18 rfl (lv_at hl 4 rfl) ?_
      refine lv_aload_n hx hb dX8_refer_19 rfl (lv_at hl 1 rfl) ?_
      refine x_geti (jz := 3) hx hb hf8 hw (by first | exact Int.le_refl 0 | omega) (by first | exact zlt hc0 | omega) sl_0_3 rfl lk94 dX8_refer_20 ?_
      have f24 : 0 ≤ X 0 0 3 ∧ X 0 0 3 ≤ 30 := hR 0 0 3
      refine gos_i (run_S (As := [.int (jI y), .int (jI (X 0 0 3))]) (rest := []) hx hb hml hown hts (c_X8_isBelow l D tc base ad cnt X Y ln y (X 0 0 3) (by omega) (by omega)) (cwS 2 hts gX8_refer_X8_isBelow rfl rfl rfl (by first | exact hd_X8_isBelow | decide +kernel) ⟨Nat.le_of_ble_eq_true rfl, Nat.le_of_ble_eq_true rfl⟩) hK hw rfl hl.1 rfl (Nat.le_of_ble_eq_true rfl) dX8_refer_23 ⟨Nat.le_of_ble_eq_true rfl, Nat.le_of_ble_eq_true rfl⟩) hS (fun z25 u26 H locs p27 hw hS => ?_)
      obtain ⟨eu26, p27⟩ := p27
      subst eu26
      rcases p27 with ⟨ez25, p27⟩ | ⟨ez25, p27⟩
      · subst ez25
        refine x_if_neT (tgt := 31) hx hb (by omega) (by decide) dX8_refer_26 (by decide) ?_
        refine lv_aload hx hb dX8_refer_31 (lv_at hl 0 rfl) ?_
        refine x_getr (jz := 0) hx hb hf6 hw (by omega) (by omega) sl_15_0 rfl lk97 dX8_refer_33 (fun y28 => ?_) (fun r29 y28 gr29 lr29 => ?_)
        · exfalso
          exact absurd y28 (hCI.2.2.2.2.1 z1 (by omega) (by omega))
        · refine x_geto hx hb hf7 hw (by omega) (by omega) sl_19_3 lk135 dX8_refer_36 ?_
          refine lv_iload_n hx hb dX8_refer_39 rfl (lv_at hl 3 rfl) ?_
          refine x_iald hx hb hK.1 hw (by omega) (by omega) ar_21 (len_E ar_21 (by first | exact Nat.ne_of_beq_eq_false rfl | decide)) (by omega) (by omega) (by omega) dX8_refer_40 ?_
          have f30 : 0 ≤ X 21 r29 k ∧ X 21 r29 k ≤ 5 := hR 21 r29 k
          refine lv_iconst (v := jI 2) hx hb dX8_refer_41 rfl ?_
          refine x_icmp_eq (tgt := 50) hx hb (by omega) (by omega) dX8_refer_42 (by decide) (fun c31 => ?_) (fun c31 => ?_)
          · refine lv_aload_n hx hb dX8_refer_50 rfl (lv_at hl 1 rfl) ?_
            refine lv_aload hx hb dX8_refer_51 (lv_at hl 0 rfl) ?_
            refine lv_iload_n hx hb dX8_refer_53 rfl (lv_at hl 3 rfl) ?_
            refine lv_iload_n hx hb dX8_refer_54 rfl (lv_at hl 4 rfl) ?_
            refine x_i2l hx hb (by omega) dX8_refer_55 ?_
            refine gos_i (run_V (As := [.ref (ad 15 z1), .int (jI k), .long (jL y)]) (rest := []) hx hb hml hown hts (c_X8_changeValue l D tc base ad cnt X Y ln hR hFx hLn hCI z1 k y (by omega) (by omega) (by omega)) (cwV 3 hts gX8_refer_X8_changeValue rfl rfl rfl (by first | exact hd_X8_changeValue | decide +kernel) ⟨Nat.le_of_ble_eq_true rfl, Nat.le_of_ble_eq_true rfl⟩) hK hw (by first | exact Int.le_refl 0 | omega) (by first | exact zlt hc0 | omega) sl_0_0 rfl rfl hl.1 rfl (Nat.le_of_ble_eq_true rfl) dX8_refer_56 ⟨Nat.le_of_ble_eq_true rfl, Nat.le_of_ble_eq_true rfl⟩) hS (fun z32 u33 H locs p34 hw hS => ?_)
            obtain ⟨X35, Y36, eu33, hRX35, hG37, hJ38, hCIX35, p34, hcvX35⟩ := p34
            subst eu33
            have hFX35 : Frm [2802, 2803, 2902, 1600] X X35 := Frm.tr Frm.rf (Frm.mono hG37 (by first | exact nls_of rfl | decide))
            have hHY36 : Frm [2801, 2804] Y Y36 := Frm.tr Frm.rf (Frm.mono hJ38 (by first | exact nls_of rfl | decide))
            rw [hQ9]
            refine ret_i (mc := 0) (ms := 0) hx hb hr hlocks hw hS (by first | exact Nat.le_of_ble_eq_true rfl | omega) (by first | exact Nat.le_of_ble_eq_true rfl | omega) dX8_refer_59 ?_
            have hT39 : tyo (Y 15 x 0) = r29 := by rw [← ezz1]; exact tyo_some y28
            have hk40 : k < X 19 r29 1 := h5p3 r29 (by rw [← ezz1]; exact y28)
            rcases hcvX35 with ⟨c1, c2, c3, c4⟩ | ⟨c1, c2, c3, c4, c5, c6⟩
            · exact ⟨X35, Y36, rfl, hRX35, hFX35, hHY36, hCIX35, by omega, (by rw [hT39]; first | (have h9z : (z32 : Int) = -1 := (by omega); exact Or.inl ⟨(fun q => by (try delta Hid at *); omega), by omega⟩) | (have h9z : (z32 : Int) = -14 := (by omega); exact Or.inr (Or.inl ⟨(by (try delta Hid at *); omega), (by (try delta Hid at *); omega), by omega, by omega⟩)) | (have h9z : (z32 : Int) = -4 := (by omega); exact Or.inr (Or.inr (Or.inl ⟨(by (try delta Hid at *); omega), (by (try delta Hid at *); omega), by omega, by omega, by omega⟩))) | (have h9z : (z32 : Int) = 1 := (by omega); exact Or.inr (Or.inr (Or.inr (⟨(by (try delta Hid at *); omega), (by (try delta Hid at *); omega), by omega, by omega, by omega⟩)))) | exact Or.inl ⟨(fun q => by (try delta Hid at *); omega), by omega⟩ | exact Or.inr (Or.inl ⟨(by (try delta Hid at *); omega), (by (try delta Hid at *); omega), by omega, by omega⟩) | exact Or.inr (Or.inr (Or.inl ⟨(by (try delta Hid at *); omega), (by (try delta Hid at *); omega), by omega, by omega, by omega⟩)) | exact Or.inr (Or.inr (Or.inr (⟨(by (try delta Hid at *); omega), (by (try delta Hid at *); omega), by omega, by omega, by omega⟩)))), fun _ => ⟨c3, c4⟩, fun q => (by exfalso; omega)⟩
            · exact ⟨X35, Y36, rfl, hRX35, hFX35, hHY36, hCIX35, by omega, (by rw [hT39]; first | (have h9z : (z32 : Int) = -1 := (by omega); exact Or.inl ⟨(fun q => by (try delta Hid at *); omega), by omega⟩) | (have h9z : (z32 : Int) = -14 := (by omega); exact Or.inr (Or.inl ⟨(by (try delta Hid at *); omega), (by (try delta Hid at *); omega), by omega, by omega⟩)) | (have h9z : (z32 : Int) = -4 := (by omega); exact Or.inr (Or.inr (Or.inl ⟨(by (try delta Hid at *); omega), (by (try delta Hid at *); omega), by omega, by omega, by omega⟩))) | (have h9z : (z32 : Int) = 1 := (by omega); exact Or.inr (Or.inr (Or.inr (⟨(by (try delta Hid at *); omega), (by (try delta Hid at *); omega), by omega, by omega, by omega⟩)))) | exact Or.inl ⟨(fun q => by (try delta Hid at *); omega), by omega⟩ | exact Or.inr (Or.inl ⟨(by (try delta Hid at *); omega), (by (try delta Hid at *); omega), by omega, by omega⟩) | exact Or.inr (Or.inr (Or.inl ⟨(by (try delta Hid at *); omega), (by (try delta Hid at *); omega), by omega, by omega, by omega⟩)) | exact Or.inr (Or.inr (Or.inr (⟨(by (try delta Hid at *); omega), (by (try delta Hid at *); omega), by omega, by omega, by omega⟩)))), fun q => (by exfalso; omega), fun _ => (by rw [← ezz1]; exact ⟨c3, c4, c5, c6⟩)⟩
          · refine lv_iconst (v := jI 4) hx hb dX8_refer_45 rfl ?_
            refine gos_i (run_S (As := [.int (jI 4)]) (rest := []) hx hb hml hown hts (c_X8_failed l D tc base ad cnt X Y ln 4 (by omega)) (cwS 1 hts gX8_refer_X8_failed rfl rfl rfl (by first | exact hd_X8_failed | decide +kernel) ⟨Nat.le_of_ble_eq_true rfl, Nat.le_of_ble_eq_true rfl⟩) hK hw rfl hl.1 rfl (Nat.le_of_ble_eq_true rfl) dX8_refer_46 ⟨Nat.le_of_ble_eq_true rfl, Nat.le_of_ble_eq_true rfl⟩) hS (fun z41 u42 H locs p43 hw hS => ?_)
            obtain ⟨eu42, p43⟩ := p43
            subst eu42
            rw [hQ9]
            refine ret_i (mc := 0) (ms := 0) hx hb hr hlocks hw hS (by first | exact Nat.le_of_ble_eq_true rfl | omega) (by first | exact Nat.le_of_ble_eq_true rfl | omega) dX8_refer_49 ?_
            have hT44 : tyo (Y 15 x 0) = r29 := by rw [← ezz1]; exact tyo_some y28
            have hk45 : k < X 19 r29 1 := h5p3 r29 (by rw [← ezz1]; exact y28)
            exact ⟨X, Y, rfl, hR, Frm.rf, Frm.rf, hCI, by omega, (by rw [hT44]; first | (have h9z : (z41 : Int) = -1 := (by omega); exact Or.inl ⟨(fun q => by (try delta Hid at *); omega), by omega⟩) | (have h9z : (z41 : Int) = -14 := (by omega); exact Or.inr (Or.inl ⟨(by (try delta Hid at *); omega), (by (try delta Hid at *); omega), by omega, by omega⟩)) | (have h9z : (z41 : Int) = -4 := (by omega); exact Or.inr (Or.inr (Or.inl ⟨(by (try delta Hid at *); omega), (by (try delta Hid at *); omega), by omega, by omega, by omega⟩))) | (have h9z : (z41 : Int) = 1 := (by omega); exact Or.inr (Or.inr (Or.inr (⟨(by (try delta Hid at *); omega), (by (try delta Hid at *); omega), by omega, by omega, by omega⟩)))) | exact Or.inl ⟨(fun q => by (try delta Hid at *); omega), by omega⟩ | exact Or.inr (Or.inl ⟨(by (try delta Hid at *); omega), (by (try delta Hid at *); omega), by omega, by omega⟩) | exact Or.inr (Or.inr (Or.inl ⟨(by (try delta Hid at *); omega), (by (try delta Hid at *); omega), by omega, by omega, by omega⟩)) | exact Or.inr (Or.inr (Or.inr (⟨(by (try delta Hid at *); omega), (by (try delta Hid at *); omega), by omega, by omega, by omega⟩)))), fun _ => ⟨rfl, rfl⟩, fun q => (by exfalso; omega)⟩
      · subst ez25
        refine x_if_neF (tgt := 31) hx hb (by omega) (by decide) dX8_refer_26 (by decide) ?_
        refine lv_iconst (v := jI (-1)) hx hb dX8_refer_29 rfl ?_
        rw [hQ9]
        refine ret_i (mc := 0) (ms := 0) hx hb hr hlocks hw hS (by first | exact Nat.le_of_ble_eq_true rfl | omega) (by first | exact Nat.le_of_ble_eq_true rfl | omega) dX8_refer_30 ?_
        exact ⟨X, Y, rfl, hR, Frm.rf, Frm.rf, hCI, by omega, (by exact Or.inl ⟨(fun q => by (try delta Hid at *); omega), by omega⟩), fun _ => ⟨rfl, rfl⟩, fun q => (by exfalso; omega)⟩

set_option maxHeartbeats 4000000 in
set_option maxRecDepth 100000 in
theorem c_X8_share (l : Launch) (D : va_G) (tc : Nat → ClassId) (base : Nat) (ad : Nat → Int → Nat) (cnt : Nat → Int) (X : Nat → Int → Int → Int) (Y : Nat → Int → Int → Option Int) (ln : Int → Int) (hR : Rng X) (hFx : Fx cnt) (hLn : LnOK ln) (hCI : CInv cnt X Y ln) (x k y j : Int) (hx : -2147483648 ≤ x ∧ x ≤ 2147483647) (hk : -2147483648 ≤ k ∧ k ≤ 2147483647) (hy : -2147483648 ≤ y ∧ y ≤ 2147483647) (hj : -2147483648 ≤ j ∧ j ≤ 2147483647) : KI l D tc base yX8_share wsX8_share ({ frames := 4, cells := 0, slots := 0, locals := 91 } : Room) [.ref (ad 0 0), .int (jI x), .int (jI k), .int (jI y), .int (jI j)] (ad, cnt, X, Y, ln) 0 0 (fun z u => ∃ (X1 : Nat → Int → Int → Int) (Y1 : Nat → Int → Int → Option Int), u = (ad, cnt, X1, Y1, ln) ∧ Rng X1 ∧ Frm [2802, 2803, 2902] X X1 ∧ Frm [2801, 2804, 1700] Y Y1 ∧ CInv cnt X1 Y1 ln ∧ (-2147483648 ≤ z ∧ z ≤ 2147483647) ∧ ((¬ ((0 ≤ x ∧ x < X 0 0 3 ∧ 0 ≤ k ∧ k < X 19 (tyo (Y 15 x 0)) 1) ∧ (0 ≤ y ∧ y < X 0 0 3 ∧ 0 ≤ j ∧ j < X 19 (tyo (Y 15 y 0)) 1)) ∧ z = -1) ∨ (((0 ≤ x ∧ x < X 0 0 3 ∧ 0 ≤ k ∧ k < X 19 (tyo (Y 15 x 0)) 1) ∧ (0 ≤ y ∧ y < X 0 0 3 ∧ 0 ≤ j ∧ j < X 19 (tyo (Y 15 y 0)) 1)) ∧ (X 21 (tyo (Y 15 x 0)) k < 3 ∨ X 21 (tyo (Y 15 x 0)) k ≠ X 21 (tyo (Y 15 y 0)) j) ∧ z = -14) ∨ (((0 ≤ x ∧ x < X 0 0 3 ∧ 0 ≤ k ∧ k < X 19 (tyo (Y 15 x 0)) 1) ∧ (0 ≤ y ∧ y < X 0 0 3 ∧ 0 ≤ j ∧ j < X 19 (tyo (Y 15 y 0)) 1)) ∧ 3 ≤ X 21 (tyo (Y 15 x 0)) k ∧ X 21 (tyo (Y 15 x 0)) k = X 21 (tyo (Y 15 y 0)) j ∧ 80 ≤ X 29 0 1 ∧ z = -4) ∨ (((0 ≤ x ∧ x < X 0 0 3 ∧ 0 ≤ k ∧ k < X 19 (tyo (Y 15 x 0)) 1) ∧ (0 ≤ y ∧ y < X 0 0 3 ∧ 0 ≤ j ∧ j < X 19 (tyo (Y 15 y 0)) 1)) ∧ 3 ≤ X 21 (tyo (Y 15 x 0)) k ∧ X 21 (tyo (Y 15 x 0)) k = X 21 (tyo (Y 15 y 0)) j ∧ X 29 0 1 ≤ 79 ∧ z = 1)) ∧ (z < 0 → X1 = X ∧ Y1 = Y) ∧ (z = 1 → eNoteC X X1 Y Y1 (some x) k (X 16 x k) (Y 17 x k) ∧ Y1 17 x k = Y 17 y j ∧ (∀ p q, ¬ (p = x ∧ q = k) → Y1 17 p q = Y 17 p q) ∧ ∀ p q, X1 16 p q = X 16 p q)) := by
  refine K_of (cc := cX8_share) (maxL := 8) (ret := (some .int)) (by decide) rfl (Nat.le_of_ble_eq_true rfl) ?_
  intro p e s m below meth c ls hx hb hr hml hown hts hlocks hl hK hw hS
  have hown : s.vm.findClass RX8 = some m.cls := hown
  obtain ⟨av9, hav9⟩ : ∃ a9 : Array Value, a9 = ([.ref (ad 0 0), .int (jI x), .int (jI k), .int (jI y), .int (jI j)] : List Value).toArray := ⟨_, rfl⟩
  rw [← hav9] at hts ⊢
  obtain ⟨Q9, hQ9⟩ : ∃ q9Q : State → Prop, q9Q = MQ below (QI D tc base (fun z u => ∃ (X1 : Nat → Int → Int → Int) (Y1 : Nat → Int → Int → Option Int), u = (ad, cnt, X1, Y1, ln) ∧ Rng X1 ∧ Frm [2802, 2803, 2902] X X1 ∧ Frm [2801, 2804, 1700] Y Y1 ∧ CInv cnt X1 Y1 ln ∧ (-2147483648 ≤ z ∧ z ≤ 2147483647) ∧ ((¬ ((0 ≤ x ∧ x < X 0 0 3 ∧ 0 ≤ k ∧ k < X 19 (tyo (Y 15 x 0)) 1) ∧ (0 ≤ y ∧ y < X 0 0 3 ∧ 0 ≤ j ∧ j < X 19 (tyo (Y 15 y 0)) 1)) ∧ z = -1) ∨ (((0 ≤ x ∧ x < X 0 0 3 ∧ 0 ≤ k ∧ k < X 19 (tyo (Y 15 x 0)) 1) ∧ (0 ≤ y ∧ y < X 0 0 3 ∧ 0 ≤ j ∧ j < X 19 (tyo (Y 15 y 0)) 1)) ∧ (X 21 (tyo (Y 15 x 0)) k < 3 ∨ X 21 (tyo (Y 15 x 0)) k ≠ X 21 (tyo (Y 15 y 0)) j) ∧ z = -14) ∨ (((0 ≤ x ∧ x < X 0 0 3 ∧ 0 ≤ k ∧ k < X 19 (tyo (Y 15 x 0)) 1) ∧ (0 ≤ y ∧ y < X 0 0 3 ∧ 0 ≤ j ∧ j < X 19 (tyo (Y 15 y 0)) 1)) ∧ 3 ≤ X 21 (tyo (Y 15 x 0)) k ∧ X 21 (tyo (Y 15 x 0)) k = X 21 (tyo (Y 15 y 0)) j ∧ 80 ≤ X 29 0 1 ∧ z = -4) ∨ (((0 ≤ x ∧ x < X 0 0 3 ∧ 0 ≤ k ∧ k < X 19 (tyo (Y 15 x 0)) 1) ∧ (0 ≤ y ∧ y < X 0 0 3 ∧ 0 ≤ j ∧ j < X 19 (tyo (Y 15 y 0)) 1)) ∧ 3 ≤ X 21 (tyo (Y 15 x 0)) k ∧ X 21 (tyo (Y 15 x 0)) k = X 21 (tyo (Y 15 y 0)) j ∧ X 29 0 1 ≤ 79 ∧ z = 1)) ∧ (z < 0 → X1 = X ∧ Y1 = Y) ∧ (z = 1 → eNoteC X X1 Y Y1 (some x) k (X 16 x k) (Y 17 x k) ∧ Y1 17 x k = Y 17 y j ∧ (∀ p q, ¬ (p = x ∧ q = k) → Y1 17 p q = Y 17 p q) ∧ ∀ p q, X1 16 p q = X 16 p q))) av9 s 0 0 (frA base) := ⟨_, rfl⟩
  rw [← hQ9]
  have hi6 : ∀ w ∈ wsX60, w ∈ wsX8_share := fun w h => List.mem_cons_of_mem _ (List.mem_append_left _ (List.mem_append_left _ (List.mem_append_left _ (List.mem_append_left _ (List.mem_append_right _ h)))))
  have hf6 : fctx s m _ RX8 wsX8_share D tc RX6 TX6 4 6 := ⟨hts, hi6, hown, hK.1, rfl⟩
  have hi7 : ∀ w ∈ wsX70, w ∈ wsX8_share := fun w h => List.mem_cons_of_mem _ (List.mem_append_left _ (List.mem_append_left _ (List.mem_append_left _ (List.mem_append_right _ h))))
  have hf7 : fctx s m _ RX8 wsX8_share D tc RX7 TX7 8 7 := ⟨hts, hi7, hown, hK.1, rfl⟩
  have lk97 := hts (.fieldLink RX8 97 (TX6 0).1 (TX6 0).2.1 (TX6 0).2.2.1) (gj_X8_share_0 _ (gp_h))
  have lk135 := hts (.fieldLink RX8 135 (TX7 3).1 (TX7 3).2.1 (TX7 3).2.2.1) (gj_X8_share_0 _ (gp_1 gp_h))
  have lk158 := hts (.fieldLink RX8 158 (TX6 2).1 (TX6 2).2.1 (TX6 2).2.2.1) (gj_X8_share_0 _ (gp_1 (gp_1 gp_h)))
  have hc0 : cnt 0 = 1 := hFx.at 0 1 (by decide)
  have hc15 : cnt 15 = 30 := hFx.at 15 30 (by decide)
  have hc17 : cnt 17 = 30 := hFx.at 17 30 (by decide)
  have hc21 : cnt 21 = cnt 19 := hFx.2.1 21 (by decide)
  have hl : lv_has ls 8 [(0, .ref (ad 0 0)), (1, .int (jI x)), (2, .int (jI k)), (3, .int (jI y)), (4, .int (jI j))] := hl
  have ftc : 0 ≤ X 0 0 3 ∧ X 0 0 3 ≤ 30 := hR 0 0 3
  have fty : 0 ≤ X 0 0 1 ∧ X 0 0 1 ≤ 8 := hR 0 0 1
  have hct : cnt 19 = X 0 0 1 := hCI.2.2.2.1.1
  have hfj : 0 ≤ X 29 0 3 ∧ X 29 0 3 ≤ 4 := hR 29 0 3
  have hfn : 0 ≤ X 29 0 1 ∧ X 29 0 1 ≤ 80 := hR 29 0 1
  refine lv_aload_n hx hb dX8_share_0 rfl (lv_at hl 0 rfl) ?_
  refine lv_iload_n hx hb dX8_share_1 rfl (lv_at hl 1 rfl) ?_
  refine lv_iload_n hx hb dX8_share_2 rfl (lv_at hl 2 rfl) ?_
  refine gos_r (run_V (As := [.int (jI x), .int (jI k)]) (rest := []) hx hb hml hown hts (c_X8_thingWithField l D tc base ad cnt X Y ln hR hFx hLn hCI x k (by omega) (by omega)) (cwV 2 hts gX8_share_X8_thingWithField rfl rfl rfl (by first | exact hd_X8_thingWithField | decide +kernel) ⟨Nat.le_of_ble_eq_true rfl, Nat.le_of_ble_eq_true rfl⟩) hK hw (by first | exact Int.le_refl 0 | omega) (by first | exact zlt hc0 | omega) sl_0_0 rfl rfl hl.1 rfl (Nat.le_of_ble_eq_true rfl) dX8_share_3 ⟨Nat.le_of_ble_eq_true rfl, Nat.le_of_ble_eq_true rfl⟩) hS (fun u2 H locs p3 hw hS => ?_) (fun z1 u2 H locs p3 hw hS => ?_)
  · obtain ⟨eu2, hsp3, hnp3⟩ := p3
    subst eu2
    refine lv_astoreN (lv' := [(5, .null), (0, .ref (ad 0 0)), (1, .int (jI x)), (2, .int (jI k)), (3, .int (jI y)), (4, .int (jI j))]) hx hb dX8_share_6 hl (by decide) rfl (fun ls hl => ?_)
    refine lv_aload_n hx hb dX8_share_8 rfl (lv_at hl 1 rfl) ?_
    refine lv_iload_n hx hb dX8_share_9 rfl (lv_at hl 4 rfl) ?_
    refine lv_iload hx hb dX8_share_10 (lv_at hl 5 rfl) ?_
    refine gos_r (run_V (As := [.int (jI y), .int (jI j)]) (rest := []) hx hb hml hown hts (c_X8_thingWithField l D tc base ad cnt X Y ln hR hFx hLn hCI y j (by omega) (by omega)) (cwV 2 hts gX8_share_X8_thingWithField rfl rfl rfl (by first | exact hd_X8_thingWithField | decide +kernel) ⟨Nat.le_of_ble_eq_true rfl, Nat.le_of_ble_eq_true rfl⟩) hK hw (by first | exact Int.le_refl 0 | omega) (by first | exact zlt hc0 | omega) sl_0_0 rfl rfl hl.1 rfl (Nat.le_of_ble_eq_true rfl) dX8_share_12 ⟨Nat.le_of_ble_eq_true rfl, Nat.le_of_ble_eq_true rfl⟩) hS (fun u5 H locs p6 hw hS => ?_) (fun z4 u5 H locs p6 hw hS => ?_)
    · obtain ⟨eu5, hsp6, hnp6⟩ := p6
      subst eu5
      refine lv_astoreN (lv' := [(6, .null), (5, .null), (0, .ref (ad 0 0)), (1, .int (jI x)), (2, .int (jI k)), (3, .int (jI y)), (4, .int (jI j))]) hx hb dX8_share_15 hl (by decide) rfl (fun ls hl => ?_)
      refine lv_aloadN hx hb dX8_share_17 (lv_at hl 1 rfl) ?_
      refine lv_ifnullN (tgt := 27) hx hb dX8_share_19 (by decide) ?_
      refine lv_iconst (v := jI (-1)) hx hb dX8_share_27 rfl ?_
      rw [hQ9]
      refine ret_i (mc := 0) (ms := 0) hx hb hr hlocks hw hS (by first | exact Nat.le_of_ble_eq_true rfl | omega) (by first | exact Nat.le_of_ble_eq_true rfl | omega) dX8_share_28 ?_
      have h9n7 : ¬ (0 ≤ x ∧ x < X 0 0 3 ∧ 0 ≤ k ∧ k < X 19 (tyo (Y 15 x 0)) 1) := hnp3 rfl
      have h9n8 : ¬ (0 ≤ y ∧ y < X 0 0 3 ∧ 0 ≤ j ∧ j < X 19 (tyo (Y 15 y 0)) 1) := hnp6 rfl
      exact ⟨X, Y, rfl, hR, Frm.rf, Frm.rf, hCI, by omega, (by exact Or.inl ⟨(fun q => by (try delta Hid at *); omega), by omega⟩), fun _ => ⟨rfl, rfl⟩, fun q => (by exfalso; omega)⟩
    · obtain ⟨eu5, hsp6, hnp6⟩ := p6
      subst eu5
      obtain ⟨ezz4, p6, h1p6, h2p6, h3p6, h4p6, h5p6⟩ := hsp6 z4 rfl
      refine lv_astore (lv' := [(6, .ref (ad 15 z4)), (5, .null), (0, .ref (ad 0 0)), (1, .int (jI x)), (2, .int (jI k)), (3, .int (jI y)), (4, .int (jI j))]) hx hb dX8_share_15 hl (by decide) rfl (fun ls hl => ?_)
      refine lv_aloadN hx hb dX8_share_17 (lv_at hl 1 rfl) ?_
      refine lv_ifnullN (tgt := 27) hx hb dX8_share_19 (by decide) ?_
      refine lv_iconst (v := jI (-1)) hx hb dX8_share_27 rfl ?_
      rw [hQ9]
      refine ret_i (mc := 0) (ms := 0) hx hb hr hlocks hw hS (by first | exact Nat.le_of_ble_eq_true rfl | omega) (by first | exact Nat.le_of_ble_eq_true rfl | omega) dX8_share_28 ?_
      have h9n9 : ¬ (0 ≤ x ∧ x < X 0 0 3 ∧ 0 ≤ k ∧ k < X 19 (tyo (Y 15 x 0)) 1) := hnp3 rfl
      obtain ⟨r10, y11⟩ := Option.ne_none_iff_exists'.mp (hCI.2.2.2.2.1 z4 (by omega) (by omega))
      have hT12 : tyo (Y 15 y 0) = r10 := by rw [← ezz4]; exact tyo_some y11
      have hk13 : j < X 19 r10 1 := h5p6 r10 (by rw [← ezz4]; exact y11)
      exact ⟨X, Y, rfl, hR, Frm.rf, Frm.rf, hCI, by omega, (by rw [hT12]; exact Or.inl ⟨(fun q => by (try delta Hid at *); omega), by omega⟩), fun _ => ⟨rfl, rfl⟩, fun q => (by exfalso; omega)⟩
  · obtain ⟨eu2, hsp3, hnp3⟩ := p3
    subst eu2
    obtain ⟨ezz1, p3, h1p3, h2p3, h3p3, h4p3, h5p3⟩ := hsp3 z1 rfl
    refine lv_astore (lv' := [(5, .ref (ad 15 z1)), (0, .ref (ad 0 0)), (1, .int (jI x)), (2, .int (jI k)), (3, .int (jI y)), (4, .int (jI j))]) hx hb dX8_share_6 hl (by decide) rfl (fun ls hl => ?_)
    refine lv_aload_n hx hb dX8_share_8 rfl (lv_at hl 1 rfl) ?_
    refine lv_iload_n hx hb dX8_share_9 rfl (lv_at hl 4 rfl) ?_
    refine lv_iload hx hb dX8_share_10 (lv_at hl 5 rfl) ?_
    refine gos_r (run_V (As := [.int (jI y), .int (jI j)]) (rest := []) hx hb hml hown hts (c_X8_thingWithField l D tc base ad cnt X Y ln hR hFx hLn hCI y j (by omega) (by omega)) (cwV 2 hts gX8_share_X8_thingWithField rfl rfl rfl (by first | exact hd_X8_thingWithField | decide +kernel) ⟨Nat.le_of_ble_eq_true rfl, Nat.le_of_ble_eq_true rfl⟩) hK hw (by first | exact Int.le_refl 0 | omega) (by first | exact zlt hc0 | omega) sl_0_0 rfl rfl hl.1 rfl (Nat.le_of_ble_eq_true rfl) dX8_share_12 ⟨Nat.le_of_ble_eq_true rfl, Nat.le_of_ble_eq_true rfl⟩) hS (fun u15 H locs p16 hw hS => ?_) (fun z14 u15 H locs p16 hw hS => ?_)
    · obtain ⟨eu15, hsp16, hnp16⟩ := p16
      subst eu15
      refine lv_astoreN (lv' := [(6, .null), (5, .ref (ad 15 z1)), (0, .ref (ad 0 0)), (1, .int (jI x)), (2, .int (jI k)), (3, .int (jI y)), (4, .int (jI j))]) hx hb dX8_share_15 hl (by decide) rfl (fun ls hl => ?_)
      refine lv_aload hx hb dX8_share_17 (lv_at hl 1 rfl) ?_
      refine lv_ifnull hx hb dX8_share_19 ?_
      refine lv_aloadN hx hb dX8_share_22 (lv_at hl 0 rfl) ?_
      refine lv_ifnonnullN hx hb dX8_share_24 ?_
      refine lv_iconst (v := jI (-1)) hx hb dX8_share_27 rfl ?_
      rw [hQ9]
      refine ret_i (mc := 0) (ms := 0) hx hb hr hlocks hw hS (by first | exact Nat.le_of_ble_eq_true rfl | omega) (by first | exact Nat.le_of_ble_eq_true rfl | omega) dX8_share_28 ?_
      obtain ⟨r17, y18⟩ := Option.ne_none_iff_exists'.mp (hCI.2.2.2.2.1 z1 (by omega) (by omega))
      have hT19 : tyo (Y 15 x 0) = r17 := by rw [← ezz1]; exact tyo_some y18
      have hk20 : k < X 19 r17 1 := h5p3 r17 (by rw [← ezz1]; exact y18)
      have h9n21 : ¬ (0 ≤ y ∧ y < X 0 0 3 ∧ 0 ≤ j ∧ j < X 19 (tyo (Y 15 y 0)) 1) := hnp16 rfl
      exact ⟨X, Y, rfl, hR, Frm.rf, Frm.rf, hCI, by omega, (by rw [hT19]; exact Or.inl ⟨(fun q => by (try delta Hid at *); omega), by omega⟩), fun _ => ⟨rfl, rfl⟩, fun q => (by exfalso; omega)⟩
    · obtain ⟨eu15, hsp16, hnp16⟩ := p16
      subst eu15
      obtain ⟨ezz14, p16, h1p16, h2p16, h3p16, h4p16, h5p16⟩ := hsp16 z14 rfl
      refine lv_astore (lv' := [(6, .ref (ad 15 z14)), (5, .ref (ad 15 z1)), (0, .ref (ad 0 0)), (1, .int (jI x)), (2, .int (jI k)), (3, .int (jI y)), (4, .int (jI j))]) hx hb dX8_share_15 hl (by decide) rfl (fun ls hl => ?_)
      refine lv_aload hx hb dX8_share_17 (lv_at hl 1 rfl) ?_
      refine lv_ifnull hx hb dX8_share_19 ?_
      refine lv_aload hx hb dX8_share_22 (lv_at hl 0 rfl) ?_
      refine lv_ifnonnull (tgt := 29) hx hb dX8_share_24 (by decide) ?_
      refine lv_aload hx hb dX8_share_29 (lv_at hl 1 rfl) ?_
      refine x_getr (jz := 0) hx hb hf6 hw (by omega) (by omega) sl_15_0 rfl lk97 dX8_share_31 (fun y22 => ?_) (fun r23 y22 gr23 lr23 => ?_)
      · exfalso
        exact absurd y22 (hCI.2.2.2.2.1 z1 (by omega) (by omega))
      · refine x_geto hx hb hf7 hw (by omega) (by omega) sl_19_3 lk135 dX8_share_34 ?_
        refine lv_iload_n hx hb dX8_share_37 rfl (lv_at hl 4 rfl) ?_
        refine x_iald hx hb hK.1 hw (by omega) (by omega) ar_21 (len_E ar_21 (by first | exact Nat.ne_of_beq_eq_false rfl | decide)) (by omega) (by omega) (by omega) dX8_share_38 ?_
        have f24 : 0 ≤ X 21 r23 k ∧ X 21 r23 k ≤ 5 := hR 21 r23 k
        refine lv_istore (lv' := [(7, .int (jI (X 21 r23 k))), (6, .ref (ad 15 z14)), (5, .ref (ad 15 z1)), (0, .ref (ad 0 0)), (1, .int (jI x)), (2, .int (jI k)), (3, .int (jI y)), (4, .int (jI j))]) hx hb dX8_share_39 hl (by decide) rfl (fun ls hl => ?_)
        refine lv_iload hx hb dX8_share_41 (lv_at hl 0 rfl) ?_
        refine gos_i (run_S (As := [.int (jI (X 21 r23 k))]) (rest := []) hx hb hml hown hts (c_X8_isRowLane l D tc base ad cnt X Y ln (X 21 r23 k) (by omega)) (cwS 1 hts gX8_share_X8_isRowLane rfl rfl rfl (by first | exact hd_X8_isRowLane | decide +kernel) ⟨Nat.le_of_ble_eq_true rfl, Nat.le_of_ble_eq_true rfl⟩) hK hw rfl hl.1 rfl (Nat.le_of_ble_eq_true rfl) dX8_share_43 ⟨Nat.le_of_ble_eq_true rfl, Nat.le_of_ble_eq_true rfl⟩) hS (fun z25 u26 H locs p27 hw hS => ?_)
        obtain ⟨eu26, p27⟩ := p27
        subst eu26
        rcases p27 with ⟨ez25, p27⟩ | ⟨ez25, p27⟩
        · subst ez25
          refine x_if_eqF (tgt := 65) hx hb (by omega) (by decide) dX8_share_46 (by decide) ?_
          refine lv_aload hx hb dX8_share_49 (lv_at hl 1 rfl) ?_
          refine x_getr (jz := 0) hx hb hf6 hw (by omega) (by omega) sl_15_0 rfl lk97 dX8_share_51 (fun y28 => ?_) (fun r29 y28 gr29 lr29 => ?_)
          · exfalso
            exact absurd y28 (hCI.2.2.2.2.1 z14 (by omega) (by omega))
          · refine x_geto hx hb hf7 hw (by omega) (by omega) sl_19_3 lk135 dX8_share_54 ?_
            refine lv_iload hx hb dX8_share_57 (lv_at hl 7 rfl) ?_
            refine x_iald hx hb hK.1 hw (by omega) (by omega) ar_21 (len_E ar_21 (by first | exact Nat.ne_of_beq_eq_false rfl | decide)) (by omega) (by omega) (by omega) dX8_share_59 ?_
            have f30 : 0 ≤ X 21 r29 j ∧ X 21 r29 j ≤ 5 := hR 21 r29 j
            refine lv_iload hx hb dX8_share_60 (lv_at hl 0 rfl) ?_
            refine x_icmp_eq (tgt := 70) hx hb (by omega) (by omega) dX8_share_62 (by decide) (fun c31 => ?_) (fun c31 => ?_)
            · refine lv_aload_n hx hb dX8_share_70 rfl (lv_at hl 3 rfl) ?_
              refine lv_aload hx hb dX8_share_71 (lv_at hl 2 rfl) ?_
              refine lv_iload_n hx hb dX8_share_73 rfl (lv_at hl 5 rfl) ?_
              refine lv_aload hx hb dX8_share_74 (lv_at hl 1 rfl) ?_
              refine x_geto hx hb hf6 hw (by omega) (by omega) sl_15_2 lk158 dX8_share_76 ?_
              refine lv_iload hx hb dX8_share_79 (lv_at hl 7 rfl) ?_
              refine x_aald hx hb hK.1 hw (by omega) (by omega) ar_17 rfl (len_E ar_17 (by first | exact Nat.ne_of_beq_eq_false rfl | decide)) (by omega) (by omega) (by omega) dX8_share_81 (fun y32 => ?_) (fun r33 y32 gr33 lr33 => ?_)
              · refine gos_i (run_V (As := [.ref (ad 15 z1), .int (jI k), .null]) (rest := []) hx hb hml hown hts (c_X8_changeRow_n l D tc base ad cnt X Y ln hR hFx hLn hCI z1 k (by omega) (by omega)) (cwV 3 hts gX8_share_X8_changeRow rfl rfl rfl (by first | exact hd_X8_changeRow | decide +kernel) ⟨Nat.le_of_ble_eq_true rfl, Nat.le_of_ble_eq_true rfl⟩) hK hw (by first | exact Int.le_refl 0 | omega) (by first | exact zlt hc0 | omega) sl_0_0 rfl rfl hl.1 rfl (Nat.le_of_ble_eq_true rfl) dX8_share_82 ⟨Nat.le_of_ble_eq_true rfl, Nat.le_of_ble_eq_true rfl⟩) hS (fun z34 u35 H locs p36 hw hS => ?_)
                obtain ⟨X37, Y38, eu35, hRX37, hG39, hJ40, hCIX37, p36, hcvX37⟩ := p36
                subst eu35
                have hFX37 : Frm [2802, 2803, 2902] X X37 := Frm.tr Frm.rf (Frm.mono hG39 (by first | exact nls_of rfl | decide))
                have hHY38 : Frm [2801, 2804, 1700] Y Y38 := Frm.tr Frm.rf (Frm.mono hJ40 (by first | exact nls_of rfl | decide))
                rw [hQ9]
                refine ret_i (mc := 0) (ms := 0) hx hb hr hlocks hw hS (by first | exact Nat.le_of_ble_eq_true rfl | omega) (by first | exact Nat.le_of_ble_eq_true rfl | omega) dX8_share_85 ?_
                have hT41 : tyo (Y 15 x 0) = r23 := by rw [← ezz1]; exact tyo_some y22
                have hk42 : k < X 19 r23 1 := h5p3 r23 (by rw [← ezz1]; exact y22)
                have hT43 : tyo (Y 15 y 0) = r29 := by rw [← ezz14]; exact tyo_some y28
                have hk44 : j < X 19 r29 1 := h5p16 r29 (by rw [← ezz14]; exact y28)
                rcases hcvX37 with ⟨c1, c2, c3, c4⟩ | ⟨c1, c2, c3, c4, c5, c6⟩
                · exact ⟨X37, Y38, rfl, hRX37, hFX37, hHY38, hCIX37, by omega, (by rw [hT41, hT43]; first | (have h9z : (z34 : Int) = -1 := (by omega); exact Or.inl ⟨(fun q => by (try delta Hid at *); omega), by omega⟩) | (have h9z : (z34 : Int) = -14 := (by omega); exact Or.inr (Or.inl ⟨(by (try delta Hid at *); omega), (by (try delta Hid at *); omega), by omega⟩)) | (have h9z : (z34 : Int) = -4 := (by omega); exact Or.inr (Or.inr (Or.inl ⟨(by (try delta Hid at *); omega), by omega, by omega, (by (try delta Hid at *); omega), by omega⟩))) | (have h9z : (z34 : Int) = 1 := (by omega); exact Or.inr (Or.inr (Or.inr (⟨(by (try delta Hid at *); omega), by omega, by omega, (by (try delta Hid at *); omega), by omega⟩)))) | exact Or.inl ⟨(fun q => by (try delta Hid at *); omega), by omega⟩ | exact Or.inr (Or.inl ⟨(by (try delta Hid at *); omega), (by (try delta Hid at *); omega), by omega⟩) | exact Or.inr (Or.inr (Or.inl ⟨(by (try delta Hid at *); omega), by omega, by omega, (by (try delta Hid at *); omega), by omega⟩)) | exact Or.inr (Or.inr (Or.inr (⟨(by (try delta Hid at *); omega), by omega, by omega, (by (try delta Hid at *); omega), by omega⟩)))), fun _ => ⟨c3, c4⟩, fun q => (by exfalso; omega)⟩
                · exact ⟨X37, Y38, rfl, hRX37, hFX37, hHY38, hCIX37, by omega, (by rw [hT41, hT43]; first | (have h9z : (z34 : Int) = -1 := (by omega); exact Or.inl ⟨(fun q => by (try delta Hid at *); omega), by omega⟩) | (have h9z : (z34 : Int) = -14 := (by omega); exact Or.inr (Or.inl ⟨(by (try delta Hid at *); omega), (by (try delta Hid at *); omega), by omega⟩)) | (have h9z : (z34 : Int) = -4 := (by omega); exact Or.inr (Or.inr (Or.inl ⟨(by (try delta Hid at *); omega), by omega, by omega, (by (try delta Hid at *); omega), by omega⟩))) | (have h9z : (z34 : Int) = 1 := (by omega); exact Or.inr (Or.inr (Or.inr (⟨(by (try delta Hid at *); omega), by omega, by omega, (by (try delta Hid at *); omega), by omega⟩)))) | exact Or.inl ⟨(fun q => by (try delta Hid at *); omega), by omega⟩ | exact Or.inr (Or.inl ⟨(by (try delta Hid at *); omega), (by (try delta Hid at *); omega), by omega⟩) | exact Or.inr (Or.inr (Or.inl ⟨(by (try delta Hid at *); omega), by omega, by omega, (by (try delta Hid at *); omega), by omega⟩)) | exact Or.inr (Or.inr (Or.inr (⟨(by (try delta Hid at *); omega), by omega, by omega, (by (try delta Hid at *); omega), by omega⟩)))), fun q => (by exfalso; omega), fun _ => (by rw [← ezz1, ← ezz14, y32]; exact ⟨c3, c4, c5, c6⟩)⟩
              · refine gos_i (run_V (As := [.ref (ad 15 z1), .int (jI k), .ref (ad 26 r33)]) (rest := []) hx hb hml hown hts (c_X8_changeRow_r l D tc base ad cnt X Y ln hR hFx hLn hCI z1 k r33 (by omega) (by omega) (by omega)) (cwV 3 hts gX8_share_X8_changeRow rfl rfl rfl (by first | exact hd_X8_changeRow | decide +kernel) ⟨Nat.le_of_ble_eq_true rfl, Nat.le_of_ble_eq_true rfl⟩) hK hw (by first | exact Int.le_refl 0 | omega) (by first | exact zlt hc0 | omega) sl_0_0 rfl rfl hl.1 rfl (Nat.le_of_ble_eq_true rfl) dX8_share_82 ⟨Nat.le_of_ble_eq_true rfl, Nat.le_of_ble_eq_true rfl⟩) hS (fun z45 u46 H locs p47 hw hS => ?_)
                obtain ⟨X48, Y49, eu46, hRX48, hG50, hJ51, hCIX48, p47, hcvX48⟩ := p47
                subst eu46
                have hFX48 : Frm [2802, 2803, 2902] X X48 := Frm.tr Frm.rf (Frm.mono hG50 (by first | exact nls_of rfl | decide))
                have hHY49 : Frm [2801, 2804, 1700] Y Y49 := Frm.tr Frm.rf (Frm.mono hJ51 (by first | exact nls_of rfl | decide))
                rw [hQ9]
                refine ret_i (mc := 0) (ms := 0) hx hb hr hlocks hw hS (by first | exact Nat.le_of_ble_eq_true rfl | omega) (by first | exact Nat.le_of_ble_eq_true rfl | omega) dX8_share_85 ?_
                have hT52 : tyo (Y 15 x 0) = r23 := by rw [← ezz1]; exact tyo_some y22
                have hk53 : k < X 19 r23 1 := h5p3 r23 (by rw [← ezz1]; exact y22)
                have hT54 : tyo (Y 15 y 0) = r29 := by rw [← ezz14]; exact tyo_some y28
                have hk55 : j < X 19 r29 1 := h5p16 r29 (by rw [← ezz14]; exact y28)
                rcases hcvX48 with ⟨c1, c2, c3, c4⟩ | ⟨c1, c2, c3, c4, c5, c6⟩
                · exact ⟨X48, Y49, rfl, hRX48, hFX48, hHY49, hCIX48, by omega, (by rw [hT52, hT54]; first | (have h9z : (z45 : Int) = -1 := (by omega); exact Or.inl ⟨(fun q => by (try delta Hid at *); omega), by omega⟩) | (have h9z : (z45 : Int) = -14 := (by omega); exact Or.inr (Or.inl ⟨(by (try delta Hid at *); omega), (by (try delta Hid at *); omega), by omega⟩)) | (have h9z : (z45 : Int) = -4 := (by omega); exact Or.inr (Or.inr (Or.inl ⟨(by (try delta Hid at *); omega), by omega, by omega, (by (try delta Hid at *); omega), by omega⟩))) | (have h9z : (z45 : Int) = 1 := (by omega); exact Or.inr (Or.inr (Or.inr (⟨(by (try delta Hid at *); omega), by omega, by omega, (by (try delta Hid at *); omega), by omega⟩)))) | exact Or.inl ⟨(fun q => by (try delta Hid at *); omega), by omega⟩ | exact Or.inr (Or.inl ⟨(by (try delta Hid at *); omega), (by (try delta Hid at *); omega), by omega⟩) | exact Or.inr (Or.inr (Or.inl ⟨(by (try delta Hid at *); omega), by omega, by omega, (by (try delta Hid at *); omega), by omega⟩)) | exact Or.inr (Or.inr (Or.inr (⟨(by (try delta Hid at *); omega), by omega, by omega, (by (try delta Hid at *); omega), by omega⟩)))), fun _ => ⟨c3, c4⟩, fun q => (by exfalso; omega)⟩
                · exact ⟨X48, Y49, rfl, hRX48, hFX48, hHY49, hCIX48, by omega, (by rw [hT52, hT54]; first | (have h9z : (z45 : Int) = -1 := (by omega); exact Or.inl ⟨(fun q => by (try delta Hid at *); omega), by omega⟩) | (have h9z : (z45 : Int) = -14 := (by omega); exact Or.inr (Or.inl ⟨(by (try delta Hid at *); omega), (by (try delta Hid at *); omega), by omega⟩)) | (have h9z : (z45 : Int) = -4 := (by omega); exact Or.inr (Or.inr (Or.inl ⟨(by (try delta Hid at *); omega), by omega, by omega, (by (try delta Hid at *); omega), by omega⟩))) | (have h9z : (z45 : Int) = 1 := (by omega); exact Or.inr (Or.inr (Or.inr (⟨(by (try delta Hid at *); omega), by omega, by omega, (by (try delta Hid at *); omega), by omega⟩)))) | exact Or.inl ⟨(fun q => by (try delta Hid at *); omega), by omega⟩ | exact Or.inr (Or.inl ⟨(by (try delta Hid at *); omega), (by (try delta Hid at *); omega), by omega⟩) | exact Or.inr (Or.inr (Or.inl ⟨(by (try delta Hid at *); omega), by omega, by omega, (by (try delta Hid at *); omega), by omega⟩)) | exact Or.inr (Or.inr (Or.inr (⟨(by (try delta Hid at *); omega), by omega, by omega, (by (try delta Hid at *); omega), by omega⟩)))), fun q => (by exfalso; omega), fun _ => (by rw [← ezz1, ← ezz14, y32]; exact ⟨c3, c4, c5, c6⟩)⟩
            · refine lv_iconst (v := jI 4) hx hb dX8_share_65 rfl ?_
              refine gos_i (run_S (As := [.int (jI 4)]) (rest := []) hx hb hml hown hts (c_X8_failed l D tc base ad cnt X Y ln 4 (by omega)) (cwS 1 hts gX8_share_X8_failed rfl rfl rfl (by first | exact hd_X8_failed | decide +kernel) ⟨Nat.le_of_ble_eq_true rfl, Nat.le_of_ble_eq_true rfl⟩) hK hw rfl hl.1 rfl (Nat.le_of_ble_eq_true rfl) dX8_share_66 ⟨Nat.le_of_ble_eq_true rfl, Nat.le_of_ble_eq_true rfl⟩) hS (fun z56 u57 H locs p58 hw hS => ?_)
              obtain ⟨eu57, p58⟩ := p58
              subst eu57
              rw [hQ9]
              refine ret_i (mc := 0) (ms := 0) hx hb hr hlocks hw hS (by first | exact Nat.le_of_ble_eq_true rfl | omega) (by first | exact Nat.le_of_ble_eq_true rfl | omega) dX8_share_69 ?_
              have hT59 : tyo (Y 15 x 0) = r23 := by rw [← ezz1]; exact tyo_some y22
              have hk60 : k < X 19 r23 1 := h5p3 r23 (by rw [← ezz1]; exact y22)
              have hT61 : tyo (Y 15 y 0) = r29 := by rw [← ezz14]; exact tyo_some y28
              have hk62 : j < X 19 r29 1 := h5p16 r29 (by rw [← ezz14]; exact y28)
              exact ⟨X, Y, rfl, hR, Frm.rf, Frm.rf, hCI, by omega, (by rw [hT59, hT61]; first | (have h9z : (z56 : Int) = -1 := (by omega); exact Or.inl ⟨(fun q => by (try delta Hid at *); omega), by omega⟩) | (have h9z : (z56 : Int) = -14 := (by omega); exact Or.inr (Or.inl ⟨(by (try delta Hid at *); omega), (by (try delta Hid at *); omega), by omega⟩)) | (have h9z : (z56 : Int) = -4 := (by omega); exact Or.inr (Or.inr (Or.inl ⟨(by (try delta Hid at *); omega), by omega, by omega, (by (try delta Hid at *); omega), by omega⟩))) | (have h9z : (z56 : Int) = 1 := (by omega); exact Or.inr (Or.inr (Or.inr (⟨(by (try delta Hid at *); omega), by omega, by omega, (by (try delta Hid at *); omega), by omega⟩)))) | exact Or.inl ⟨(fun q => by (try delta Hid at *); omega), by omega⟩ | exact Or.inr (Or.inl ⟨(by (try delta Hid at *); omega), (by (try delta Hid at *); omega), by omega⟩) | exact Or.inr (Or.inr (Or.inl ⟨(by (try delta Hid at *); omega), by omega, by omega, (by (try delta Hid at *); omega), by omega⟩)) | exact Or.inr (Or.inr (Or.inr (⟨(by (try delta Hid at *); omega), by omega, by omega, (by (try delta Hid at *); omega), by omega⟩)))), fun _ => ⟨rfl, rfl⟩, fun q => (by exfalso; omega)⟩
        · subst ez25
          refine x_if_eqT (tgt := 65) hx hb (by omega) (by decide) dX8_share_46 (by decide) ?_
          refine lv_iconst (v := jI 4) hx hb dX8_share_65 rfl ?_
          refine gos_i (run_S (As := [.int (jI 4)]) (rest := []) hx hb hml hown hts (c_X8_failed l D tc base ad cnt X Y ln 4 (by omega)) (cwS 1 hts gX8_share_X8_failed rfl rfl rfl (by first | exact hd_X8_failed | decide +kernel) ⟨Nat.le_of_ble_eq_true rfl, Nat.le_of_ble_eq_true rfl⟩) hK hw rfl hl.1 rfl (Nat.le_of_ble_eq_true rfl) dX8_share_66 ⟨Nat.le_of_ble_eq_true rfl, Nat.le_of_ble_eq_true rfl⟩) hS (fun z63 u64 H locs p65 hw hS => ?_)
          obtain ⟨eu64, p65⟩ := p65
          subst eu64
          rw [hQ9]
          refine ret_i (mc := 0) (ms := 0) hx hb hr hlocks hw hS (by first | exact Nat.le_of_ble_eq_true rfl | omega) (by first | exact Nat.le_of_ble_eq_true rfl | omega) dX8_share_69 ?_
          have hT66 : tyo (Y 15 x 0) = r23 := by rw [← ezz1]; exact tyo_some y22
          have hk67 : k < X 19 r23 1 := h5p3 r23 (by rw [← ezz1]; exact y22)
          obtain ⟨r68, y69⟩ := Option.ne_none_iff_exists'.mp (hCI.2.2.2.2.1 z14 (by omega) (by omega))
          have hT70 : tyo (Y 15 y 0) = r68 := by rw [← ezz14]; exact tyo_some y69
          have hk71 : j < X 19 r68 1 := h5p16 r68 (by rw [← ezz14]; exact y69)
          exact ⟨X, Y, rfl, hR, Frm.rf, Frm.rf, hCI, by omega, (by rw [hT66, hT70]; first | (have h9z : (z63 : Int) = -1 := (by omega); exact Or.inl ⟨(fun q => by (try delta Hid at *); omega), by omega⟩) | (have h9z : (z63 : Int) = -14 := (by omega); exact Or.inr (Or.inl ⟨(by (try delta Hid at *); omega), (by (try delta Hid at *); omega), by omega⟩)) | (have h9z : (z63 : Int) = -4 := (by omega); exact Or.inr (Or.inr (Or.inl ⟨(by (try delta Hid at *); omega), by omega, by omega, (by (try delta Hid at *); omega), by omega⟩))) | (have h9z : (z63 : Int) = 1 := (by omega); exact Or.inr (Or.inr (Or.inr (⟨(by (try delta Hid at *); omega), by omega, by omega, (by (try delta Hid at *); omega), by omega⟩)))) | exact Or.inl ⟨(fun q => by (try delta Hid at *); omega), by omega⟩ | exact Or.inr (Or.inl ⟨(by (try delta Hid at *); omega), (by (try delta Hid at *); omega), by omega⟩) | exact Or.inr (Or.inr (Or.inl ⟨(by (try delta Hid at *); omega), by omega, by omega, (by (try delta Hid at *); omega), by omega⟩)) | exact Or.inr (Or.inr (Or.inr (⟨(by (try delta Hid at *); omega), by omega, by omega, (by (try delta Hid at *); omega), by omega⟩)))), fun _ => ⟨rfl, rfl⟩, fun q => (by exfalso; omega)⟩

set_option maxHeartbeats 4000000 in
set_option maxRecDepth 100000 in
theorem c_X8_item (l : Launch) (D : va_G) (tc : Nat → ClassId) (base : Nat) (ad : Nat → Int → Nat) (cnt : Nat → Int) (X : Nat → Int → Int → Int) (Y : Nat → Int → Int → Option Int) (ln : Int → Int) (hR : Rng X) (hFx : Fx cnt) (hLn : LnOK ln) (hCI : CInv cnt X Y ln) (x k i v : Int) (hx : -2147483648 ≤ x ∧ x ≤ 2147483647) (hk : -2147483648 ≤ k ∧ k ≤ 2147483647) (hi : -2147483648 ≤ i ∧ i ≤ 2147483647) (hv : -9223372036854775808 ≤ v ∧ v ≤ 9223372036854775807) : KI l D tc base yX8_item wsX8_item ({ frames := 3, cells := 0, slots := 0, locals := 68 } : Room) [.ref (ad 0 0), .int (jI x), .int (jI k), .int (jI i), .long (jL v)] (ad, cnt, X, Y, ln) 0 0 (fun z u => ∃ (X1 : Nat → Int → Int → Int) (Y1 : Nat → Int → Int → Option Int), u = (ad, cnt, X1, Y1, ln) ∧ Rng X1 ∧ Frm [2802, 2803, 2902, 2700] X X1 ∧ Frm [2801, 2804] Y Y1 ∧ CInv cnt X1 Y1 ln ∧ (-2147483648 ≤ z ∧ z ≤ 2147483647) ∧ ((¬ (0 ≤ x ∧ x < X 0 0 3 ∧ 0 ≤ k ∧ k < X 19 (tyo (Y 15 x 0)) 1) ∧ z = -1) ∨ ((0 ≤ x ∧ x < X 0 0 3 ∧ 0 ≤ k ∧ k < X 19 (tyo (Y 15 x 0)) 1) ∧ X 21 (tyo (Y 15 x 0)) k < 3 ∧ z = -14) ∨ ((0 ≤ x ∧ x < X 0 0 3 ∧ 0 ≤ k ∧ k < X 19 (tyo (Y 15 x 0)) 1) ∧ 3 ≤ X 21 (tyo (Y 15 x 0)) k ∧ (rlen ln (Y 17 x k) < 0) ∧ z = -11) ∨ ((0 ≤ x ∧ x < X 0 0 3 ∧ 0 ≤ k ∧ k < X 19 (tyo (Y 15 x 0)) 1) ∧ 3 ≤ X 21 (tyo (Y 15 x 0)) k ∧ ¬ (rlen ln (Y 17 x k) < 0) ∧ ¬ (0 ≤ i ∧ i < rlen ln (Y 17 x k)) ∧ z = -12) ∨ ((0 ≤ x ∧ x < X 0 0 3 ∧ 0 ≤ k ∧ k < X 19 (tyo (Y 15 x 0)) 1) ∧ 3 ≤ X 21 (tyo (Y 15 x 0)) k ∧ ¬ (rlen ln (Y 17 x k) < 0) ∧ (0 ≤ i ∧ i < rlen ln (Y 17 x k)) ∧ 80 ≤ X 29 0 1 ∧ z = -4) ∨ ((0 ≤ x ∧ x < X 0 0 3 ∧ 0 ≤ k ∧ k < X 19 (tyo (Y 15 x 0)) 1) ∧ 3 ≤ X 21 (tyo (Y 15 x 0)) k ∧ ¬ (rlen ln (Y 17 x k) < 0) ∧ (0 ≤ i ∧ i < rlen ln (Y 17 x k)) ∧ X 29 0 1 ≤ 79 ∧ z = 1)) ∧ (z < 0 → X1 = X ∧ Y1 = Y) ∧ (z = 1 → ∃ g, Y 17 x k = some g ∧ eNoteC X X1 Y Y1 none i (X 27 g i) (some g) ∧ X1 27 g i = cutZ (X 21 (tyo (Y 15 x 0)) k) v ∧ ∀ y j, ¬ (y = g ∧ j = i) → X1 27 y j = X 27 y j)) := by
  refine K_of (cc := cX8_item) (maxL := 9) (ret := (some .int)) (by decide) rfl (Nat.le_of_ble_eq_true rfl) ?_
  intro p e s m below meth c ls hx hb hr hml hown hts hlocks hl hK hw hS
  have hown : s.vm.findClass RX8 = some m.cls := hown
  obtain ⟨av9, hav9⟩ : ∃ a9 : Array Value, a9 = ([.ref (ad 0 0), .int (jI x), .int (jI k), .int (jI i), .long (jL v)] : List Value).toArray := ⟨_, rfl⟩
  rw [← hav9] at hts ⊢
  obtain ⟨Q9, hQ9⟩ : ∃ q9Q : State → Prop, q9Q = MQ below (QI D tc base (fun z u => ∃ (X1 : Nat → Int → Int → Int) (Y1 : Nat → Int → Int → Option Int), u = (ad, cnt, X1, Y1, ln) ∧ Rng X1 ∧ Frm [2802, 2803, 2902, 2700] X X1 ∧ Frm [2801, 2804] Y Y1 ∧ CInv cnt X1 Y1 ln ∧ (-2147483648 ≤ z ∧ z ≤ 2147483647) ∧ ((¬ (0 ≤ x ∧ x < X 0 0 3 ∧ 0 ≤ k ∧ k < X 19 (tyo (Y 15 x 0)) 1) ∧ z = -1) ∨ ((0 ≤ x ∧ x < X 0 0 3 ∧ 0 ≤ k ∧ k < X 19 (tyo (Y 15 x 0)) 1) ∧ X 21 (tyo (Y 15 x 0)) k < 3 ∧ z = -14) ∨ ((0 ≤ x ∧ x < X 0 0 3 ∧ 0 ≤ k ∧ k < X 19 (tyo (Y 15 x 0)) 1) ∧ 3 ≤ X 21 (tyo (Y 15 x 0)) k ∧ (rlen ln (Y 17 x k) < 0) ∧ z = -11) ∨ ((0 ≤ x ∧ x < X 0 0 3 ∧ 0 ≤ k ∧ k < X 19 (tyo (Y 15 x 0)) 1) ∧ 3 ≤ X 21 (tyo (Y 15 x 0)) k ∧ ¬ (rlen ln (Y 17 x k) < 0) ∧ ¬ (0 ≤ i ∧ i < rlen ln (Y 17 x k)) ∧ z = -12) ∨ ((0 ≤ x ∧ x < X 0 0 3 ∧ 0 ≤ k ∧ k < X 19 (tyo (Y 15 x 0)) 1) ∧ 3 ≤ X 21 (tyo (Y 15 x 0)) k ∧ ¬ (rlen ln (Y 17 x k) < 0) ∧ (0 ≤ i ∧ i < rlen ln (Y 17 x k)) ∧ 80 ≤ X 29 0 1 ∧ z = -4) ∨ ((0 ≤ x ∧ x < X 0 0 3 ∧ 0 ≤ k ∧ k < X 19 (tyo (Y 15 x 0)) 1) ∧ 3 ≤ X 21 (tyo (Y 15 x 0)) k ∧ ¬ (rlen ln (Y 17 x k) < 0) ∧ (0 ≤ i ∧ i < rlen ln (Y 17 x k)) ∧ X 29 0 1 ≤ 79 ∧ z = 1)) ∧ (z < 0 → X1 = X ∧ Y1 = Y) ∧ (z = 1 → ∃ g, Y 17 x k = some g ∧ eNoteC X X1 Y Y1 none i (X 27 g i) (some g) ∧ X1 27 g i = cutZ (X 21 (tyo (Y 15 x 0)) k) v ∧ ∀ y j, ¬ (y = g ∧ j = i) → X1 27 y j = X 27 y j))) av9 s 0 0 (frA base) := ⟨_, rfl⟩
  rw [← hQ9]
  have hi5 : ∀ w ∈ wsX50, w ∈ wsX8_item := fun w h => List.mem_cons_of_mem _ (List.mem_append_left _ (List.mem_append_left _ (List.mem_append_left _ (List.mem_append_right _ h))))
  have hf5 : fctx s m _ RX8 wsX8_item D tc RX5 TX5 2 5 := ⟨hts, hi5, hown, hK.1, rfl⟩
  have hi6 : ∀ w ∈ wsX60, w ∈ wsX8_item := fun w h => List.mem_cons_of_mem _ (List.mem_append_left _ (List.mem_append_left _ (List.mem_append_left _ (List.mem_append_left _ (List.mem_append_left _ (List.mem_append_right _ h))))))
  have hf6 : fctx s m _ RX8 wsX8_item D tc RX6 TX6 4 6 := ⟨hts, hi6, hown, hK.1, rfl⟩
  have hi7 : ∀ w ∈ wsX70, w ∈ wsX8_item := fun w h => List.mem_cons_of_mem _ (List.mem_append_left _ (List.mem_append_left _ (List.mem_append_left _ (List.mem_append_left _ (List.mem_append_right _ h)))))
  have hf7 : fctx s m _ RX8 wsX8_item D tc RX7 TX7 8 7 := ⟨hts, hi7, hown, hK.1, rfl⟩
  have hi8 : ∀ w ∈ wsX80, w ∈ wsX8_item := fun w h => List.mem_cons_of_mem _ (List.mem_append_left _ (List.mem_append_left _ (List.mem_append_right _ h)))
  have hf8 : fctx s m _ RX8 wsX8_item D tc RX8 TX8 12 8 := ⟨hts, hi8, hown, hK.1, rfl⟩
  have lk51 := hts (.fieldLink RX8 51 (TX8 10).1 (TX8 10).2.1 (TX8 10).2.2.1) (gj_X8_item_0 _ (gp_4 gp_h))
  have lk97 := hts (.fieldLink RX8 97 (TX6 0).1 (TX6 0).2.1 (TX6 0).2.2.1) (gj_X8_item_0 _ (gp_h))
  have lk135 := hts (.fieldLink RX8 135 (TX7 3).1 (TX7 3).2.1 (TX7 3).2.2.1) (gj_X8_item_0 _ (gp_1 gp_h))
  have lk158 := hts (.fieldLink RX8 158 (TX6 2).1 (TX6 2).2.1 (TX6 2).2.2.1) (gj_X8_item_0 _ (gp_1 (gp_1 gp_h)))
  have lk161 := hts (.fieldLink RX8 161 (TX5 0).1 (TX5 0).2.1 (TX5 0).2.2.1) (gj_X8_item_0 _ (gp_1 (gp_1 (gp_1 gp_h))))
  have hc0 : cnt 0 = 1 := hFx.at 0 1 (by decide)
  have hc15 : cnt 15 = 30 := hFx.at 15 30 (by decide)
  have hc17 : cnt 17 = 30 := hFx.at 17 30 (by decide)
  have hc21 : cnt 21 = cnt 19 := hFx.2.1 21 (by decide)
  have hc27 : cnt 27 = cnt 26 := hFx.2.2
  have hc29 : cnt 29 = 1 := hFx.at 29 1 (by decide)
  have hl : lv_has ls 9 [(0, .ref (ad 0 0)), (1, .int (jI x)), (2, .int (jI k)), (3, .int (jI i)), (4, .long (jL v))] := hl
  have ftc : 0 ≤ X 0 0 3 ∧ X 0 0 3 ≤ 30 := hR 0 0 3
  have fty : 0 ≤ X 0 0 1 ∧ X 0 0 1 ≤ 8 := hR 0 0 1
  have hct : cnt 19 = X 0 0 1 := hCI.2.2.2.1.1
  have hfj : 0 ≤ X 29 0 3 ∧ X 29 0 3 ≤ 4 := hR 29 0 3
  have hfn : 0 ≤ X 29 0 1 ∧ X 29 0 1 ≤ 80 := hR 29 0 1
  refine lv_aload_n hx hb dX8_item_0 rfl (lv_at hl 0 rfl) ?_
  refine lv_iload_n hx hb dX8_item_1 rfl (lv_at hl 1 rfl) ?_
  refine lv_iload_n hx hb dX8_item_2 rfl (lv_at hl 2 rfl) ?_
  refine gos_r (run_V (As := [.int (jI x), .int (jI k)]) (rest := []) hx hb hml hown hts (c_X8_thingWithField l D tc base ad cnt X Y ln hR hFx hLn hCI x k (by omega) (by omega)) (cwV 2 hts gX8_item_X8_thingWithField rfl rfl rfl (by first | exact hd_X8_thingWithField | decide +kernel) ⟨Nat.le_of_ble_eq_true rfl, Nat.le_of_ble_eq_true rfl⟩) hK hw (by first | exact Int.le_refl 0 | omega) (by first | exact zlt hc0 | omega) sl_0_0 rfl rfl hl.1 rfl (Nat.le_of_ble_eq_true rfl) dX8_item_3 ⟨Nat.le_of_ble_eq_true rfl, Nat.le_of_ble_eq_true rfl⟩) hS (fun u2 H locs p3 hw hS => ?_) (fun z1 u2 H locs p3 hw hS => ?_)
  · obtain ⟨eu2, hsp3, hnp3⟩ := p3
    subst eu2
    refine lv_astoreN (lv' := [(6, .null), (0, .ref (ad 0 0)), (1, .int (jI x)), (2, .int (jI k)), (3, .int (jI i)), (4, .long (jL v))]) hx hb dX8_item_6 hl (by decide) rfl (fun ls hl => ?_)
    refine lv_aloadN hx hb dX8_item_8 (lv_at hl 0 rfl) ?_
    refine lv_ifnonnullN hx hb dX8_item_10 ?_
    refine lv_iconst (v := jI (-1)) hx hb dX8_item_13 rfl ?_
    rw [hQ9]
    refine ret_i (mc := 0) (ms := 0) hx hb hr hlocks hw hS (by first | exact Nat.le_of_ble_eq_true rfl | omega) (by first | exact Nat.le_of_ble_eq_true rfl | omega) dX8_item_14 ?_
    have h9n4 : ¬ (0 ≤ x ∧ x < X 0 0 3 ∧ 0 ≤ k ∧ k < X 19 (tyo (Y 15 x 0)) 1) := hnp3 rfl
    exact ⟨X, Y, rfl, hR, Frm.rf, Frm.rf, hCI, by omega, (by exact Or.inl ⟨(fun q => by (try delta Hid at *); omega), (by (try delta Hid at *); omega)⟩), fun _ => ⟨rfl, rfl⟩, fun q => (by exfalso; omega)⟩
  · obtain ⟨eu2, hsp3, hnp3⟩ := p3
    subst eu2
    obtain ⟨ezz1, p3, h1p3, h2p3, h3p3, h4p3, h5p3⟩ := hsp3 z1 rfl
    refine lv_astore (lv' := [(6, .ref (ad 15 z1)), (0, .ref (ad 0 0)), (1, .int (jI x)), (2, .int (jI k)), (3, .int (jI i)), (4, .long (jL v))]) hx hb dX8_item_6 hl (by decide) rfl (fun ls hl => ?_)
    refine lv_aload hx hb dX8_item_8 (lv_at hl 0 rfl) ?_
    refine lv_ifnonnull (tgt := 15) hx hb dX8_item_10 (by decide) ?_
    refine lv_aload hx hb dX8_item_15 (lv_at hl 0 rfl) ?_
    refine x_getr (jz := 0) hx hb hf6 hw (by omega) (by omega) sl_15_0 rfl lk97 dX8_item_17 (fun y5 => ?_) (fun r6 y5 gr6 lr6 => ?_)
    · exfalso
      exact absurd y5 (hCI.2.2.2.2.1 z1 (by omega) (by omega))
    · refine x_geto hx hb hf7 hw (by omega) (by omega) sl_19_3 lk135 dX8_item_20 ?_
      refine lv_iload_n hx hb dX8_item_23 rfl (lv_at hl 3 rfl) ?_
      refine x_iald hx hb hK.1 hw (by omega) (by omega) ar_21 (len_E ar_21 (by first | exact Nat.ne_of_beq_eq_false rfl | decide)) (by omega) (by omega) (by omega) dX8_item_24 ?_
      have f7 : 0 ≤ X 21 r6 k ∧ X 21 r6 k ≤ 5 := hR 21 r6 k
      refine lv_istore (lv' := [(7, .int (jI (X 21 r6 k))), (6, .ref (ad 15 z1)), (0, .ref (ad 0 0)), (1, .int (jI x)), (2, .int (jI k)), (3, .int (jI i)), (4, .long (jL v))]) hx hb dX8_item_25 hl (by decide) rfl (fun ls hl => ?_)
      refine lv_iload hx hb dX8_item_27 (lv_at hl 0 rfl) ?_
      refine gos_i (run_S (As := [.int (jI (X 21 r6 k))]) (rest := []) hx hb hml hown hts (c_X8_isRowLane l D tc base ad cnt X Y ln (X 21 r6 k) (by omega)) (cwS 1 hts gX8_item_X8_isRowLane rfl rfl rfl (by first | exact hd_X8_isRowLane | decide +kernel) ⟨Nat.le_of_ble_eq_true rfl, Nat.le_of_ble_eq_true rfl⟩) hK hw rfl hl.1 rfl (Nat.le_of_ble_eq_true rfl) dX8_item_29 ⟨Nat.le_of_ble_eq_true rfl, Nat.le_of_ble_eq_true rfl⟩) hS (fun z8 u9 H locs p10 hw hS => ?_)
      obtain ⟨eu9, p10⟩ := p10
      subst eu9
      rcases p10 with ⟨ez8, p10⟩ | ⟨ez8, p10⟩
      · subst ez8
        refine x_if_neT (tgt := 40) hx hb (by omega) (by decide) dX8_item_32 (by decide) ?_
        refine lv_aload hx hb dX8_item_40 (lv_at hl 1 rfl) ?_
        refine x_geto hx hb hf6 hw (by omega) (by omega) sl_15_2 lk158 dX8_item_42 ?_
        refine lv_iload_n hx hb dX8_item_45 rfl (lv_at hl 4 rfl) ?_
        refine x_aald hx hb hK.1 hw (by omega) (by omega) ar_17 rfl (len_E ar_17 (by first | exact Nat.ne_of_beq_eq_false rfl | decide)) (by omega) (by omega) (by omega) dX8_item_46 (fun y11 => ?_) (fun r12 y11 gr12 lr12 => ?_)
        · refine lv_astoreN (lv' := [(8, .null), (7, .int (jI (X 21 r6 k))), (6, .ref (ad 15 z1)), (0, .ref (ad 0 0)), (1, .int (jI x)), (2, .int (jI k)), (3, .int (jI i)), (4, .long (jL v))]) hx hb dX8_item_47 hl (by decide) rfl (fun ls hl => ?_)
          refine lv_aloadN hx hb dX8_item_49 (lv_at hl 0 rfl) ?_
          refine lv_ifnonnullN hx hb dX8_item_51 ?_
          refine lv_iconst (v := jI 1) hx hb dX8_item_54 rfl ?_
          refine gos_i (run_S (As := [.int (jI 1)]) (rest := []) hx hb hml hown hts (c_X8_failed l D tc base ad cnt X Y ln 1 (by omega)) (cwS 1 hts gX8_item_X8_failed rfl rfl rfl (by first | exact hd_X8_failed | decide +kernel) ⟨Nat.le_of_ble_eq_true rfl, Nat.le_of_ble_eq_true rfl⟩) hK hw rfl hl.1 rfl (Nat.le_of_ble_eq_true rfl) dX8_item_55 ⟨Nat.le_of_ble_eq_true rfl, Nat.le_of_ble_eq_true rfl⟩) hS (fun z13 u14 H locs p15 hw hS => ?_)
          obtain ⟨eu14, p15⟩ := p15
          subst eu14
          rw [hQ9]
          refine ret_i (mc := 0) (ms := 0) hx hb hr hlocks hw hS (by first | exact Nat.le_of_ble_eq_true rfl | omega) (by first | exact Nat.le_of_ble_eq_true rfl | omega) dX8_item_58 ?_
          have hT16 : tyo (Y 15 x 0) = r6 := by rw [← ezz1]; exact tyo_some y5
          have hk17 : k < X 19 r6 1 := h5p3 r6 (by rw [← ezz1]; exact y5)
          have hL18 : rlen ln (Y 17 x k) = -1 := by rw [← ezz1, y11]; rfl
          exact ⟨X, Y, rfl, hR, Frm.rf, Frm.rf, hCI, by omega, (by rw [hT16, hL18]; first | (have h9z : (z13 : Int) = -1 := (by omega); exact Or.inl ⟨(fun q => by (try delta Hid at *); omega), (by (try delta Hid at *); omega)⟩) | (have h9z : (z13 : Int) = -14 := (by omega); exact Or.inr (Or.inl ⟨(by (try delta Hid at *); omega), (by (try delta Hid at *); omega), (by (try delta Hid at *); omega)⟩)) | (have h9z : (z13 : Int) = -11 := (by omega); exact Or.inr (Or.inr (Or.inl ⟨(by (try delta Hid at *); omega), (by (try delta Hid at *); omega), (by (try delta Hid at *); omega), (by (try delta Hid at *); omega)⟩))) | (have h9z : (z13 : Int) = -12 := (by omega); exact Or.inr (Or.inr (Or.inr (Or.inl ⟨(by (try delta Hid at *); omega), (by (try delta Hid at *); omega), (fun q => by (try delta Hid at *); omega), (fun q => by (try delta Hid at *); omega), (by (try delta Hid at *); omega)⟩)))) | (have h9z : (z13 : Int) = -4 := (by omega); exact Or.inr (Or.inr (Or.inr (Or.inr (Or.inl ⟨(by (try delta Hid at *); omega), (by (try delta Hid at *); omega), (fun q => by (try delta Hid at *); omega), (by (try delta Hid at *); omega), (by (try delta Hid at *); omega), (by (try delta Hid at *); omega)⟩))))) | (have h9z : (z13 : Int) = 1 := (by omega); exact Or.inr (Or.inr (Or.inr (Or.inr (Or.inr (⟨(by (try delta Hid at *); omega), (by (try delta Hid at *); omega), (fun q => by (try delta Hid at *); omega), (by (try delta Hid at *); omega), (by (try delta Hid at *); omega), (by (try delta Hid at *); omega)⟩)))))) | exact Or.inl ⟨(fun q => by (try delta Hid at *); omega), (by (try delta Hid at *); omega)⟩ | exact Or.inr (Or.inl ⟨(by (try delta Hid at *); omega), (by (try delta Hid at *); omega), (by (try delta Hid at *); omega)⟩) | exact Or.inr (Or.inr (Or.inl ⟨(by (try delta Hid at *); omega), (by (try delta Hid at *); omega), (by (try delta Hid at *); omega), (by (try delta Hid at *); omega)⟩)) | exact Or.inr (Or.inr (Or.inr (Or.inl ⟨(by (try delta Hid at *); omega), (by (try delta Hid at *); omega), (fun q => by (try delta Hid at *); omega), (fun q => by (try delta Hid at *); omega), (by (try delta Hid at *); omega)⟩))) | exact Or.inr (Or.inr (Or.inr (Or.inr (Or.inl ⟨(by (try delta Hid at *); omega), (by (try delta Hid at *); omega), (fun q => by (try delta Hid at *); omega), (by (try delta Hid at *); omega), (by (try delta Hid at *); omega), (by (try delta Hid at *); omega)⟩)))) | exact Or.inr (Or.inr (Or.inr (Or.inr (Or.inr (⟨(by (try delta Hid at *); omega), (by (try delta Hid at *); omega), (fun q => by (try delta Hid at *); omega), (by (try delta Hid at *); omega), (by (try delta Hid at *); omega), (by (try delta Hid at *); omega)⟩)))))), fun _ => ⟨rfl, rfl⟩, fun q => (by exfalso; omega)⟩
        · refine lv_astore (lv' := [(8, .ref (ad 26 r12)), (7, .int (jI (X 21 r6 k))), (6, .ref (ad 15 z1)), (0, .ref (ad 0 0)), (1, .int (jI x)), (2, .int (jI k)), (3, .int (jI i)), (4, .long (jL v))]) hx hb dX8_item_47 hl (by decide) rfl (fun ls hl => ?_)
          refine lv_aload hx hb dX8_item_49 (lv_at hl 0 rfl) ?_
          refine lv_ifnonnull (tgt := 59) hx hb dX8_item_51 (by decide) ?_
          refine lv_iload_n hx hb dX8_item_59 rfl (lv_at hl 6 rfl) ?_
          refine lv_aload hx hb dX8_item_60 (lv_at hl 0 rfl) ?_
          refine x_geto hx hb hf5 hw (by omega) (by omega) sl_26_0 lk161 dX8_item_62 ?_
          have f19 : 0 ≤ ln r12 ∧ ln r12 ≤ 12 := hLn r12
          refine x_alenl hx hb hK.1 hw (by omega) (by omega) ar_27 (show lenE ln 27 r12 = ln r12 from rfl) (by omega) dX8_item_65 ?_
          refine gos_i (run_S (As := [.int (jI i), .int (jI (ln r12))]) (rest := []) hx hb hml hown hts (c_X8_isBelow l D tc base ad cnt X Y ln i (ln r12) (by omega) (by omega)) (cwS 2 hts gX8_item_X8_isBelow rfl rfl rfl (by first | exact hd_X8_isBelow | decide +kernel) ⟨Nat.le_of_ble_eq_true rfl, Nat.le_of_ble_eq_true rfl⟩) hK hw rfl hl.1 rfl (Nat.le_of_ble_eq_true rfl) dX8_item_66 ⟨Nat.le_of_ble_eq_true rfl, Nat.le_of_ble_eq_true rfl⟩) hS (fun z20 u21 H locs p22 hw hS => ?_)
          obtain ⟨eu21, p22⟩ := p22
          subst eu21
          rcases p22 with ⟨ez20, p22⟩ | ⟨ez20, p22⟩
          · subst ez20
            refine x_if_neT (tgt := 77) hx hb (by omega) (by decide) dX8_item_69 (by decide) ?_
            refine lv_aload_n hx hb dX8_item_77 rfl (lv_at hl 3 rfl) ?_
            refine x_geto hx hb hf8 hw (by first | exact Int.le_refl 0 | omega) (by first | exact zlt hc0 | omega) sl_0_10 lk51 dX8_item_78 ?_
            refine gos_i (run_V (As := []) (rest := []) hx hb hml hown hts (c_X2_isFull l D tc base ad cnt X Y ln hR hFx hLn hCI) (cwV 0 hts gX8_item_X2_isFull rfl rfl rfl (by first | exact hd_X2_isFull | decide +kernel) ⟨Nat.le_of_ble_eq_true rfl, Nat.le_of_ble_eq_true rfl⟩) hK hw (by first | exact Int.le_refl 0 | omega) (by first | exact zlt hc29 | omega) sl_29_0 rfl rfl hl.1 rfl (Nat.le_of_ble_eq_true rfl) dX8_item_81 ⟨Nat.le_of_ble_eq_true rfl, Nat.le_of_ble_eq_true rfl⟩) hS (fun z23 u24 H locs p25 hw hS => ?_)
            obtain ⟨eu24, p25⟩ := p25
            subst eu24
            rcases p25 with ⟨ez23, p25⟩ | ⟨ez23, p25⟩
            · subst ez23
              refine x_if_eqF (tgt := 90) hx hb (by omega) (by decide) dX8_item_84 (by decide) ?_
              refine lv_bipush (v := jI (-4)) hx hb dX8_item_87 (by decide) ?_
              rw [hQ9]
              refine ret_i (mc := 0) (ms := 0) hx hb hr hlocks hw hS (by first | exact Nat.le_of_ble_eq_true rfl | omega) (by first | exact Nat.le_of_ble_eq_true rfl | omega) dX8_item_89 ?_
              have hT26 : tyo (Y 15 x 0) = r6 := by rw [← ezz1]; exact tyo_some y5
              have hk27 : k < X 19 r6 1 := h5p3 r6 (by rw [← ezz1]; exact y5)
              have hL28 : rlen ln (Y 17 x k) = ln r12 := by rw [← ezz1, y11]; rfl
              exact ⟨X, Y, rfl, hR, Frm.rf, Frm.rf, hCI, by omega, (by rw [hT26, hL28]; exact Or.inr (Or.inr (Or.inr (Or.inr (Or.inl ⟨(by (try delta Hid at *); omega), (by (try delta Hid at *); omega), (fun q => by (try delta Hid at *); omega), (by (try delta Hid at *); omega), (by (try delta Hid at *); omega), (by (try delta Hid at *); omega)⟩))))), fun _ => ⟨rfl, rfl⟩, fun q => (by exfalso; omega)⟩
            · subst ez23
              refine x_if_eqT (tgt := 90) hx hb (by omega) (by decide) dX8_item_84 (by decide) ?_
              refine lv_aload_n hx hb dX8_item_90 rfl (lv_at hl 3 rfl) ?_
              refine x_geto hx hb hf8 hw (by first | exact Int.le_refl 0 | omega) (by first | exact zlt hc0 | omega) sl_0_10 lk51 dX8_item_91 ?_
              refine lv_aload hx hb dX8_item_94 (lv_at hl 0 rfl) ?_
              refine lv_iload_n hx hb dX8_item_96 rfl (lv_at hl 6 rfl) ?_
              refine gos_v (run_V (As := [.ref (ad 26 r12), .int (jI i)]) (rest := []) hx hb hml hown hts (c_X2_noteItem l D tc base ad cnt X Y ln hR hFx hLn hCI r12 i (by omega) (by omega) (by omega)) (cwV 2 hts gX8_item_X2_noteItem rfl rfl rfl (by first | exact hd_X2_noteItem | decide +kernel) ⟨Nat.le_of_ble_eq_true rfl, Nat.le_of_ble_eq_true rfl⟩) hK hw (by first | exact Int.le_refl 0 | omega) (by first | exact zlt hc29 | omega) sl_29_0 rfl rfl hl.1 rfl (Nat.le_of_ble_eq_true rfl) dX8_item_97 ⟨Nat.le_of_ble_eq_true rfl, Nat.le_of_ble_eq_true rfl⟩) hS (fun u30 H locs p31 hw hS => ?_)
              obtain ⟨X32, Y33, eu30, hRX32, hG34, hJ35, hCIX32, p31, hntX32⟩ := p31
              subst eu30
              have hFX32 : Frm [2802, 2803, 2902, 2700] X X32 := Frm.tr Frm.rf (Frm.mono hG34 (by first | exact nls_of rfl | decide))
              have hHY33 : Frm [2801, 2804] Y Y33 := Frm.tr Frm.rf (Frm.mono hJ35 (by first | exact nls_of rfl | decide))
              refine lv_aload hx hb dX8_item_100 (lv_at hl 0 rfl) ?_
              refine x_geto hx hb hf5 hw (by omega) (by omega) sl_26_0 lk161 dX8_item_102 ?_
              refine lv_iload_n hx hb dX8_item_105 rfl (lv_at hl 6 rfl) ?_
              refine lv_lload hx hb dX8_item_106 (lv_at hl 7 rfl) ?_
              refine lv_iload hx hb dX8_item_108 (lv_at hl 1 rfl) ?_
              refine gos_l (run_S (As := [.long (jL v), .int (jI (X 21 r6 k))]) (rest := [.int (jI i), .ref (ad 27 r12)]) hx hb hml hown hts (c_X8_lowestBits l D tc base ad cnt X32 Y33 ln v (X 21 r6 k) (by omega) (by omega)) (cwS 2 hts gX8_item_X8_lowestBits rfl rfl rfl (by first | exact hd_X8_lowestBits | decide +kernel) ⟨Nat.le_of_ble_eq_true rfl, Nat.le_of_ble_eq_true rfl⟩) hK hw rfl hl.1 rfl (Nat.le_of_ble_eq_true rfl) dX8_item_110 ⟨Nat.le_of_ble_eq_true rfl, Nat.le_of_ble_eq_true rfl⟩) hS (fun z36 u37 H locs p38 hw hS => ?_)
              obtain ⟨eu37, p38⟩ := p38
              subst eu37
              have f39 : 0 ≤ ln r12 ∧ ln r12 ≤ 12 := hLn r12
              refine x_last hx hb hK.1 hw hS (by omega) (by omega) ar_27 (show lenE ln 27 r12 = ln r12 from rfl) (by omega) (by omega) (by omega) dX8_item_113 (fun H locs hw hS => ?_)
              obtain ⟨X40, hX40⟩ : ∃ Xq, Xq = u3 X32 27 r12 i z36 := ⟨_, rfl⟩
              rw [← hX40] at hw
              have hRX40 : Rng X40 := by rw [hX40]; exact rng_set hRX32 (show (-9223372036854775808) ≤ z36 ∧ z36 ≤ 9223372036854775807 by omega)
              have hVX40 : X40 27 r12 i = z36 := by rw [hX40]; exact u3_s _ _ _ _ _
              have hFX40 : Frm [2802, 2803, 2902, 2700] X X40 := by rw [hX40]; exact Frm.set hFX32 (show 2700 ∈ [2802, 2803, 2902, 2700] by first | exact nlm_in rfl | decide)
              refine lv_iconst (v := jI 1) hx hb dX8_item_114 rfl ?_
              rw [hQ9]
              refine ret_i (mc := 0) (ms := 0) hx hb hr hlocks hw hS (by first | exact Nat.le_of_ble_eq_true rfl | omega) (by first | exact Nat.le_of_ble_eq_true rfl | omega) dX8_item_115 ?_
              have hT41 : tyo (Y 15 x 0) = r6 := by rw [← ezz1]; exact tyo_some y5
              have hk42 : k < X 19 r6 1 := h5p3 r6 (by rw [← ezz1]; exact y5)
              have hL43 : rlen ln (Y 17 x k) = ln r12 := by rw [← ezz1, y11]; rfl
              have q44 : Frm [2700] X32 X40 := by rw [hX40]; exact Frm.set Frm.rf (show 2700 ∈ [2700] by first | exact nlm_in rfl | decide)
              have h45 := eNoteC.to (M := [2700]) (N := []) hntX32 q44 Frm.rf (by decide) (by decide) (fun n j => (by rw [hX40, u3_k _ _ _ _ (by first | exact Nat.ne_of_beq_eq_false rfl | decide)])) (fun n j => rfl)
              have hCq47 : CInv cnt X40 Y33 ln := cinv_frm (M := [2700]) (N := []) hCIX32 q44 Frm.rf (by decide) (by decide)
              exact ⟨X40, Y33, rfl, hRX40, hFX40, hHY33, hCq47, by omega, (by rw [hT41, hL43]; exact Or.inr (Or.inr (Or.inr (Or.inr (Or.inr (⟨(by (try delta Hid at *); omega), (by (try delta Hid at *); omega), (fun q => by (try delta Hid at *); omega), (by (try delta Hid at *); omega), (by (try delta Hid at *); omega), (by (try delta Hid at *); omega)⟩)))))), fun q => (by exfalso; omega), fun _ => ⟨r12, (by rw [← ezz1]; exact y11), h45, (by rw [hT41, hVX40]; omega), fun y j hy => (by rw [hX40, u3_ij hy, hG34 27 y j (show 2700 ∉ [2802, 2803, 2902] by first | exact nlm_ni rfl | decide)])⟩⟩
          · subst ez20
            refine x_if_neF (tgt := 77) hx hb (by omega) (by decide) dX8_item_69 (by decide) ?_
            refine lv_iconst (v := jI 2) hx hb dX8_item_72 rfl ?_
            refine gos_i (run_S (As := [.int (jI 2)]) (rest := []) hx hb hml hown hts (c_X8_failed l D tc base ad cnt X Y ln 2 (by omega)) (cwS 1 hts gX8_item_X8_failed rfl rfl rfl (by first | exact hd_X8_failed | decide +kernel) ⟨Nat.le_of_ble_eq_true rfl, Nat.le_of_ble_eq_true rfl⟩) hK hw rfl hl.1 rfl (Nat.le_of_ble_eq_true rfl) dX8_item_73 ⟨Nat.le_of_ble_eq_true rfl, Nat.le_of_ble_eq_true rfl⟩) hS (fun z48 u49 H locs p50 hw hS => ?_)
            obtain ⟨eu49, p50⟩ := p50
            subst eu49
            rw [hQ9]
            refine ret_i (mc := 0) (ms := 0) hx hb hr hlocks hw hS (by first | exact Nat.le_of_ble_eq_true rfl | omega) (by first | exact Nat.le_of_ble_eq_true rfl | omega) dX8_item_76 ?_
            have hT51 : tyo (Y 15 x 0) = r6 := by rw [← ezz1]; exact tyo_some y5
            have hk52 : k < X 19 r6 1 := h5p3 r6 (by rw [← ezz1]; exact y5)
            have hL53 : rlen ln (Y 17 x k) = ln r12 := by rw [← ezz1, y11]; rfl
            exact ⟨X, Y, rfl, hR, Frm.rf, Frm.rf, hCI, by omega, (by rw [hT51, hL53]; first | (have h9z : (z48 : Int) = -1 := (by omega); exact Or.inl ⟨(fun q => by (try delta Hid at *); omega), (by (try delta Hid at *); omega)⟩) | (have h9z : (z48 : Int) = -14 := (by omega); exact Or.inr (Or.inl ⟨(by (try delta Hid at *); omega), (by (try delta Hid at *); omega), (by (try delta Hid at *); omega)⟩)) | (have h9z : (z48 : Int) = -11 := (by omega); exact Or.inr (Or.inr (Or.inl ⟨(by (try delta Hid at *); omega), (by (try delta Hid at *); omega), (by (try delta Hid at *); omega), (by (try delta Hid at *); omega)⟩))) | (have h9z : (z48 : Int) = -12 := (by omega); exact Or.inr (Or.inr (Or.inr (Or.inl ⟨(by (try delta Hid at *); omega), (by (try delta Hid at *); omega), (fun q => by (try delta Hid at *); omega), (fun q => by (try delta Hid at *); omega), (by (try delta Hid at *); omega)⟩)))) | (have h9z : (z48 : Int) = -4 := (by omega); exact Or.inr (Or.inr (Or.inr (Or.inr (Or.inl ⟨(by (try delta Hid at *); omega), (by (try delta Hid at *); omega), (fun q => by (try delta Hid at *); omega), (by (try delta Hid at *); omega), (by (try delta Hid at *); omega), (by (try delta Hid at *); omega)⟩))))) | (have h9z : (z48 : Int) = 1 := (by omega); exact Or.inr (Or.inr (Or.inr (Or.inr (Or.inr (⟨(by (try delta Hid at *); omega), (by (try delta Hid at *); omega), (fun q => by (try delta Hid at *); omega), (by (try delta Hid at *); omega), (by (try delta Hid at *); omega), (by (try delta Hid at *); omega)⟩)))))) | exact Or.inl ⟨(fun q => by (try delta Hid at *); omega), (by (try delta Hid at *); omega)⟩ | exact Or.inr (Or.inl ⟨(by (try delta Hid at *); omega), (by (try delta Hid at *); omega), (by (try delta Hid at *); omega)⟩) | exact Or.inr (Or.inr (Or.inl ⟨(by (try delta Hid at *); omega), (by (try delta Hid at *); omega), (by (try delta Hid at *); omega), (by (try delta Hid at *); omega)⟩)) | exact Or.inr (Or.inr (Or.inr (Or.inl ⟨(by (try delta Hid at *); omega), (by (try delta Hid at *); omega), (fun q => by (try delta Hid at *); omega), (fun q => by (try delta Hid at *); omega), (by (try delta Hid at *); omega)⟩))) | exact Or.inr (Or.inr (Or.inr (Or.inr (Or.inl ⟨(by (try delta Hid at *); omega), (by (try delta Hid at *); omega), (fun q => by (try delta Hid at *); omega), (by (try delta Hid at *); omega), (by (try delta Hid at *); omega), (by (try delta Hid at *); omega)⟩)))) | exact Or.inr (Or.inr (Or.inr (Or.inr (Or.inr (⟨(by (try delta Hid at *); omega), (by (try delta Hid at *); omega), (fun q => by (try delta Hid at *); omega), (by (try delta Hid at *); omega), (by (try delta Hid at *); omega), (by (try delta Hid at *); omega)⟩)))))), fun _ => ⟨rfl, rfl⟩, fun q => (by exfalso; omega)⟩
      · subst ez8
        refine x_if_neF (tgt := 40) hx hb (by omega) (by decide) dX8_item_32 (by decide) ?_
        refine lv_iconst (v := jI 4) hx hb dX8_item_35 rfl ?_
        refine gos_i (run_S (As := [.int (jI 4)]) (rest := []) hx hb hml hown hts (c_X8_failed l D tc base ad cnt X Y ln 4 (by omega)) (cwS 1 hts gX8_item_X8_failed rfl rfl rfl (by first | exact hd_X8_failed | decide +kernel) ⟨Nat.le_of_ble_eq_true rfl, Nat.le_of_ble_eq_true rfl⟩) hK hw rfl hl.1 rfl (Nat.le_of_ble_eq_true rfl) dX8_item_36 ⟨Nat.le_of_ble_eq_true rfl, Nat.le_of_ble_eq_true rfl⟩) hS (fun z54 u55 H locs p56 hw hS => ?_)
        obtain ⟨eu55, p56⟩ := p56
        subst eu55
        rw [hQ9]
        refine ret_i (mc := 0) (ms := 0) hx hb hr hlocks hw hS (by first | exact Nat.le_of_ble_eq_true rfl | omega) (by first | exact Nat.le_of_ble_eq_true rfl | omega) dX8_item_39 ?_
        have hT57 : tyo (Y 15 x 0) = r6 := by rw [← ezz1]; exact tyo_some y5
        have hk58 : k < X 19 r6 1 := h5p3 r6 (by rw [← ezz1]; exact y5)
        exact ⟨X, Y, rfl, hR, Frm.rf, Frm.rf, hCI, by omega, (by rw [hT57]; first | (have h9z : (z54 : Int) = -1 := (by omega); exact Or.inl ⟨(fun q => by (try delta Hid at *); omega), (by (try delta Hid at *); omega)⟩) | (have h9z : (z54 : Int) = -14 := (by omega); exact Or.inr (Or.inl ⟨(by (try delta Hid at *); omega), (by (try delta Hid at *); omega), (by (try delta Hid at *); omega)⟩)) | (have h9z : (z54 : Int) = -11 := (by omega); exact Or.inr (Or.inr (Or.inl ⟨(by (try delta Hid at *); omega), (by (try delta Hid at *); omega), (by (try delta Hid at *); omega), (by (try delta Hid at *); omega)⟩))) | (have h9z : (z54 : Int) = -12 := (by omega); exact Or.inr (Or.inr (Or.inr (Or.inl ⟨(by (try delta Hid at *); omega), (by (try delta Hid at *); omega), (fun q => by (try delta Hid at *); omega), (fun q => by (try delta Hid at *); omega), (by (try delta Hid at *); omega)⟩)))) | (have h9z : (z54 : Int) = -4 := (by omega); exact Or.inr (Or.inr (Or.inr (Or.inr (Or.inl ⟨(by (try delta Hid at *); omega), (by (try delta Hid at *); omega), (fun q => by (try delta Hid at *); omega), (by (try delta Hid at *); omega), (by (try delta Hid at *); omega), (by (try delta Hid at *); omega)⟩))))) | (have h9z : (z54 : Int) = 1 := (by omega); exact Or.inr (Or.inr (Or.inr (Or.inr (Or.inr (⟨(by (try delta Hid at *); omega), (by (try delta Hid at *); omega), (fun q => by (try delta Hid at *); omega), (by (try delta Hid at *); omega), (by (try delta Hid at *); omega), (by (try delta Hid at *); omega)⟩)))))) | exact Or.inl ⟨(fun q => by (try delta Hid at *); omega), (by (try delta Hid at *); omega)⟩ | exact Or.inr (Or.inl ⟨(by (try delta Hid at *); omega), (by (try delta Hid at *); omega), (by (try delta Hid at *); omega)⟩) | exact Or.inr (Or.inr (Or.inl ⟨(by (try delta Hid at *); omega), (by (try delta Hid at *); omega), (by (try delta Hid at *); omega), (by (try delta Hid at *); omega)⟩)) | exact Or.inr (Or.inr (Or.inr (Or.inl ⟨(by (try delta Hid at *); omega), (by (try delta Hid at *); omega), (fun q => by (try delta Hid at *); omega), (fun q => by (try delta Hid at *); omega), (by (try delta Hid at *); omega)⟩))) | exact Or.inr (Or.inr (Or.inr (Or.inr (Or.inl ⟨(by (try delta Hid at *); omega), (by (try delta Hid at *); omega), (fun q => by (try delta Hid at *); omega), (by (try delta Hid at *); omega), (by (try delta Hid at *); omega), (by (try delta Hid at *); omega)⟩)))) | exact Or.inr (Or.inr (Or.inr (Or.inr (Or.inr (⟨(by (try delta Hid at *); omega), (by (try delta Hid at *); omega), (fun q => by (try delta Hid at *); omega), (by (try delta Hid at *); omega), (by (try delta Hid at *); omega), (by (try delta Hid at *); omega)⟩)))))), fun _ => ⟨rfl, rfl⟩, fun q => (by exfalso; omega)⟩
end
section
set_option maxHeartbeats 4000000 in
set_option maxRecDepth 100000 in
theorem c_X8_forget (l : Launch) (D : va_G) (tc : Nat → ClassId) (base : Nat) (ad : Nat → Int → Nat) (cnt : Nat → Int) (X : Nat → Int → Int → Int) (Y : Nat → Int → Int → Option Int) (ln : Int → Int) (hR : Rng X) (hFx : Fx cnt) (hLn : LnOK ln) (hCI : CInv cnt X Y ln)  : KI l D tc base yX8_forget wsX8_forget ({ frames := 0, cells := 0, slots := 0, locals := 0 } : Room) [.ref (ad 0 0)] (ad, cnt, X, Y, ln) 0 0 (fun z u => ∃ (X1 : Nat → Int → Int → Int), u = (ad, cnt, X1, Y, ln) ∧ Rng X1 ∧ Frm [4] X X1 ∧ CInv cnt X1 Y ln ∧ (-2147483648 ≤ z ∧ z ≤ 2147483647) ∧ ((0 < X 29 0 3 ∧ z = -3 ∧ X1 0 0 3 = X 0 0 3) ∨ (X 29 0 3 = 0 ∧ z = X 0 0 3 ∧ X1 0 0 3 = 0))) := by
  refine K_of (cc := cX8_forget) (maxL := 2) (ret := (some .int)) (by decide) rfl (Nat.le_of_ble_eq_true rfl) ?_
  intro p e s m below meth c ls hx hb hr hml hown hts hlocks hl hK hw hS
  have hown : s.vm.findClass RX8 = some m.cls := hown
  obtain ⟨av9, hav9⟩ : ∃ a9 : Array Value, a9 = ([.ref (ad 0 0)] : List Value).toArray := ⟨_, rfl⟩
  rw [← hav9] at hts ⊢
  obtain ⟨Q9, hQ9⟩ : ∃ q9Q : State → Prop, q9Q = MQ below (QI D tc base (fun z u => ∃ (X1 : Nat → Int → Int → Int), u = (ad, cnt, X1, Y, ln) ∧ Rng X1 ∧ Frm [4] X X1 ∧ CInv cnt X1 Y ln ∧ (-2147483648 ≤ z ∧ z ≤ 2147483647) ∧ ((0 < X 29 0 3 ∧ z = -3 ∧ X1 0 0 3 = X 0 0 3) ∨ (X 29 0 3 = 0 ∧ z = X 0 0 3 ∧ X1 0 0 3 = 0)))) av9 s 0 0 (frA base) := ⟨_, rfl⟩
  rw [← hQ9]
  have hi2 : ∀ w ∈ wsX20, w ∈ wsX8_forget := fun w h => List.mem_cons_of_mem _ (List.mem_append_right _ h)
  have hf2 : fctx s m _ RX8 wsX8_forget D tc RX2 TX2 4 2 := ⟨hts, hi2, hown, hK.1, rfl⟩
  have hi8 : ∀ w ∈ wsX80, w ∈ wsX8_forget := fun w h => List.mem_cons_of_mem _ (List.mem_append_left _ (List.mem_append_right _ h))
  have hf8 : fctx s m _ RX8 wsX8_forget D tc RX8 TX8 12 8 := ⟨hts, hi8, hown, hK.1, rfl⟩
  have lk51 := hts (.fieldLink RX8 51 (TX8 10).1 (TX8 10).2.1 (TX8 10).2.2.1) (gj_X8_forget_0 _ (gp_h))
  have lk82 := hts (.fieldLink RX8 82 (TX2 3).1 (TX2 3).2.1 (TX2 3).2.2.1) (gj_X8_forget_0 _ (gp_1 gp_h))
  have lk94 := hts (.fieldLink RX8 94 (TX8 3).1 (TX8 3).2.1 (TX8 3).2.2.1) (gj_X8_forget_0 _ (gp_1 (gp_1 gp_h)))
  have hc0 : cnt 0 = 1 := hFx.at 0 1 (by decide)
  have hc29 : cnt 29 = 1 := hFx.at 29 1 (by decide)
  have hl : lv_has ls 2 [(0, .ref (ad 0 0))] := hl
  have ftc : 0 ≤ X 0 0 3 ∧ X 0 0 3 ≤ 30 := hR 0 0 3
  have fty : 0 ≤ X 0 0 1 ∧ X 0 0 1 ≤ 8 := hR 0 0 1
  have hct : cnt 19 = X 0 0 1 := hCI.2.2.2.1.1
  have hfj : 0 ≤ X 29 0 3 ∧ X 29 0 3 ≤ 4 := hR 29 0 3
  have hfn : 0 ≤ X 29 0 1 ∧ X 29 0 1 ≤ 80 := hR 29 0 1
  refine lv_aload_n hx hb dX8_forget_0 rfl (lv_at hl 0 rfl) ?_
  refine x_geto hx hb hf8 hw (by first | exact Int.le_refl 0 | omega) (by first | exact zlt hc0 | omega) sl_0_10 lk51 dX8_forget_1 ?_
  refine x_geti (jz := 3) hx hb hf2 hw (by first | exact Int.le_refl 0 | omega) (by first | exact zlt hc29 | omega) sl_29_3 rfl lk82 dX8_forget_4 ?_
  have f1 : 0 ≤ X 29 0 3 ∧ X 29 0 3 ≤ 4 := hR 29 0 3
  refine x_if_le (tgt := 13) hx hb (by omega) dX8_forget_7 (by decide) (fun c2 => ?_) (fun c2 => ?_)
  · refine lv_aload_n hx hb dX8_forget_13 rfl (lv_at hl 0 rfl) ?_
    refine x_geti (jz := 3) hx hb hf8 hw (by first | exact Int.le_refl 0 | omega) (by first | exact zlt hc0 | omega) sl_0_3 rfl lk94 dX8_forget_14 ?_
    have f3 : 0 ≤ X 0 0 3 ∧ X 0 0 3 ≤ 30 := hR 0 0 3
    refine lv_istore_n (lv' := [(1, .int (jI (X 0 0 3))), (0, .ref (ad 0 0))]) hx hb dX8_forget_17 rfl hl (by decide) rfl (fun ls hl => ?_)
    refine lv_aload_n hx hb dX8_forget_18 rfl (lv_at hl 1 rfl) ?_
    refine lv_iconst (v := jI 0) hx hb dX8_forget_19 rfl ?_
    refine x_puti (jz := 3) hx hb hf8 ⟨tyX8_ok, nmX8⟩ hw hS (by first | exact Int.le_refl 0 | omega) (by first | exact zlt hc0 | omega) sl_0_3 rfl lk94 rfl (tyX8_ok 3 (by decide)) rfl rfl dX8_forget_20 (fun H locs hw hS => ?_)
    obtain ⟨X4, hX4⟩ : ∃ Xq, Xq = u3 X 0 0 3 0 := ⟨_, rfl⟩
    rw [← hX4] at hw
    have hRX4 : Rng X4 := by rw [hX4]; exact rng_set hR (show 0 ≤ 0 ∧ 0 ≤ 30 by omega)
    have hVX4 : X4 0 0 3 = 0 := by rw [hX4]; exact u3_s _ _ _ _ _
    have hFX4 : Frm [4] X X4 := by rw [hX4]; exact Frm.set Frm.rf (show 4 ∈ [4] by first | exact nlm_in rfl | decide)
    refine lv_iload_n hx hb dX8_forget_23 rfl (lv_at hl 0 rfl) ?_
    rw [hQ9]
    refine ret_i (mc := 0) (ms := 0) hx hb hr hlocks hw hS (by first | exact Nat.le_of_ble_eq_true rfl | omega) (by first | exact Nat.le_of_ble_eq_true rfl | omega) dX8_forget_24 ?_
    have q5 : Frm [4] X X4 := by rw [hX4]; exact Frm.set Frm.rf (show 4 ∈ [4] by first | exact nlm_in rfl | decide)
    exact ⟨X4, rfl, hRX4, hFX4, cinv_things hCI q5 (fun x9 a b c => by rw [hVX4] at b; omega), by omega, by omega⟩
  · refine lv_bipush (v := jI (-3)) hx hb dX8_forget_10 (by decide) ?_
    rw [hQ9]
    refine ret_i (mc := 0) (ms := 0) hx hb hr hlocks hw hS (by first | exact Nat.le_of_ble_eq_true rfl | omega) (by first | exact Nat.le_of_ble_eq_true rfl | omega) dX8_forget_12 ?_
    exact ⟨X, rfl, hR, Frm.rf, hCI, by omega, by omega⟩

set_option maxHeartbeats 4000000 in
set_option maxRecDepth 100000 in
theorem c_X8_told (l : Launch) (D : va_G) (tc : Nat → ClassId) (base : Nat) (ad : Nat → Int → Nat) (cnt : Nat → Int) (X : Nat → Int → Int → Int) (Y : Nat → Int → Int → Option Int) (ln : Int → Int) (hR : Rng X) (hFx : Fx cnt) (hLn : LnOK ln) (hCI : CInv cnt X Y ln) (x what : Int) (hx : -2147483648 ≤ x ∧ x ≤ 2147483647) (hwhat : -2147483648 ≤ what ∧ what ≤ 2147483647) : KI l D tc base yX8_told wsX8_told ({ frames := 1, cells := 0, slots := 0, locals := 22 } : Room) [.ref (ad 0 0), .int (jI x), .int (jI what)] (ad, cnt, X, Y, ln) 0 0 (fun z u => ∃ (X1 : Nat → Int → Int → Int), u = (ad, cnt, X1, Y, ln) ∧ Rng X1 ∧ Frm [] X X1 ∧ CInv cnt X1 Y ln ∧ (-2147483648 ≤ z ∧ z ≤ 2147483647) ∧ ((¬ (0 ≤ x ∧ x < X 0 0 3) ∧ z = -1) ∨ ((0 ≤ x ∧ x < X 0 0 3) ∧ what = 0 ∧ z = tyo (Y 15 x 0)) ∨ ((0 ≤ x ∧ x < X 0 0 3) ∧ what = 1 ∧ z = X 19 (tyo (Y 15 x 0)) 1) ∨ ((0 ≤ x ∧ x < X 0 0 3) ∧ what ≠ 0 ∧ what ≠ 1 ∧ z = -2)) ∧ X1 = X) := by
  refine K_of (cc := cX8_told) (maxL := 4) (ret := (some .int)) (by decide) rfl (Nat.le_of_ble_eq_true rfl) ?_
  intro p e s m below meth c ls hx hb hr hml hown hts hlocks hl hK hw hS
  have hown : s.vm.findClass RX8 = some m.cls := hown
  obtain ⟨av9, hav9⟩ : ∃ a9 : Array Value, a9 = ([.ref (ad 0 0), .int (jI x), .int (jI what)] : List Value).toArray := ⟨_, rfl⟩
  rw [← hav9] at hts ⊢
  obtain ⟨Q9, hQ9⟩ : ∃ q9Q : State → Prop, q9Q = MQ below (QI D tc base (fun z u => ∃ (X1 : Nat → Int → Int → Int), u = (ad, cnt, X1, Y, ln) ∧ Rng X1 ∧ Frm [] X X1 ∧ CInv cnt X1 Y ln ∧ (-2147483648 ≤ z ∧ z ≤ 2147483647) ∧ ((¬ (0 ≤ x ∧ x < X 0 0 3) ∧ z = -1) ∨ ((0 ≤ x ∧ x < X 0 0 3) ∧ what = 0 ∧ z = tyo (Y 15 x 0)) ∨ ((0 ≤ x ∧ x < X 0 0 3) ∧ what = 1 ∧ z = X 19 (tyo (Y 15 x 0)) 1) ∨ ((0 ≤ x ∧ x < X 0 0 3) ∧ what ≠ 0 ∧ what ≠ 1 ∧ z = -2)) ∧ X1 = X)) av9 s 0 0 (frA base) := ⟨_, rfl⟩
  rw [← hQ9]
  have hi6 : ∀ w ∈ wsX60, w ∈ wsX8_told := fun w h => List.mem_cons_of_mem _ (List.mem_append_left _ (List.mem_append_left _ (List.mem_append_right _ h)))
  have hf6 : fctx s m _ RX8 wsX8_told D tc RX6 TX6 4 6 := ⟨hts, hi6, hown, hK.1, rfl⟩
  have hi7 : ∀ w ∈ wsX70, w ∈ wsX8_told := fun w h => List.mem_cons_of_mem _ (List.mem_append_left _ (List.mem_append_right _ h))
  have hf7 : fctx s m _ RX8 wsX8_told D tc RX7 TX7 8 7 := ⟨hts, hi7, hown, hK.1, rfl⟩
  have lk85 := hts (.fieldLink RX8 85 (TX7 1).1 (TX7 1).2.1 (TX7 1).2.2.1) (gj_X8_told_0 _ (gp_1 (gp_1 gp_h)))
  have lk97 := hts (.fieldLink RX8 97 (TX6 0).1 (TX6 0).2.1 (TX6 0).2.2.1) (gj_X8_told_0 _ (gp_h))
  have lk205 := hts (.fieldLink RX8 205 (TX7 0).1 (TX7 0).2.1 (TX7 0).2.2.1) (gj_X8_told_0 _ (gp_1 gp_h))
  have hc0 : cnt 0 = 1 := hFx.at 0 1 (by decide)
  have hc15 : cnt 15 = 30 := hFx.at 15 30 (by decide)
  have hl : lv_has ls 4 [(0, .ref (ad 0 0)), (1, .int (jI x)), (2, .int (jI what))] := hl
  have ftc : 0 ≤ X 0 0 3 ∧ X 0 0 3 ≤ 30 := hR 0 0 3
  have fty : 0 ≤ X 0 0 1 ∧ X 0 0 1 ≤ 8 := hR 0 0 1
  have hct : cnt 19 = X 0 0 1 := hCI.2.2.2.1.1
  have hfj : 0 ≤ X 29 0 3 ∧ X 29 0 3 ≤ 4 := hR 29 0 3
  have hfn : 0 ≤ X 29 0 1 ∧ X 29 0 1 ≤ 80 := hR 29 0 1
  refine lv_aload_n hx hb dX8_told_0 rfl (lv_at hl 0 rfl) ?_
  refine lv_iload_n hx hb dX8_told_1 rfl (lv_at hl 1 rfl) ?_
  refine x_i2l hx hb (by omega) dX8_told_2 ?_
  refine gos_r (run_V (As := [.long (jL x)]) (rest := []) hx hb hml hown hts (c_X8_thingNumbered l D tc base ad cnt X Y ln hR hFx hLn hCI x (by omega)) (cwV 1 hts gX8_told_X8_thingNumbered rfl rfl rfl (by first | exact hd_X8_thingNumbered | decide +kernel) ⟨Nat.le_of_ble_eq_true rfl, Nat.le_of_ble_eq_true rfl⟩) hK hw (by first | exact Int.le_refl 0 | omega) (by first | exact zlt hc0 | omega) sl_0_0 rfl rfl hl.1 rfl (Nat.le_of_ble_eq_true rfl) dX8_told_3 ⟨Nat.le_of_ble_eq_true rfl, Nat.le_of_ble_eq_true rfl⟩) hS (fun u2 H locs p3 hw hS => ?_) (fun z1 u2 H locs p3 hw hS => ?_)
  · obtain ⟨eu2, hsp3, hnp3⟩ := p3
    subst eu2
    refine lv_astore_nN (lv' := [(3, .null), (0, .ref (ad 0 0)), (1, .int (jI x)), (2, .int (jI what))]) hx hb dX8_told_6 rfl hl (by decide) rfl (fun ls hl => ?_)
    refine lv_aload_nN hx hb dX8_told_7 rfl (lv_at hl 0 rfl) ?_
    refine lv_ifnonnullN hx hb dX8_told_8 ?_
    refine lv_iconst (v := jI (-1)) hx hb dX8_told_11 rfl ?_
    rw [hQ9]
    refine ret_i (mc := 0) (ms := 0) hx hb hr hlocks hw hS (by first | exact Nat.le_of_ble_eq_true rfl | omega) (by first | exact Nat.le_of_ble_eq_true rfl | omega) dX8_told_12 ?_
    have h9n4 : ¬ (0 ≤ x ∧ x < X 0 0 3) := hnp3 rfl
    exact ⟨X, rfl, hR, Frm.rf, hCI, by omega, (by first | exact Or.inl ⟨(fun q => by (try delta Hid at *); omega), by omega⟩ | exact Or.inr (Or.inl ⟨(by (try delta Hid at *); omega), by omega, by omega⟩) | exact Or.inr (Or.inr (Or.inl ⟨(by (try delta Hid at *); omega), by omega, by omega⟩))), rfl⟩
  · obtain ⟨eu2, hsp3, hnp3⟩ := p3
    subst eu2
    obtain ⟨ezz1, p3⟩ := hsp3 z1 rfl
    refine lv_astore_n (lv' := [(3, .ref (ad 15 z1)), (0, .ref (ad 0 0)), (1, .int (jI x)), (2, .int (jI what))]) hx hb dX8_told_6 rfl hl (by decide) rfl (fun ls hl => ?_)
    refine lv_aload_n hx hb dX8_told_7 rfl (lv_at hl 0 rfl) ?_
    refine lv_ifnonnull (tgt := 13) hx hb dX8_told_8 (by decide) ?_
    refine lv_iload_n hx hb dX8_told_13 rfl (lv_at hl 3 rfl) ?_
    have tc5 : (jI what).toInt = what := jI_toInt (by omega)
    by_cases c6 : what = 0
    · refine lv_lookup (off := 26) (tgt := 40) hx hb dX8_told_14 (by decide) (by rw [tc5, c6]; rfl) (by decide) ?_
      refine lv_aload_n hx hb dX8_told_40 rfl (lv_at hl 0 rfl) ?_
      refine x_getr (jz := 0) hx hb hf6 hw (by omega) (by omega) sl_15_0 rfl lk97 dX8_told_41 (fun y7 => ?_) (fun r8 y7 gr8 lr8 => ?_)
      · exfalso
        exact absurd y7 (hCI.2.2.2.2.1 z1 (by omega) (by omega))
      · refine x_geti (jz := 0) hx hb hf7 hw (by omega) (by omega) sl_19_0 rfl lk205 dX8_told_44 ?_
        have f9 : 0 ≤ X 19 r8 0 ∧ X 19 r8 0 ≤ 7 := hR 19 r8 0
        rw [hQ9]
        refine ret_i (mc := 0) (ms := 0) hx hb hr hlocks hw hS (by first | exact Nat.le_of_ble_eq_true rfl | omega) (by first | exact Nat.le_of_ble_eq_true rfl | omega) dX8_told_47 ?_
        have hT10 : tyo (Y 15 x 0) = r8 := by rw [← ezz1]; exact tyo_some y7
        have hnum11 := (hCI.2.2.2.1.2 r8 (by omega) (by omega)).2
        exact ⟨X, rfl, hR, Frm.rf, hCI, by omega, (by rw [hT10]; first | exact Or.inr (Or.inl ⟨(by (try delta Hid at *); omega), by omega, by omega⟩) | exact Or.inr (Or.inr (Or.inl ⟨(by (try delta Hid at *); omega), by omega, by omega⟩)) | exact Or.inl ⟨(fun q => by (try delta Hid at *); omega), by omega⟩ | exact Or.inr (Or.inr (Or.inr (⟨(by (try delta Hid at *); omega), by omega, by omega, by omega⟩)))), rfl⟩
    by_cases c12 : what = 1
    · refine lv_lookup (off := 34) (tgt := 48) hx hb dX8_told_14 (by decide) (by rw [tc5, c12]; rfl) (by decide) ?_
      refine lv_aload_n hx hb dX8_told_48 rfl (lv_at hl 0 rfl) ?_
      refine x_getr (jz := 0) hx hb hf6 hw (by omega) (by omega) sl_15_0 rfl lk97 dX8_told_49 (fun y13 => ?_) (fun r14 y13 gr14 lr14 => ?_)
      · exfalso
        exact absurd y13 (hCI.2.2.2.2.1 z1 (by omega) (by omega))
      · refine x_geti (jz := 1) hx hb hf7 hw (by omega) (by omega) sl_19_1 rfl lk85 dX8_told_52 ?_
        have f15 : 0 ≤ X 19 r14 1 ∧ X 19 r14 1 ≤ 5 := hR 19 r14 1
        rw [hQ9]
        refine ret_i (mc := 0) (ms := 0) hx hb hr hlocks hw hS (by first | exact Nat.le_of_ble_eq_true rfl | omega) (by first | exact Nat.le_of_ble_eq_true rfl | omega) dX8_told_55 ?_
        have hT16 : tyo (Y 15 x 0) = r14 := by rw [← ezz1]; exact tyo_some y13
        have hnum17 := (hCI.2.2.2.1.2 r14 (by omega) (by omega)).2
        exact ⟨X, rfl, hR, Frm.rf, hCI, by omega, (by rw [hT16]; first | exact Or.inr (Or.inl ⟨(by (try delta Hid at *); omega), by omega, by omega⟩) | exact Or.inr (Or.inr (Or.inl ⟨(by (try delta Hid at *); omega), by omega, by omega⟩)) | exact Or.inl ⟨(fun q => by (try delta Hid at *); omega), by omega⟩ | exact Or.inr (Or.inr (Or.inr (⟨(by (try delta Hid at *); omega), by omega, by omega, by omega⟩)))), rfl⟩
    refine lv_lookup (off := 42) (tgt := 56) hx hb dX8_told_14 (by decide) (by rw [tc5]; simp [Op.lookupswitch.offset, Ne.symm c6, c6, Ne.symm c12, c12]) (by decide) ?_
    refine lv_bipush (v := jI (-2)) hx hb dX8_told_56 (by decide) ?_
    rw [hQ9]
    refine ret_i (mc := 0) (ms := 0) hx hb hr hlocks hw hS (by first | exact Nat.le_of_ble_eq_true rfl | omega) (by first | exact Nat.le_of_ble_eq_true rfl | omega) dX8_told_58 ?_
    exact ⟨X, rfl, hR, Frm.rf, hCI, by omega, (by first | exact Or.inr (Or.inr (Or.inr (⟨(by (try delta Hid at *); omega), by omega, by omega, by omega⟩))) | exact Or.inr (Or.inl ⟨(by (try delta Hid at *); omega), by omega, by omega⟩) | exact Or.inr (Or.inr (Or.inl ⟨(by (try delta Hid at *); omega), by omega, by omega⟩))), rfl⟩

set_option maxHeartbeats 4000000 in
set_option maxRecDepth 100000 in
theorem c_X8_judge (l : Launch) (D : va_G) (tc : Nat → ClassId) (base : Nat) (ad : Nat → Int → Nat) (cnt : Nat → Int) (X : Nat → Int → Int → Int) (Y : Nat → Int → Int → Option Int) (ln : Int → Int) (hR : Rng X) (hFx : Fx cnt) (hLn : LnOK ln) (hCI : CInv cnt X Y ln) (x : Int) (hx : -2147483648 ≤ x ∧ x ≤ 2147483647) : KI l D tc base yX8_judge wsX8_judge ({ frames := 6, cells := 0, slots := 0, locals := 132 } : Room) [.ref (ad 0 0), .int (jI x)] (ad, cnt, X, Y, ln) 0 0 (fun z u => ∃ (X1 : Nat → Int → Int → Int), u = (ad, cnt, X1, Y, ln) ∧ Rng X1 ∧ Frm [] X X1 ∧ CInv cnt X1 Y ln ∧ (-2147483648 ≤ z ∧ z ≤ 2147483647) ∧ ((¬ (0 ≤ x ∧ x < X 0 0 3) ∧ z = -1) ∨ ((0 ≤ x ∧ x < X 0 0 3) ∧ ∃ how, jdC X Y ln x how ∧ ((how = 0 ∧ z = 1) ∨ (how ≠ 0 ∧ z = -10 - how)))) ∧ X1 = X) := by
  refine K_of (cc := cX8_judge) (maxL := 4) (ret := (some .int)) (by decide) rfl (Nat.le_of_ble_eq_true rfl) ?_
  intro p e s m below meth c ls hx hb hr hml hown hts hlocks hl hK hw hS
  have hown : s.vm.findClass RX8 = some m.cls := hown
  obtain ⟨av9, hav9⟩ : ∃ a9 : Array Value, a9 = ([.ref (ad 0 0), .int (jI x)] : List Value).toArray := ⟨_, rfl⟩
  rw [← hav9] at hts ⊢
  obtain ⟨Q9, hQ9⟩ : ∃ q9Q : State → Prop, q9Q = MQ below (QI D tc base (fun z u => ∃ (X1 : Nat → Int → Int → Int), u = (ad, cnt, X1, Y, ln) ∧ Rng X1 ∧ Frm [] X X1 ∧ CInv cnt X1 Y ln ∧ (-2147483648 ≤ z ∧ z ≤ 2147483647) ∧ ((¬ (0 ≤ x ∧ x < X 0 0 3) ∧ z = -1) ∨ ((0 ≤ x ∧ x < X 0 0 3) ∧ ∃ how, jdC X Y ln x how ∧ ((how = 0 ∧ z = 1) ∨ (how ≠ 0 ∧ z = -10 - how)))) ∧ X1 = X)) av9 s 0 0 (frA base) := ⟨_, rfl⟩
  rw [← hQ9]
  have hi6 : ∀ w ∈ wsX60, w ∈ wsX8_judge := fun w h => List.mem_cons_of_mem _ (List.mem_append_left _ (List.mem_append_left _ (List.mem_append_left _ (List.mem_append_left _ (List.mem_append_right _ h)))))
  have hf6 : fctx s m _ RX8 wsX8_judge D tc RX6 TX6 4 6 := ⟨hts, hi6, hown, hK.1, rfl⟩
  have hi7 : ∀ w ∈ wsX70, w ∈ wsX8_judge := fun w h => List.mem_cons_of_mem _ (List.mem_append_left _ (List.mem_append_left _ (List.mem_append_left _ (List.mem_append_right _ h))))
  have hf7 : fctx s m _ RX8 wsX8_judge D tc RX7 TX7 8 7 := ⟨hts, hi7, hown, hK.1, rfl⟩
  have lk97 := hts (.fieldLink RX8 97 (TX6 0).1 (TX6 0).2.1 (TX6 0).2.2.1) (gj_X8_judge_0 _ (gp_h))
  have lk118 := hts (.fieldLink RX8 118 (TX7 7).1 (TX7 7).2.1 (TX7 7).2.2.1) (gj_X8_judge_0 _ (gp_1 gp_h))
  have hc0 : cnt 0 = 1 := hFx.at 0 1 (by decide)
  have hc15 : cnt 15 = 30 := hFx.at 15 30 (by decide)
  have hc24 : cnt 24 = cnt 19 := hFx.2.1 24 (by decide)
  have hl : lv_has ls 4 [(0, .ref (ad 0 0)), (1, .int (jI x))] := hl
  have ftc : 0 ≤ X 0 0 3 ∧ X 0 0 3 ≤ 30 := hR 0 0 3
  have fty : 0 ≤ X 0 0 1 ∧ X 0 0 1 ≤ 8 := hR 0 0 1
  have hct : cnt 19 = X 0 0 1 := hCI.2.2.2.1.1
  have hfj : 0 ≤ X 29 0 3 ∧ X 29 0 3 ≤ 4 := hR 29 0 3
  have hfn : 0 ≤ X 29 0 1 ∧ X 29 0 1 ≤ 80 := hR 29 0 1
  refine lv_aload_n hx hb dX8_judge_0 rfl (lv_at hl 0 rfl) ?_
  refine lv_iload_n hx hb dX8_judge_1 rfl (lv_at hl 1 rfl) ?_
  refine x_i2l hx hb (by omega) dX8_judge_2 ?_
  refine gos_r (run_V (As := [.long (jL x)]) (rest := []) hx hb hml hown hts (c_X8_thingNumbered l D tc base ad cnt X Y ln hR hFx hLn hCI x (by omega)) (cwV 1 hts gX8_judge_X8_thingNumbered rfl rfl rfl (by first | exact hd_X8_thingNumbered | decide +kernel) ⟨Nat.le_of_ble_eq_true rfl, Nat.le_of_ble_eq_true rfl⟩) hK hw (by first | exact Int.le_refl 0 | omega) (by first | exact zlt hc0 | omega) sl_0_0 rfl rfl hl.1 rfl (Nat.le_of_ble_eq_true rfl) dX8_judge_3 ⟨Nat.le_of_ble_eq_true rfl, Nat.le_of_ble_eq_true rfl⟩) hS (fun u2 H locs p3 hw hS => ?_) (fun z1 u2 H locs p3 hw hS => ?_)
  · obtain ⟨eu2, hsp3, hnp3⟩ := p3
    subst eu2
    refine lv_astore_nN (lv' := [(2, .null), (0, .ref (ad 0 0)), (1, .int (jI x))]) hx hb dX8_judge_6 rfl hl (by decide) rfl (fun ls hl => ?_)
    refine lv_aload_nN hx hb dX8_judge_7 rfl (lv_at hl 0 rfl) ?_
    refine lv_ifnonnullN hx hb dX8_judge_8 ?_
    refine lv_iconst (v := jI (-1)) hx hb dX8_judge_11 rfl ?_
    rw [hQ9]
    refine ret_i (mc := 0) (ms := 0) hx hb hr hlocks hw hS (by first | exact Nat.le_of_ble_eq_true rfl | omega) (by first | exact Nat.le_of_ble_eq_true rfl | omega) dX8_judge_12 ?_
    exact ⟨X, rfl, hR, Frm.rf, hCI, by omega, Or.inl ⟨hnp3 rfl, by omega⟩, rfl⟩
  · obtain ⟨eu2, hsp3, hnp3⟩ := p3
    subst eu2
    obtain ⟨ezz1, p3⟩ := hsp3 z1 rfl
    refine lv_astore_n (lv' := [(2, .ref (ad 15 z1)), (0, .ref (ad 0 0)), (1, .int (jI x))]) hx hb dX8_judge_6 rfl hl (by decide) rfl (fun ls hl => ?_)
    refine lv_aload_n hx hb dX8_judge_7 rfl (lv_at hl 0 rfl) ?_
    refine lv_ifnonnull (tgt := 13) hx hb dX8_judge_8 (by decide) ?_
    refine lv_aload_n hx hb dX8_judge_13 rfl (lv_at hl 1 rfl) ?_
    refine lv_aload_n hx hb dX8_judge_14 rfl (lv_at hl 0 rfl) ?_
    refine gos_i (run_V (As := [.ref (ad 15 z1)]) (rest := []) hx hb hml hown hts (c_X8_firstFailingCheck l D tc base ad cnt X Y ln hR hFx hLn hCI z1 (by omega) (by omega)) (cwV 1 hts gX8_judge_X8_firstFailingCheck rfl rfl rfl (by first | exact hd_X8_firstFailingCheck | decide +kernel) ⟨Nat.le_of_ble_eq_true rfl, Nat.le_of_ble_eq_true rfl⟩) hK hw (by first | exact Int.le_refl 0 | omega) (by first | exact zlt hc0 | omega) sl_0_0 rfl rfl hl.1 rfl (Nat.le_of_ble_eq_true rfl) dX8_judge_15 ⟨Nat.le_of_ble_eq_true rfl, Nat.le_of_ble_eq_true rfl⟩) hS (fun z4 u5 H locs p6 hw hS => ?_)
    obtain ⟨eu5, p6, hAz4, hBz4⟩ := p6
    subst eu5
    refine lv_istore_n (lv' := [(3, .int (jI z4)), (2, .ref (ad 15 z1)), (0, .ref (ad 0 0)), (1, .int (jI x))]) hx hb dX8_judge_18 rfl hl (by decide) rfl (fun ls hl => ?_)
    refine lv_iload_n hx hb dX8_judge_19 rfl (lv_at hl 0 rfl) ?_
    refine lv_iconst (v := jI (-1)) hx hb dX8_judge_20 rfl ?_
    refine x_icmp_ne (tgt := 28) hx hb (by omega) (by omega) dX8_judge_21 (by decide) (fun c7 => ?_) (fun c7 => ?_)
    · refine lv_aload_n hx hb dX8_judge_28 rfl (lv_at hl 2 rfl) ?_
      refine lv_aload_n hx hb dX8_judge_29 rfl (lv_at hl 1 rfl) ?_
      refine lv_aload_n hx hb dX8_judge_30 rfl (lv_at hl 1 rfl) ?_
      refine x_getr (jz := 0) hx hb hf6 hw (by omega) (by omega) sl_15_0 rfl lk97 dX8_judge_31 (fun y8 => ?_) (fun r9 y8 gr9 lr9 => ?_)
      · exfalso
        exact absurd y8 (hCI.2.2.2.2.1 z1 (by omega) (by omega))
      · refine x_geto hx hb hf7 hw (by omega) (by omega) sl_19_7 lk118 dX8_judge_34 ?_
        refine lv_iload_n hx hb dX8_judge_37 rfl (lv_at hl 0 rfl) ?_
        have hlt := hAz4 r9 y8
        refine x_aald hx hb hK.1 hw (by omega) (by omega) ar_24 rfl (len_E ar_24 (by first | exact Nat.ne_of_beq_eq_false rfl | decide)) (by omega) (by omega) (by omega) dX8_judge_38 (fun y10 => ?_) (fun r11 y10 gr11 lr11 => ?_)
        · exfalso
          exact absurd y10 (hCI.2.2.2.2.2.1 r9 z4 (by omega) (by omega) (by omega) (by omega))
        · refine gos_i (run_V (As := [.ref (ad 15 z1), .ref (ad 25 r11)]) (rest := []) hx hb hml hown hts (c_X8_failureOf l D tc base ad cnt X Y ln hR hFx hLn hCI z1 r11 (by omega) (by omega) (by omega)) (cwV 2 hts gX8_judge_X8_failureOf rfl rfl rfl (by first | exact hd_X8_failureOf | decide +kernel) ⟨Nat.le_of_ble_eq_true rfl, Nat.le_of_ble_eq_true rfl⟩) hK hw (by first | exact Int.le_refl 0 | omega) (by first | exact zlt hc0 | omega) sl_0_0 rfl rfl hl.1 rfl (Nat.le_of_ble_eq_true rfl) dX8_judge_39 ⟨Nat.le_of_ble_eq_true rfl, Nat.le_of_ble_eq_true rfl⟩) hS (fun z12 u13 H locs p14 hw hS => ?_)
          obtain ⟨eu13, p14⟩ := p14
          subst eu13
          refine gos_i (run_S (As := [.int (jI z12)]) (rest := []) hx hb hml hown hts (c_X8_failed l D tc base ad cnt X Y ln z12 (by omega)) (cwS 1 hts gX8_judge_X8_failed rfl rfl rfl (by first | exact hd_X8_failed | decide +kernel) ⟨Nat.le_of_ble_eq_true rfl, Nat.le_of_ble_eq_true rfl⟩) hK hw rfl hl.1 rfl (Nat.le_of_ble_eq_true rfl) dX8_judge_42 ⟨Nat.le_of_ble_eq_true rfl, Nat.le_of_ble_eq_true rfl⟩) hS (fun z15 u16 H locs p17 hw hS => ?_)
          obtain ⟨eu16, p17⟩ := p17
          subst eu16
          rw [hQ9]
          refine ret_i (mc := 0) (ms := 0) hx hb hr hlocks hw hS (by first | exact Nat.le_of_ble_eq_true rfl | omega) (by first | exact Nat.le_of_ble_eq_true rfl | omega) dX8_judge_45 ?_
          exact ⟨X, rfl, hR, Frm.rf, hCI, by omega, Or.inr ⟨⟨by omega, by omega⟩, z12, (by rw [← ezz1]; rcases hBz4 with ⟨q1, -⟩ | ⟨q1, q2, q3, q4⟩; exfalso; omega; exact Or.inr ⟨(by rw [tyo_some y8, tyo_some y10] at q4; omega), z4, q1, q2, q3, (by rw [tyo_some y8, tyo_some y10]; omega)⟩), Or.inr ⟨(by rcases hBz4 with ⟨q1, -⟩ | ⟨q1, q2, q3, q4⟩; exfalso; omega; rw [tyo_some y8, tyo_some y10] at q4; omega), by omega⟩⟩, rfl⟩
    · refine lv_iconst (v := jI 1) hx hb dX8_judge_24 rfl ?_
      refine lv_goto (tgt := 45) hx hb dX8_judge_25 (by decide) ?_
      rw [hQ9]
      refine ret_i (mc := 0) (ms := 0) hx hb hr hlocks hw hS (by first | exact Nat.le_of_ble_eq_true rfl | omega) (by first | exact Nat.le_of_ble_eq_true rfl | omega) dX8_judge_45 ?_
      exact ⟨X, rfl, hR, Frm.rf, hCI, by omega, Or.inr ⟨⟨by omega, by omega⟩, 0, (by rw [← ezz1]; rcases hBz4 with ⟨q1, q2⟩ | ⟨q1, -⟩; exact Or.inl ⟨rfl, q2⟩; exfalso; omega), Or.inl ⟨rfl, by omega⟩⟩, rfl⟩

set_option maxHeartbeats 4000000 in
set_option maxRecDepth 100000 in
theorem c_X8_saved (l : Launch) (D : va_G) (tc : Nat → ClassId) (base : Nat) (ad : Nat → Int → Nat) (cnt : Nat → Int) (X : Nat → Int → Int → Int) (Y : Nat → Int → Int → Option Int) (ln : Int → Int) (hR : Rng X) (hFx : Fx cnt) (hLn : LnOK ln) (hCI : CInv cnt X Y ln) (sv what : Int) (hsv : -2147483648 ≤ sv ∧ sv ≤ 2147483647) (hwhat : -2147483648 ≤ what ∧ what ≤ 2147483647) : KI l D tc base yX8_saved wsX8_saved ({ frames := 1, cells := 0, slots := 0, locals := 21 } : Room) [.ref (ad 0 0), .int (jI sv), .int (jI what)] (ad, cnt, X, Y, ln) 0 0 (fun z u => ∃ (X1 : Nat → Int → Int → Int), u = (ad, cnt, X1, Y, ln) ∧ Rng X1 ∧ Frm [] X X1 ∧ CInv cnt X1 Y ln ∧ (-2147483648 ≤ z ∧ z ≤ 2147483647) ∧ ((¬ (0 ≤ sv ∧ sv < 4) ∧ z = -1) ∨ ((0 ≤ sv ∧ sv < 4) ∧ what = 0 ∧ z = X 7 (tyo (Y 4 0 sv)) 0) ∨ ((0 ≤ sv ∧ sv < 4) ∧ what = 1 ∧ z = X 7 (tyo (Y 4 0 sv)) 6) ∨ ((0 ≤ sv ∧ sv < 4) ∧ what ≠ 0 ∧ what ≠ 1 ∧ z = -2)) ∧ X1 = X) := by
  refine K_of (cc := cX8_saved) (maxL := 3) (ret := (some .int)) (by decide) rfl (Nat.le_of_ble_eq_true rfl) ?_
  intro p e s m below meth c ls hx hb hr hml hown hts hlocks hl hK hw hS
  have hown : s.vm.findClass RX8 = some m.cls := hown
  obtain ⟨av9, hav9⟩ : ∃ a9 : Array Value, a9 = ([.ref (ad 0 0), .int (jI sv), .int (jI what)] : List Value).toArray := ⟨_, rfl⟩
  rw [← hav9] at hts ⊢
  obtain ⟨Q9, hQ9⟩ : ∃ q9Q : State → Prop, q9Q = MQ below (QI D tc base (fun z u => ∃ (X1 : Nat → Int → Int → Int), u = (ad, cnt, X1, Y, ln) ∧ Rng X1 ∧ Frm [] X X1 ∧ CInv cnt X1 Y ln ∧ (-2147483648 ≤ z ∧ z ≤ 2147483647) ∧ ((¬ (0 ≤ sv ∧ sv < 4) ∧ z = -1) ∨ ((0 ≤ sv ∧ sv < 4) ∧ what = 0 ∧ z = X 7 (tyo (Y 4 0 sv)) 0) ∨ ((0 ≤ sv ∧ sv < 4) ∧ what = 1 ∧ z = X 7 (tyo (Y 4 0 sv)) 6) ∨ ((0 ≤ sv ∧ sv < 4) ∧ what ≠ 0 ∧ what ≠ 1 ∧ z = -2)) ∧ X1 = X)) av9 s 0 0 (frA base) := ⟨_, rfl⟩
  rw [← hQ9]
  have hi4 : ∀ w ∈ wsX40, w ∈ wsX8_saved := fun w h => List.mem_cons_of_mem _ (List.mem_append_right _ h)
  have hf4 : fctx s m _ RX8 wsX8_saved D tc RX4 TX4 9 4 := ⟨hts, hi4, hown, hK.1, rfl⟩
  have hi8 : ∀ w ∈ wsX80, w ∈ wsX8_saved := fun w h => List.mem_cons_of_mem _ (List.mem_append_left _ (List.mem_append_right _ h))
  have hf8 : fctx s m _ RX8 wsX8_saved D tc RX8 TX8 12 8 := ⟨hts, hi8, hown, hK.1, rfl⟩
  have lk27 := hts (.fieldLink RX8 27 (TX8 5).1 (TX8 5).2.1 (TX8 5).2.2.1) (gj_X8_saved_0 _ (gp_h))
  have lk231 := hts (.fieldLink RX8 231 (TX4 0).1 (TX4 0).2.1 (TX4 0).2.2.1) (gj_X8_saved_0 _ (gp_1 gp_h))
  have lk234 := hts (.fieldLink RX8 234 (TX4 6).1 (TX4 6).2.1 (TX4 6).2.2.1) (gj_X8_saved_0 _ (gp_1 (gp_1 gp_h)))
  have hc0 : cnt 0 = 1 := hFx.at 0 1 (by decide)
  have hc4 : cnt 4 = 1 := hFx.at 4 1 (by decide)
  have hc7 : cnt 7 = 6 := hFx.at 7 6 (by decide)
  have hl : lv_has ls 3 [(0, .ref (ad 0 0)), (1, .int (jI sv)), (2, .int (jI what))] := hl
  have ftc : 0 ≤ X 0 0 3 ∧ X 0 0 3 ≤ 30 := hR 0 0 3
  have fty : 0 ≤ X 0 0 1 ∧ X 0 0 1 ≤ 8 := hR 0 0 1
  have hct : cnt 19 = X 0 0 1 := hCI.2.2.2.1.1
  have hfj : 0 ≤ X 29 0 3 ∧ X 29 0 3 ≤ 4 := hR 29 0 3
  have hfn : 0 ≤ X 29 0 1 ∧ X 29 0 1 ≤ 80 := hR 29 0 1
  refine lv_iload_n hx hb dX8_saved_0 rfl (lv_at hl 1 rfl) ?_
  refine lv_iconst (v := jI 4) hx hb dX8_saved_1 rfl ?_
  refine gos_i (run_S (As := [.int (jI sv), .int (jI 4)]) (rest := []) hx hb hml hown hts (c_X8_isBelow l D tc base ad cnt X Y ln sv 4 (by omega) (by omega)) (cwS 2 hts gX8_saved_X8_isBelow rfl rfl rfl (by first | exact hd_X8_isBelow | decide +kernel) ⟨Nat.le_of_ble_eq_true rfl, Nat.le_of_ble_eq_true rfl⟩) hK hw rfl hl.1 rfl (Nat.le_of_ble_eq_true rfl) dX8_saved_2 ⟨Nat.le_of_ble_eq_true rfl, Nat.le_of_ble_eq_true rfl⟩) hS (fun z1 u2 H locs p3 hw hS => ?_)
  obtain ⟨eu2, p3⟩ := p3
  subst eu2
  rcases p3 with ⟨ez1, p3⟩ | ⟨ez1, p3⟩
  · subst ez1
    refine x_if_neT (tgt := 10) hx hb (by omega) (by decide) dX8_saved_5 (by decide) ?_
    refine lv_iload_n hx hb dX8_saved_10 rfl (lv_at hl 2 rfl) ?_
    have tc4 : (jI what).toInt = what := jI_toInt (by omega)
    by_cases c5 : what = 0
    · refine lv_lookup (off := 25) (tgt := 36) hx hb dX8_saved_11 (by decide) (by rw [tc4, c5]; rfl) (by decide) ?_
      refine lv_aload_n hx hb dX8_saved_36 rfl (lv_at hl 0 rfl) ?_
      refine x_geto hx hb hf8 hw (by first | exact Int.le_refl 0 | omega) (by first | exact zlt hc0 | omega) sl_0_5 lk27 dX8_saved_37 ?_
      refine lv_iload_n hx hb dX8_saved_40 rfl (lv_at hl 1 rfl) ?_
      refine x_aald hx hb hK.1 hw (by first | exact Int.le_refl 0 | omega) (by first | exact zlt hc4 | omega) ar_4 rfl (len_E ar_4 (by first | exact Nat.ne_of_beq_eq_false rfl | decide)) (by omega) (by omega) (by omega) dX8_saved_41 (fun y6 => ?_) (fun r7 y6 gr7 lr7 => ?_)
      · exfalso
        exact absurd y6 (hCI.2.2.1.1 sv (by omega) (by omega))
      · refine x_geti (jz := 0) hx hb hf4 hw (by omega) (by omega) sl_7_0 rfl lk231 dX8_saved_42 ?_
        have f8 : 0 ≤ X 7 r7 0 ∧ X 7 r7 0 ≤ 30 := hR 7 r7 0
        rw [hQ9]
        refine ret_i (mc := 0) (ms := 0) hx hb hr hlocks hw hS (by first | exact Nat.le_of_ble_eq_true rfl | omega) (by first | exact Nat.le_of_ble_eq_true rfl | omega) dX8_saved_45 ?_
        have hT9 : tyo (Y 4 0 sv) = r7 := tyo_some y6
        exact ⟨X, rfl, hR, Frm.rf, hCI, by omega, (by rw [hT9]; first | exact Or.inr (Or.inl ⟨(by (try delta Hid at *); omega), by omega, by omega⟩) | exact Or.inr (Or.inr (Or.inl ⟨(by (try delta Hid at *); omega), by omega, by omega⟩)) | exact Or.inl ⟨(fun q => by (try delta Hid at *); omega), by omega⟩ | exact Or.inr (Or.inr (Or.inr (⟨(by (try delta Hid at *); omega), by omega, by omega, by omega⟩)))), rfl⟩
    by_cases c10 : what = 1
    · refine lv_lookup (off := 35) (tgt := 46) hx hb dX8_saved_11 (by decide) (by rw [tc4, c10]; rfl) (by decide) ?_
      refine lv_aload_n hx hb dX8_saved_46 rfl (lv_at hl 0 rfl) ?_
      refine x_geto hx hb hf8 hw (by first | exact Int.le_refl 0 | omega) (by first | exact zlt hc0 | omega) sl_0_5 lk27 dX8_saved_47 ?_
      refine lv_iload_n hx hb dX8_saved_50 rfl (lv_at hl 1 rfl) ?_
      refine x_aald hx hb hK.1 hw (by first | exact Int.le_refl 0 | omega) (by first | exact zlt hc4 | omega) ar_4 rfl (len_E ar_4 (by first | exact Nat.ne_of_beq_eq_false rfl | decide)) (by omega) (by omega) (by omega) dX8_saved_51 (fun y11 => ?_) (fun r12 y11 gr12 lr12 => ?_)
      · exfalso
        exact absurd y11 (hCI.2.2.1.1 sv (by omega) (by omega))
      · refine x_geti (jz := 6) hx hb hf4 hw (by omega) (by omega) sl_7_6 rfl lk234 dX8_saved_52 ?_
        have f13 : 0 ≤ X 7 r12 6 ∧ X 7 r12 6 ≤ 150 := hR 7 r12 6
        rw [hQ9]
        refine ret_i (mc := 0) (ms := 0) hx hb hr hlocks hw hS (by first | exact Nat.le_of_ble_eq_true rfl | omega) (by first | exact Nat.le_of_ble_eq_true rfl | omega) dX8_saved_55 ?_
        have hT14 : tyo (Y 4 0 sv) = r12 := tyo_some y11
        exact ⟨X, rfl, hR, Frm.rf, hCI, by omega, (by rw [hT14]; first | exact Or.inr (Or.inl ⟨(by (try delta Hid at *); omega), by omega, by omega⟩) | exact Or.inr (Or.inr (Or.inl ⟨(by (try delta Hid at *); omega), by omega, by omega⟩)) | exact Or.inl ⟨(fun q => by (try delta Hid at *); omega), by omega⟩ | exact Or.inr (Or.inr (Or.inr (⟨(by (try delta Hid at *); omega), by omega, by omega, by omega⟩)))), rfl⟩
    refine lv_lookup (off := 45) (tgt := 56) hx hb dX8_saved_11 (by decide) (by rw [tc4]; simp [Op.lookupswitch.offset, Ne.symm c5, c5, Ne.symm c10, c10]) (by decide) ?_
    refine lv_bipush (v := jI (-2)) hx hb dX8_saved_56 (by decide) ?_
    rw [hQ9]
    refine ret_i (mc := 0) (ms := 0) hx hb hr hlocks hw hS (by first | exact Nat.le_of_ble_eq_true rfl | omega) (by first | exact Nat.le_of_ble_eq_true rfl | omega) dX8_saved_58 ?_
    exact ⟨X, rfl, hR, Frm.rf, hCI, by omega, (by first | exact Or.inr (Or.inr (Or.inr (⟨(by (try delta Hid at *); omega), by omega, by omega, by omega⟩))) | exact Or.inr (Or.inl ⟨(by (try delta Hid at *); omega), by omega, by omega⟩) | exact Or.inr (Or.inr (Or.inl ⟨(by (try delta Hid at *); omega), by omega, by omega⟩))), rfl⟩
  · subst ez1
    refine x_if_neF (tgt := 10) hx hb (by omega) (by decide) dX8_saved_5 (by decide) ?_
    refine lv_iconst (v := jI (-1)) hx hb dX8_saved_8 rfl ?_
    rw [hQ9]
    refine ret_i (mc := 0) (ms := 0) hx hb hr hlocks hw hS (by first | exact Nat.le_of_ble_eq_true rfl | omega) (by first | exact Nat.le_of_ble_eq_true rfl | omega) dX8_saved_9 ?_
    exact ⟨X, rfl, hR, Frm.rf, hCI, by omega, (by first | exact Or.inl ⟨(fun q => by (try delta Hid at *); omega), by omega⟩ | exact Or.inr (Or.inl ⟨(by (try delta Hid at *); omega), by omega, by omega⟩) | exact Or.inr (Or.inr (Or.inl ⟨(by (try delta Hid at *); omega), by omega, by omega⟩))), rfl⟩

set_option maxHeartbeats 4000000 in
set_option maxRecDepth 100000 in
theorem c_X8_fault (l : Launch) (D : va_G) (tc : Nat → ClassId) (base : Nat) (ad : Nat → Int → Nat) (cnt : Nat → Int) (X : Nat → Int → Int → Int) (Y : Nat → Int → Int → Option Int) (ln : Int → Int) (hR : Rng X) (hFx : Fx cnt) (hLn : LnOK ln) (hCI : CInv cnt X Y ln) (what : Int) (hwhat : -2147483648 ≤ what ∧ what ≤ 2147483647) : KI l D tc base yX8_fault wsX8_fault ({ frames := 0, cells := 0, slots := 0, locals := 0 } : Room) [.ref (ad 0 0), .int (jI what)] (ad, cnt, X, Y, ln) 0 0 (fun z u => ∃ (X1 : Nat → Int → Int → Int), u = (ad, cnt, X1, Y, ln) ∧ Rng X1 ∧ Frm [] X X1 ∧ CInv cnt X1 Y ln ∧ (-2147483648 ≤ z ∧ z ≤ 2147483647)) := by
  refine K_of (cc := cX8_fault) (maxL := 2) (ret := (some .int)) (by decide) rfl (Nat.le_of_ble_eq_true rfl) ?_
  intro p e s m below meth c ls hx hb hr hml hown hts hlocks hl hK hw hS
  have hown : s.vm.findClass RX8 = some m.cls := hown
  obtain ⟨av9, hav9⟩ : ∃ a9 : Array Value, a9 = ([.ref (ad 0 0), .int (jI what)] : List Value).toArray := ⟨_, rfl⟩
  rw [← hav9] at hts ⊢
  obtain ⟨Q9, hQ9⟩ : ∃ q9Q : State → Prop, q9Q = MQ below (QI D tc base (fun z u => ∃ (X1 : Nat → Int → Int → Int), u = (ad, cnt, X1, Y, ln) ∧ Rng X1 ∧ Frm [] X X1 ∧ CInv cnt X1 Y ln ∧ (-2147483648 ≤ z ∧ z ≤ 2147483647))) av9 s 0 0 (frA base) := ⟨_, rfl⟩
  rw [← hQ9]
  have hi1 : ∀ w ∈ wsX10, w ∈ wsX8_fault := fun w h => List.mem_cons_of_mem _ (List.mem_append_right _ h)
  have hf1 : fctx s m _ RX8 wsX8_fault D tc RX1 TX1 4 1 := ⟨hts, hi1, hown, hK.1, rfl⟩
  have hi8 : ∀ w ∈ wsX80, w ∈ wsX8_fault := fun w h => List.mem_cons_of_mem _ (List.mem_append_left _ (List.mem_append_right _ h))
  have hf8 : fctx s m _ RX8 wsX8_fault D tc RX8 TX8 12 8 := ⟨hts, hi8, hown, hK.1, rfl⟩
  have lk58 := hts (.fieldLink RX8 58 (TX8 11).1 (TX8 11).2.1 (TX8 11).2.2.1) (gj_X8_fault_0 _ (gp_h))
  have lk248 := hts (.fieldLink RX8 248 (TX1 0).1 (TX1 0).2.1 (TX1 0).2.2.1) (gj_X8_fault_0 _ (gp_1 gp_h))
  have lk252 := hts (.fieldLink RX8 252 (TX1 1).1 (TX1 1).2.1 (TX1 1).2.2.1) (gj_X8_fault_0 _ (gp_1 (gp_1 gp_h)))
  have lk255 := hts (.fieldLink RX8 255 (TX1 2).1 (TX1 2).2.1 (TX1 2).2.2.1) (gj_X8_fault_0 _ (gp_1 (gp_1 (gp_1 gp_h))))
  have lk258 := hts (.fieldLink RX8 258 (TX1 3).1 (TX1 3).2.1 (TX1 3).2.2.1) (gj_X8_fault_0 _ (gp_4 gp_h))
  have hc0 : cnt 0 = 1 := hFx.at 0 1 (by decide)
  have hc32 : cnt 32 = 1 := hFx.at 32 1 (by decide)
  have hl : lv_has ls 2 [(0, .ref (ad 0 0)), (1, .int (jI what))] := hl
  have ftc : 0 ≤ X 0 0 3 ∧ X 0 0 3 ≤ 30 := hR 0 0 3
  have fty : 0 ≤ X 0 0 1 ∧ X 0 0 1 ≤ 8 := hR 0 0 1
  have hct : cnt 19 = X 0 0 1 := hCI.2.2.2.1.1
  have hfj : 0 ≤ X 29 0 3 ∧ X 29 0 3 ≤ 4 := hR 29 0 3
  have hfn : 0 ≤ X 29 0 1 ∧ X 29 0 1 ≤ 80 := hR 29 0 1
  refine lv_aload_n hx hb dX8_fault_0 rfl (lv_at hl 0 rfl) ?_
  refine x_geto hx hb hf8 hw (by first | exact Int.le_refl 0 | omega) (by first | exact zlt hc0 | omega) sl_0_11 lk58 dX8_fault_1 ?_
  refine x_geti (jz := 0) hx hb hf1 hw (by first | exact Int.le_refl 0 | omega) (by first | exact zlt hc32 | omega) sl_32_0 rfl lk248 dX8_fault_4 ?_
  have f1 : 0 ≤ X 32 0 0 ∧ X 32 0 0 ≤ 1 := hR 32 0 0
  refine x_if_ne (tgt := 13) hx hb (by omega) dX8_fault_7 (by decide) (fun c2 => ?_) (fun c2 => ?_)
  · refine lv_iload_n hx hb dX8_fault_13 rfl (lv_at hl 1 rfl) ?_
    have tc3 : (jI what).toInt = what := jI_toInt (by omega)
    by_cases c3 : what < 0 ∨ 2 < what
    · refine lv_tableOut (tgt := 64) hx hb dX8_fault_14 (by rw [tc3]; exact c3) (by decide) ?_
      refine lv_bipush (v := jI (-2)) hx hb dX8_fault_64 (by decide) ?_
      rw [hQ9]
      refine ret_i (mc := 0) (ms := 0) hx hb hr hlocks hw hS (by first | exact Nat.le_of_ble_eq_true rfl | omega) (by first | exact Nat.le_of_ble_eq_true rfl | omega) dX8_fault_66 ?_
      exact ⟨X, rfl, hR, Frm.rf, hCI, by omega⟩
    by_cases c4 : what = 0
    · refine lv_tableIn (off := 26) (tgt := 40) hx hb dX8_fault_14 (by rw [tc3]; omega) (by rw [tc3]; omega) (by rw [tc3, c4]; rfl) (by decide) ?_
      refine lv_aload_n hx hb dX8_fault_40 rfl (lv_at hl 0 rfl) ?_
      refine x_geto hx hb hf8 hw (by first | exact Int.le_refl 0 | omega) (by first | exact zlt hc0 | omega) sl_0_11 lk58 dX8_fault_41 ?_
      refine x_geti (jz := 1) hx hb hf1 hw (by first | exact Int.le_refl 0 | omega) (by first | exact zlt hc32 | omega) sl_32_1 rfl lk252 dX8_fault_44 ?_
      have f5 : (-2147483648) ≤ X 32 0 1 ∧ X 32 0 1 ≤ 2147483647 := hR 32 0 1
      rw [hQ9]
      refine ret_i (mc := 0) (ms := 0) hx hb hr hlocks hw hS (by first | exact Nat.le_of_ble_eq_true rfl | omega) (by first | exact Nat.le_of_ble_eq_true rfl | omega) dX8_fault_47 ?_
      exact ⟨X, rfl, hR, Frm.rf, hCI, by omega⟩
    by_cases c6 : what = 1
    · refine lv_tableIn (off := 34) (tgt := 48) hx hb dX8_fault_14 (by rw [tc3]; omega) (by rw [tc3]; omega) (by rw [tc3, c6]; rfl) (by decide) ?_
      refine lv_aload_n hx hb dX8_fault_48 rfl (lv_at hl 0 rfl) ?_
      refine x_geto hx hb hf8 hw (by first | exact Int.le_refl 0 | omega) (by first | exact zlt hc0 | omega) sl_0_11 lk58 dX8_fault_49 ?_
      refine x_geti (jz := 2) hx hb hf1 hw (by first | exact Int.le_refl 0 | omega) (by first | exact zlt hc32 | omega) sl_32_2 rfl lk255 dX8_fault_52 ?_
      have f7 : (-2147483648) ≤ X 32 0 2 ∧ X 32 0 2 ≤ 2147483647 := hR 32 0 2
      rw [hQ9]
      refine ret_i (mc := 0) (ms := 0) hx hb hr hlocks hw hS (by first | exact Nat.le_of_ble_eq_true rfl | omega) (by first | exact Nat.le_of_ble_eq_true rfl | omega) dX8_fault_55 ?_
      exact ⟨X, rfl, hR, Frm.rf, hCI, by omega⟩
    have c8 : what = 2 := by omega
    refine lv_tableIn (off := 42) (tgt := 56) hx hb dX8_fault_14 (by rw [tc3]; omega) (by rw [tc3]; omega) (by rw [tc3, c8]; rfl) (by decide) ?_
    refine lv_aload_n hx hb dX8_fault_56 rfl (lv_at hl 0 rfl) ?_
    refine x_geto hx hb hf8 hw (by first | exact Int.le_refl 0 | omega) (by first | exact zlt hc0 | omega) sl_0_11 lk58 dX8_fault_57 ?_
    refine x_geti (jz := 3) hx hb hf1 hw (by first | exact Int.le_refl 0 | omega) (by first | exact zlt hc32 | omega) sl_32_3 rfl lk258 dX8_fault_60 ?_
    have f9 : (-2147483648) ≤ X 32 0 3 ∧ X 32 0 3 ≤ 2147483647 := hR 32 0 3
    rw [hQ9]
    refine ret_i (mc := 0) (ms := 0) hx hb hr hlocks hw hS (by first | exact Nat.le_of_ble_eq_true rfl | omega) (by first | exact Nat.le_of_ble_eq_true rfl | omega) dX8_fault_63 ?_
    exact ⟨X, rfl, hR, Frm.rf, hCI, by omega⟩
  · refine lv_bipush (v := jI (-9)) hx hb dX8_fault_10 (by decide) ?_
    rw [hQ9]
    refine ret_i (mc := 0) (ms := 0) hx hb hr hlocks hw hS (by first | exact Nat.le_of_ble_eq_true rfl | omega) (by first | exact Nat.le_of_ble_eq_true rfl | omega) dX8_fault_12 ?_
    exact ⟨X, rfl, hR, Frm.rf, hCI, by omega⟩

set_option maxHeartbeats 4000000 in
set_option maxRecDepth 100000 in
theorem c_X8_count (l : Launch) (D : va_G) (tc : Nat → ClassId) (base : Nat) (ad : Nat → Int → Nat) (cnt : Nat → Int) (X : Nat → Int → Int → Int) (Y : Nat → Int → Int → Option Int) (ln : Int → Int) (hR : Rng X) (hFx : Fx cnt) (hLn : LnOK ln) (hCI : CInv cnt X Y ln) (what : Int) (hwhat : -2147483648 ≤ what ∧ what ≤ 2147483647) : KI l D tc base yX8_count wsX8_count ({ frames := 0, cells := 0, slots := 0, locals := 0 } : Room) [.ref (ad 0 0), .int (jI what)] (ad, cnt, X, Y, ln) 0 0 (fun z u => ∃ (X1 : Nat → Int → Int → Int), u = (ad, cnt, X1, Y, ln) ∧ Rng X1 ∧ Frm [] X X1 ∧ CInv cnt X1 Y ln ∧ (-2147483648 ≤ z ∧ z ≤ 2147483647) ∧ ((what = 0 ∧ z = X 0 0 1) ∨ (what = 1 ∧ z = X 0 0 3) ∨ (what = 2 ∧ z = X 29 0 3) ∨ (what = 3 ∧ z = X 29 0 1) ∨ (¬ (0 ≤ what ∧ what ≤ 3) ∧ z = -2)) ∧ X1 = X) := by
  refine K_of (cc := cX8_count) (maxL := 2) (ret := (some .int)) (by decide) rfl (Nat.le_of_ble_eq_true rfl) ?_
  intro p e s m below meth c ls hx hb hr hml hown hts hlocks hl hK hw hS
  have hown : s.vm.findClass RX8 = some m.cls := hown
  obtain ⟨av9, hav9⟩ : ∃ a9 : Array Value, a9 = ([.ref (ad 0 0), .int (jI what)] : List Value).toArray := ⟨_, rfl⟩
  rw [← hav9] at hts ⊢
  obtain ⟨Q9, hQ9⟩ : ∃ q9Q : State → Prop, q9Q = MQ below (QI D tc base (fun z u => ∃ (X1 : Nat → Int → Int → Int), u = (ad, cnt, X1, Y, ln) ∧ Rng X1 ∧ Frm [] X X1 ∧ CInv cnt X1 Y ln ∧ (-2147483648 ≤ z ∧ z ≤ 2147483647) ∧ ((what = 0 ∧ z = X 0 0 1) ∨ (what = 1 ∧ z = X 0 0 3) ∨ (what = 2 ∧ z = X 29 0 3) ∨ (what = 3 ∧ z = X 29 0 1) ∨ (¬ (0 ≤ what ∧ what ≤ 3) ∧ z = -2)) ∧ X1 = X)) av9 s 0 0 (frA base) := ⟨_, rfl⟩
  rw [← hQ9]
  have hi2 : ∀ w ∈ wsX20, w ∈ wsX8_count := fun w h => List.mem_cons_of_mem _ (List.mem_append_right _ h)
  have hf2 : fctx s m _ RX8 wsX8_count D tc RX2 TX2 4 2 := ⟨hts, hi2, hown, hK.1, rfl⟩
  have hi8 : ∀ w ∈ wsX80, w ∈ wsX8_count := fun w h => List.mem_cons_of_mem _ (List.mem_append_left _ (List.mem_append_right _ h))
  have hf8 : fctx s m _ RX8 wsX8_count D tc RX8 TX8 12 8 := ⟨hts, hi8, hown, hK.1, rfl⟩
  have lk51 := hts (.fieldLink RX8 51 (TX8 10).1 (TX8 10).2.1 (TX8 10).2.2.1) (gj_X8_count_0 _ (gp_1 (gp_1 gp_h)))
  have lk63 := hts (.fieldLink RX8 63 (TX8 1).1 (TX8 1).2.1 (TX8 1).2.2.1) (gj_X8_count_0 _ (gp_h))
  have lk82 := hts (.fieldLink RX8 82 (TX2 3).1 (TX2 3).2.1 (TX2 3).2.2.1) (gj_X8_count_0 _ (gp_1 (gp_1 (gp_1 gp_h))))
  have lk94 := hts (.fieldLink RX8 94 (TX8 3).1 (TX8 3).2.1 (TX8 3).2.2.1) (gj_X8_count_0 _ (gp_1 gp_h))
  have lk272 := hts (.fieldLink RX8 272 (TX2 1).1 (TX2 1).2.1 (TX2 1).2.2.1) (gj_X8_count_0 _ (gp_4 gp_h))
  have hc0 : cnt 0 = 1 := hFx.at 0 1 (by decide)
  have hc29 : cnt 29 = 1 := hFx.at 29 1 (by decide)
  have hl : lv_has ls 2 [(0, .ref (ad 0 0)), (1, .int (jI what))] := hl
  have ftc : 0 ≤ X 0 0 3 ∧ X 0 0 3 ≤ 30 := hR 0 0 3
  have fty : 0 ≤ X 0 0 1 ∧ X 0 0 1 ≤ 8 := hR 0 0 1
  have hct : cnt 19 = X 0 0 1 := hCI.2.2.2.1.1
  have hfj : 0 ≤ X 29 0 3 ∧ X 29 0 3 ≤ 4 := hR 29 0 3
  have hfn : 0 ≤ X 29 0 1 ∧ X 29 0 1 ≤ 80 := hR 29 0 1
  refine lv_iload_n hx hb dX8_count_0 rfl (lv_at hl 1 rfl) ?_
  have tc1 : (jI what).toInt = what := jI_toInt (by omega)
  by_cases c1 : what < 0 ∨ 3 < what
  · refine lv_tableOut (tgt := 58) hx hb dX8_count_1 (by rw [tc1]; exact c1) (by decide) ?_
    refine lv_bipush (v := jI (-2)) hx hb dX8_count_58 (by decide) ?_
    rw [hQ9]
    refine ret_i (mc := 0) (ms := 0) hx hb hr hlocks hw hS (by first | exact Nat.le_of_ble_eq_true rfl | omega) (by first | exact Nat.le_of_ble_eq_true rfl | omega) dX8_count_60 ?_
    exact ⟨X, rfl, hR, Frm.rf, hCI, by omega, (by first | exact Or.inr (Or.inr (Or.inr (Or.inr (⟨(fun q => by (try delta Hid at *); omega), by omega⟩)))) | exact Or.inl ⟨by omega, by omega⟩ | exact Or.inr (Or.inl ⟨by omega, by omega⟩) | exact Or.inr (Or.inr (Or.inl ⟨by omega, by omega⟩)) | exact Or.inr (Or.inr (Or.inr (Or.inl ⟨by omega, by omega⟩)))), rfl⟩
  by_cases c2 : what = 0
  · refine lv_tableIn (off := 31) (tgt := 32) hx hb dX8_count_1 (by rw [tc1]; omega) (by rw [tc1]; omega) (by rw [tc1, c2]; rfl) (by decide) ?_
    refine lv_aload_n hx hb dX8_count_32 rfl (lv_at hl 0 rfl) ?_
    refine x_geti (jz := 1) hx hb hf8 hw (by first | exact Int.le_refl 0 | omega) (by first | exact zlt hc0 | omega) sl_0_1 rfl lk63 dX8_count_33 ?_
    have f3 : 0 ≤ X 0 0 1 ∧ X 0 0 1 ≤ 8 := hR 0 0 1
    rw [hQ9]
    refine ret_i (mc := 0) (ms := 0) hx hb hr hlocks hw hS (by first | exact Nat.le_of_ble_eq_true rfl | omega) (by first | exact Nat.le_of_ble_eq_true rfl | omega) dX8_count_36 ?_
    exact ⟨X, rfl, hR, Frm.rf, hCI, by omega, (by first | exact Or.inl ⟨by omega, by omega⟩ | exact Or.inr (Or.inl ⟨by omega, by omega⟩) | exact Or.inr (Or.inr (Or.inl ⟨by omega, by omega⟩)) | exact Or.inr (Or.inr (Or.inr (Or.inl ⟨by omega, by omega⟩))) | exact Or.inr (Or.inr (Or.inr (Or.inr (⟨(fun q => by (try delta Hid at *); omega), by omega⟩))))), rfl⟩
  by_cases c4 : what = 1
  · refine lv_tableIn (off := 36) (tgt := 37) hx hb dX8_count_1 (by rw [tc1]; omega) (by rw [tc1]; omega) (by rw [tc1, c4]; rfl) (by decide) ?_
    refine lv_aload_n hx hb dX8_count_37 rfl (lv_at hl 0 rfl) ?_
    refine x_geti (jz := 3) hx hb hf8 hw (by first | exact Int.le_refl 0 | omega) (by first | exact zlt hc0 | omega) sl_0_3 rfl lk94 dX8_count_38 ?_
    have f5 : 0 ≤ X 0 0 3 ∧ X 0 0 3 ≤ 30 := hR 0 0 3
    rw [hQ9]
    refine ret_i (mc := 0) (ms := 0) hx hb hr hlocks hw hS (by first | exact Nat.le_of_ble_eq_true rfl | omega) (by first | exact Nat.le_of_ble_eq_true rfl | omega) dX8_count_41 ?_
    exact ⟨X, rfl, hR, Frm.rf, hCI, by omega, (by first | exact Or.inr (Or.inl ⟨by omega, by omega⟩) | exact Or.inl ⟨by omega, by omega⟩ | exact Or.inr (Or.inr (Or.inl ⟨by omega, by omega⟩)) | exact Or.inr (Or.inr (Or.inr (Or.inl ⟨by omega, by omega⟩))) | exact Or.inr (Or.inr (Or.inr (Or.inr (⟨(fun q => by (try delta Hid at *); omega), by omega⟩))))), rfl⟩
  by_cases c6 : what = 2
  · refine lv_tableIn (off := 41) (tgt := 42) hx hb dX8_count_1 (by rw [tc1]; omega) (by rw [tc1]; omega) (by rw [tc1, c6]; rfl) (by decide) ?_
    refine lv_aload_n hx hb dX8_count_42 rfl (lv_at hl 0 rfl) ?_
    refine x_geto hx hb hf8 hw (by first | exact Int.le_refl 0 | omega) (by first | exact zlt hc0 | omega) sl_0_10 lk51 dX8_count_43 ?_
    refine x_geti (jz := 3) hx hb hf2 hw (by first | exact Int.le_refl 0 | omega) (by first | exact zlt hc29 | omega) sl_29_3 rfl lk82 dX8_count_46 ?_
    have f7 : 0 ≤ X 29 0 3 ∧ X 29 0 3 ≤ 4 := hR 29 0 3
    rw [hQ9]
    refine ret_i (mc := 0) (ms := 0) hx hb hr hlocks hw hS (by first | exact Nat.le_of_ble_eq_true rfl | omega) (by first | exact Nat.le_of_ble_eq_true rfl | omega) dX8_count_49 ?_
    exact ⟨X, rfl, hR, Frm.rf, hCI, by omega, (by first | exact Or.inr (Or.inr (Or.inl ⟨by omega, by omega⟩)) | exact Or.inl ⟨by omega, by omega⟩ | exact Or.inr (Or.inl ⟨by omega, by omega⟩) | exact Or.inr (Or.inr (Or.inr (Or.inl ⟨by omega, by omega⟩))) | exact Or.inr (Or.inr (Or.inr (Or.inr (⟨(fun q => by (try delta Hid at *); omega), by omega⟩))))), rfl⟩
  have c8 : what = 3 := by omega
  refine lv_tableIn (off := 49) (tgt := 50) hx hb dX8_count_1 (by rw [tc1]; omega) (by rw [tc1]; omega) (by rw [tc1, c8]; rfl) (by decide) ?_
  refine lv_aload_n hx hb dX8_count_50 rfl (lv_at hl 0 rfl) ?_
  refine x_geto hx hb hf8 hw (by first | exact Int.le_refl 0 | omega) (by first | exact zlt hc0 | omega) sl_0_10 lk51 dX8_count_51 ?_
  refine x_geti (jz := 1) hx hb hf2 hw (by first | exact Int.le_refl 0 | omega) (by first | exact zlt hc29 | omega) sl_29_1 rfl lk272 dX8_count_54 ?_
  have f9 : 0 ≤ X 29 0 1 ∧ X 29 0 1 ≤ 80 := hR 29 0 1
  rw [hQ9]
  refine ret_i (mc := 0) (ms := 0) hx hb hr hlocks hw hS (by first | exact Nat.le_of_ble_eq_true rfl | omega) (by first | exact Nat.le_of_ble_eq_true rfl | omega) dX8_count_57 ?_
  exact ⟨X, rfl, hR, Frm.rf, hCI, by omega, (by first | exact Or.inr (Or.inr (Or.inr (Or.inl ⟨by omega, by omega⟩))) | exact Or.inl ⟨by omega, by omega⟩ | exact Or.inr (Or.inl ⟨by omega, by omega⟩) | exact Or.inr (Or.inr (Or.inl ⟨by omega, by omega⟩)) | exact Or.inr (Or.inr (Or.inr (Or.inr (⟨(fun q => by (try delta Hid at *); omega), by omega⟩))))), rfl⟩

set_option maxHeartbeats 4000000 in
set_option maxRecDepth 100000 in
theorem c_X8_mark (l : Launch) (D : va_G) (tc : Nat → ClassId) (base : Nat) (ad : Nat → Int → Nat) (cnt : Nat → Int) (X : Nat → Int → Int → Int) (Y : Nat → Int → Int → Option Int) (ln : Int → Int) (hR : Rng X) (hFx : Fx cnt) (hLn : LnOK ln) (hCI : CInv cnt X Y ln)  : KI l D tc base yX8_mark wsX8_mark ({ frames := 1, cells := 0, slots := 0, locals := 20 } : Room) [.ref (ad 0 0)] (ad, cnt, X, Y, ln) 0 0 (fun z u => ∃ (X1 : Nat → Int → Int → Int), u = (ad, cnt, X1, Y, ln) ∧ Rng X1 ∧ Frm [2904, 3100] X X1 ∧ CInv cnt X1 Y ln ∧ (-2147483648 ≤ z ∧ z ≤ 2147483647) ∧ ((4 ≤ X 29 0 3 ∧ z = -4 ∧ X1 29 0 3 = X 29 0 3) ∨ (X 29 0 3 < 4 ∧ z = X 29 0 3 + 1 ∧ X1 29 0 3 = X 29 0 3 + 1)) ∧ (0 ≤ z → X1 31 0 (X 29 0 3) = X 29 0 1) ∧ (∀ j, j ≠ X 29 0 3 → X1 31 0 j = X 31 0 j) ∧ (z < 0 → X1 = X)) := by
  refine K_of (cc := cX8_mark) (maxL := 1) (ret := (some .int)) (by decide) rfl (Nat.le_of_ble_eq_true rfl) ?_
  intro p e s m below meth c ls hx hb hr hml hown hts hlocks hl hK hw hS
  have hown : s.vm.findClass RX8 = some m.cls := hown
  obtain ⟨av9, hav9⟩ : ∃ a9 : Array Value, a9 = ([.ref (ad 0 0)] : List Value).toArray := ⟨_, rfl⟩
  rw [← hav9] at hts ⊢
  obtain ⟨Q9, hQ9⟩ : ∃ q9Q : State → Prop, q9Q = MQ below (QI D tc base (fun z u => ∃ (X1 : Nat → Int → Int → Int), u = (ad, cnt, X1, Y, ln) ∧ Rng X1 ∧ Frm [2904, 3100] X X1 ∧ CInv cnt X1 Y ln ∧ (-2147483648 ≤ z ∧ z ≤ 2147483647) ∧ ((4 ≤ X 29 0 3 ∧ z = -4 ∧ X1 29 0 3 = X 29 0 3) ∨ (X 29 0 3 < 4 ∧ z = X 29 0 3 + 1 ∧ X1 29 0 3 = X 29 0 3 + 1)) ∧ (0 ≤ z → X1 31 0 (X 29 0 3) = X 29 0 1) ∧ (∀ j, j ≠ X 29 0 3 → X1 31 0 j = X 31 0 j) ∧ (z < 0 → X1 = X))) av9 s 0 0 (frA base) := ⟨_, rfl⟩
  rw [← hQ9]
  have hi2 : ∀ w ∈ wsX20, w ∈ wsX8_mark := fun w h => List.mem_cons_of_mem _ (List.mem_append_right _ h)
  have hf2 : fctx s m _ RX8 wsX8_mark D tc RX2 TX2 4 2 := ⟨hts, hi2, hown, hK.1, rfl⟩
  have hi8 : ∀ w ∈ wsX80, w ∈ wsX8_mark := fun w h => List.mem_cons_of_mem _ (List.mem_append_left _ (List.mem_append_right _ h))
  have hf8 : fctx s m _ RX8 wsX8_mark D tc RX8 TX8 12 8 := ⟨hts, hi8, hown, hK.1, rfl⟩
  have lk51 := hts (.fieldLink RX8 51 (TX8 10).1 (TX8 10).2.1 (TX8 10).2.2.1) (gj_X8_mark_0 _ (gp_h))
  have lk82 := hts (.fieldLink RX8 82 (TX2 3).1 (TX2 3).2.1 (TX2 3).2.2.1) (gj_X8_mark_0 _ (gp_1 gp_h))
  have hc0 : cnt 0 = 1 := hFx.at 0 1 (by decide)
  have hc29 : cnt 29 = 1 := hFx.at 29 1 (by decide)
  have hl : lv_has ls 1 [(0, .ref (ad 0 0))] := hl
  have ftc : 0 ≤ X 0 0 3 ∧ X 0 0 3 ≤ 30 := hR 0 0 3
  have fty : 0 ≤ X 0 0 1 ∧ X 0 0 1 ≤ 8 := hR 0 0 1
  have hct : cnt 19 = X 0 0 1 := hCI.2.2.2.1.1
  have hfj : 0 ≤ X 29 0 3 ∧ X 29 0 3 ≤ 4 := hR 29 0 3
  have hfn : 0 ≤ X 29 0 1 ∧ X 29 0 1 ≤ 80 := hR 29 0 1
  refine lv_aload_n hx hb dX8_mark_0 rfl (lv_at hl 0 rfl) ?_
  refine x_geto hx hb hf8 hw (by first | exact Int.le_refl 0 | omega) (by first | exact zlt hc0 | omega) sl_0_10 lk51 dX8_mark_1 ?_
  refine x_geti (jz := 3) hx hb hf2 hw (by first | exact Int.le_refl 0 | omega) (by first | exact zlt hc29 | omega) sl_29_3 rfl lk82 dX8_mark_4 ?_
  have f1 : 0 ≤ X 29 0 3 ∧ X 29 0 3 ≤ 4 := hR 29 0 3
  refine lv_iconst (v := jI 4) hx hb dX8_mark_7 rfl ?_
  refine x_icmp_lt (tgt := 14) hx hb (by omega) (by omega) dX8_mark_8 (by decide) (fun c2 => ?_) (fun c2 => ?_)
  · refine lv_aload_n hx hb dX8_mark_14 rfl (lv_at hl 0 rfl) ?_
    refine x_geto hx hb hf8 hw (by first | exact Int.le_refl 0 | omega) (by first | exact zlt hc0 | omega) sl_0_10 lk51 dX8_mark_15 ?_
    refine gos_v (run_V (As := []) (rest := []) hx hb hml hown hts (c_X2_addMark l D tc base ad cnt X Y ln hR hFx hLn hCI (by omega)) (cwV 0 hts gX8_mark_X2_addMark rfl rfl rfl (by first | exact hd_X2_addMark | decide +kernel) ⟨Nat.le_of_ble_eq_true rfl, Nat.le_of_ble_eq_true rfl⟩) hK hw (by first | exact Int.le_refl 0 | omega) (by first | exact zlt hc29 | omega) sl_29_0 rfl rfl hl.1 rfl (Nat.le_of_ble_eq_true rfl) dX8_mark_18 ⟨Nat.le_of_ble_eq_true rfl, Nat.le_of_ble_eq_true rfl⟩) hS (fun u4 H locs p5 hw hS => ?_)
    obtain ⟨X6, eu4, hRX6, hG7, hCIX6, p5, hmkX6⟩ := p5
    subst eu4
    have hFX6 : Frm [2904, 3100] X X6 := Frm.tr Frm.rf (Frm.mono hG7 (by first | exact nls_of rfl | decide))
    refine lv_aload_n hx hb dX8_mark_21 rfl (lv_at hl 0 rfl) ?_
    refine x_geto hx hb hf8 hw (by first | exact Int.le_refl 0 | omega) (by first | exact zlt hc0 | omega) sl_0_10 lk51 dX8_mark_22 ?_
    refine x_geti (jz := 3) hx hb hf2 hw (by first | exact Int.le_refl 0 | omega) (by first | exact zlt hc29 | omega) sl_29_3 rfl lk82 dX8_mark_25 ?_
    have f8 : 0 ≤ X6 29 0 3 ∧ X6 29 0 3 ≤ 4 := hRX6 29 0 3
    rw [hQ9]
    refine ret_i (mc := 0) (ms := 0) hx hb hr hlocks hw hS (by first | exact Nat.le_of_ble_eq_true rfl | omega) (by first | exact Nat.le_of_ble_eq_true rfl | omega) dX8_mark_28 ?_
    exact ⟨X6, rfl, hRX6, hFX6, hCIX6, by omega, (by have h9 := hmkX6.1; omega), (fun _ => (hmkX6).2.1), (hmkX6).2.2, fun q => (by exfalso; have h9 := hmkX6.1; omega)⟩
  · refine lv_bipush (v := jI (-4)) hx hb dX8_mark_11 (by decide) ?_
    rw [hQ9]
    refine ret_i (mc := 0) (ms := 0) hx hb hr hlocks hw hS (by first | exact Nat.le_of_ble_eq_true rfl | omega) (by first | exact Nat.le_of_ble_eq_true rfl | omega) dX8_mark_13 ?_
    exact ⟨X, rfl, hR, Frm.rf, hCI, by omega, by omega, fun q => (by exfalso; omega), (fun j _ => rfl), fun _ => rfl⟩

set_option maxHeartbeats 4000000 in
set_option maxRecDepth 100000 in
theorem c_X8_undo (l : Launch) (D : va_G) (tc : Nat → ClassId) (base : Nat) (ad : Nat → Int → Nat) (cnt : Nat → Int) (X : Nat → Int → Int → Int) (Y : Nat → Int → Int → Option Int) (ln : Int → Int) (hR : Rng X) (hFx : Fx cnt) (hLn : LnOK ln) (hCI : CInv cnt X Y ln)  : KI l D tc base yX8_undo wsX8_undo ({ frames := 2, cells := 0, slots := 0, locals := 43 } : Room) [.ref (ad 0 0)] (ad, cnt, X, Y, ln) 0 0 (fun z u => ∃ (X1 : Nat → Int → Int → Int) (Y1 : Nat → Int → Int → Option Int), u = (ad, cnt, X1, Y1, ln) ∧ Rng X1 ∧ Frm [2904, 2902, 1600, 2700] X X1 ∧ Frm [1700] Y Y1 ∧ CInv cnt X1 Y1 ln ∧ (-2147483648 ≤ z ∧ z ≤ 2147483647) ∧ ((X 29 0 3 = 0 ∧ X1 29 0 3 = 0) ∨ (1 ≤ X 29 0 3 ∧ X1 29 0 3 = X 29 0 3 - 1)) ∧ (X 29 0 3 = 0 → X1 = X ∧ Y1 = Y ∧ z = -3) ∧ (1 ≤ X 29 0 3 → ∃ (V Xa : Nat → Int → Int → Int) (iz : Int), Frm [2904] X V ∧ uTrC (X 29 0 1) ((X 29 0 1 - 1 - iz).toNat) V Y Xa Y1 ∧ (X 31 0 (X 29 0 3 - 1) - 1 ≤ iz ∨ iz = X 29 0 1 - 1) ∧ iz < X 31 0 (X 29 0 3 - 1) ∧ (-1 ≤ iz ∧ iz < X 29 0 1 ∨ iz = -1) ∧ Frm [2902] Xa X1 ∧ X1 29 0 1 = X 31 0 (X 29 0 3 - 1) ∧ z = X 29 0 1 - X 31 0 (X 29 0 3 - 1))) := by
  refine K_of (cc := cX8_undo) (maxL := 1) (ret := (some .int)) (by decide) rfl (Nat.le_of_ble_eq_true rfl) ?_
  intro p e s m below meth c ls hx hb hr hml hown hts hlocks hl hK hw hS
  have hown : s.vm.findClass RX8 = some m.cls := hown
  obtain ⟨av9, hav9⟩ : ∃ a9 : Array Value, a9 = ([.ref (ad 0 0)] : List Value).toArray := ⟨_, rfl⟩
  rw [← hav9] at hts ⊢
  obtain ⟨Q9, hQ9⟩ : ∃ q9Q : State → Prop, q9Q = MQ below (QI D tc base (fun z u => ∃ (X1 : Nat → Int → Int → Int) (Y1 : Nat → Int → Int → Option Int), u = (ad, cnt, X1, Y1, ln) ∧ Rng X1 ∧ Frm [2904, 2902, 1600, 2700] X X1 ∧ Frm [1700] Y Y1 ∧ CInv cnt X1 Y1 ln ∧ (-2147483648 ≤ z ∧ z ≤ 2147483647) ∧ ((X 29 0 3 = 0 ∧ X1 29 0 3 = 0) ∨ (1 ≤ X 29 0 3 ∧ X1 29 0 3 = X 29 0 3 - 1)) ∧ (X 29 0 3 = 0 → X1 = X ∧ Y1 = Y ∧ z = -3) ∧ (1 ≤ X 29 0 3 → ∃ (V Xa : Nat → Int → Int → Int) (iz : Int), Frm [2904] X V ∧ uTrC (X 29 0 1) ((X 29 0 1 - 1 - iz).toNat) V Y Xa Y1 ∧ (X 31 0 (X 29 0 3 - 1) - 1 ≤ iz ∨ iz = X 29 0 1 - 1) ∧ iz < X 31 0 (X 29 0 3 - 1) ∧ (-1 ≤ iz ∧ iz < X 29 0 1 ∨ iz = -1) ∧ Frm [2902] Xa X1 ∧ X1 29 0 1 = X 31 0 (X 29 0 3 - 1) ∧ z = X 29 0 1 - X 31 0 (X 29 0 3 - 1)))) av9 s 0 0 (frA base) := ⟨_, rfl⟩
  rw [← hQ9]
  have hi2 : ∀ w ∈ wsX20, w ∈ wsX8_undo := fun w h => List.mem_cons_of_mem _ (List.mem_append_left _ (List.mem_append_left _ (List.mem_append_left _ (List.mem_append_right _ h))))
  have hf2 : fctx s m _ RX8 wsX8_undo D tc RX2 TX2 4 2 := ⟨hts, hi2, hown, hK.1, rfl⟩
  have hi8 : ∀ w ∈ wsX80, w ∈ wsX8_undo := fun w h => List.mem_cons_of_mem _ (List.mem_append_left _ (List.mem_append_left _ (List.mem_append_left _ (List.mem_append_left _ (List.mem_append_right _ h)))))
  have hf8 : fctx s m _ RX8 wsX8_undo D tc RX8 TX8 12 8 := ⟨hts, hi8, hown, hK.1, rfl⟩
  have lk51 := hts (.fieldLink RX8 51 (TX8 10).1 (TX8 10).2.1 (TX8 10).2.2.1) (gj_X8_undo_0 _ (gp_h))
  have lk82 := hts (.fieldLink RX8 82 (TX2 3).1 (TX2 3).2.1 (TX2 3).2.2.1) (gj_X8_undo_0 _ (gp_1 gp_h))
  have hc0 : cnt 0 = 1 := hFx.at 0 1 (by decide)
  have hc29 : cnt 29 = 1 := hFx.at 29 1 (by decide)
  have hl : lv_has ls 1 [(0, .ref (ad 0 0))] := hl
  have ftc : 0 ≤ X 0 0 3 ∧ X 0 0 3 ≤ 30 := hR 0 0 3
  have fty : 0 ≤ X 0 0 1 ∧ X 0 0 1 ≤ 8 := hR 0 0 1
  have hct : cnt 19 = X 0 0 1 := hCI.2.2.2.1.1
  have hfj : 0 ≤ X 29 0 3 ∧ X 29 0 3 ≤ 4 := hR 29 0 3
  have hfn : 0 ≤ X 29 0 1 ∧ X 29 0 1 ≤ 80 := hR 29 0 1
  refine lv_aload_n hx hb dX8_undo_0 rfl (lv_at hl 0 rfl) ?_
  refine x_geto hx hb hf8 hw (by first | exact Int.le_refl 0 | omega) (by first | exact zlt hc0 | omega) sl_0_10 lk51 dX8_undo_1 ?_
  refine x_geti (jz := 3) hx hb hf2 hw (by first | exact Int.le_refl 0 | omega) (by first | exact zlt hc29 | omega) sl_29_3 rfl lk82 dX8_undo_4 ?_
  have f1 : 0 ≤ X 29 0 3 ∧ X 29 0 3 ≤ 4 := hR 29 0 3
  refine x_if_ne (tgt := 15) hx hb (by omega) dX8_undo_7 (by decide) (fun c2 => ?_) (fun c2 => ?_)
  · refine lv_aload_n hx hb dX8_undo_15 rfl (lv_at hl 0 rfl) ?_
    refine x_geto hx hb hf8 hw (by first | exact Int.le_refl 0 | omega) (by first | exact zlt hc0 | omega) sl_0_10 lk51 dX8_undo_16 ?_
    refine gos_i (run_V (As := []) (rest := []) hx hb hml hown hts (c_X2_undoLatestMark l D tc base ad cnt X Y ln hR hFx hLn hCI (by omega)) (cwV 0 hts gX8_undo_X2_undoLatestMark rfl rfl rfl (by first | exact hd_X2_undoLatestMark | decide +kernel) ⟨Nat.le_of_ble_eq_true rfl, Nat.le_of_ble_eq_true rfl⟩) hK hw (by first | exact Int.le_refl 0 | omega) (by first | exact zlt hc29 | omega) sl_29_0 rfl rfl hl.1 rfl (Nat.le_of_ble_eq_true rfl) dX8_undo_19 ⟨Nat.le_of_ble_eq_true rfl, Nat.le_of_ble_eq_true rfl⟩) hS (fun z3 u4 H locs p5 hw hS => ?_)
    obtain ⟨X6, Y7, eu4, hRX6, hG8, hJ9, hCIX6, p5, humX6, hunX6⟩ := p5
    subst eu4
    have hFX6 : Frm [2904, 2902, 1600, 2700] X X6 := Frm.tr Frm.rf (Frm.mono hG8 (by first | exact nls_of rfl | decide))
    have hHY7 : Frm [1700] Y Y7 := Frm.tr Frm.rf (Frm.mono hJ9 (by first | exact nls_of rfl | decide))
    rw [hQ9]
    refine ret_i (mc := 0) (ms := 0) hx hb hr hlocks hw hS (by first | exact Nat.le_of_ble_eq_true rfl | omega) (by first | exact Nat.le_of_ble_eq_true rfl | omega) dX8_undo_22 ?_
    exact ⟨X6, Y7, rfl, hRX6, hFX6, hHY7, hCIX6, by omega, by omega, fun q => (by exfalso; omega), fun _ => hunX6⟩
  · refine lv_bipush (v := jI (-3)) hx hb dX8_undo_10 (by decide) ?_
    refine lv_goto (tgt := 22) hx hb dX8_undo_12 (by decide) ?_
    rw [hQ9]
    refine ret_i (mc := 0) (ms := 0) hx hb hr hlocks hw hS (by first | exact Nat.le_of_ble_eq_true rfl | omega) (by first | exact Nat.le_of_ble_eq_true rfl | omega) dX8_undo_22 ?_
    exact ⟨X, Y, rfl, hR, Frm.rf, Frm.rf, hCI, by omega, by omega, fun _ => ⟨rfl, rfl, by omega⟩, fun q => (by exfalso; omega)⟩

set_option maxHeartbeats 4000000 in
set_option maxRecDepth 100000 in
theorem c_X8_field (l : Launch) (D : va_G) (tc : Nat → ClassId) (base : Nat) (ad : Nat → Int → Nat) (cnt : Nat → Int) (X : Nat → Int → Int → Int) (Y : Nat → Int → Int → Option Int) (ln : Int → Int) (hR : Rng X) (hFx : Fx cnt) (hLn : LnOK ln) (hCI : CInv cnt X Y ln) (t name lane v : Int) (ht : -2147483648 ≤ t ∧ t ≤ 2147483647) (hname : -2147483648 ≤ name ∧ name ≤ 2147483647) (hlane : -2147483648 ≤ lane ∧ lane ≤ 2147483647) (hv : -9223372036854775808 ≤ v ∧ v ≤ 9223372036854775807) : KI l D tc base yX8_field wsX8_field ({ frames := 2, cells := 0, slots := 0, locals := 42 } : Room) [.ref (ad 0 0), .int (jI t), .int (jI name), .int (jI lane), .long (jL v)] (ad, cnt, X, Y, ln) 0 0 (fun z u => ∃ (X1 : Nat → Int → Int → Int) (Y1 : Nat → Int → Int → Option Int), u = (ad, cnt, X1, Y1, ln) ∧ Rng X1 ∧ Frm [1902, 2000, 2100, 2200, 2300, 1600] X X1 ∧ Frm [1700] Y Y1 ∧ CInv cnt X1 Y1 ln ∧ (-2147483648 ≤ z ∧ z ≤ 2147483647) ∧ ((¬ (0 ≤ t ∧ t < X 0 0 1) ∧ z = -1 ∧ X1 19 t 1 = X 19 t 1) ∨ (0 ≤ t ∧ t < X 0 0 1 ∧ ¬ (0 ≤ name ∧ name < 20 ∧ nmAt (X 20 t) name (X 19 t 1).toNat = -1 ∧ 0 ≤ lane ∧ lane < 6) ∧ z = -2 ∧ X1 19 t 1 = X 19 t 1) ∨ (0 ≤ t ∧ t < X 0 0 1 ∧ (0 ≤ name ∧ name < 20 ∧ nmAt (X 20 t) name (X 19 t 1).toNat = -1 ∧ 0 ≤ lane ∧ lane < 6) ∧ 0 < X 29 0 3 ∧ z = -3 ∧ X1 19 t 1 = X 19 t 1) ∨ (0 ≤ t ∧ t < X 0 0 1 ∧ (0 ≤ name ∧ name < 20 ∧ nmAt (X 20 t) name (X 19 t 1).toNat = -1 ∧ 0 ≤ lane ∧ lane < 6) ∧ X 29 0 3 = 0 ∧ 5 ≤ X 19 t 1 ∧ z = -4 ∧ X1 19 t 1 = X 19 t 1) ∨ (0 ≤ t ∧ t < X 0 0 1 ∧ (0 ≤ name ∧ name < 20 ∧ nmAt (X 20 t) name (X 19 t 1).toNat = -1 ∧ 0 ≤ lane ∧ lane < 6) ∧ X 29 0 3 = 0 ∧ X 19 t 1 ≤ 4 ∧ z = X 19 t 1 ∧ X1 19 t 1 = X 19 t 1 + 1)) ∧ (0 ≤ z → X1 20 t z = name ∧ X1 21 t z = lane ∧ X1 22 t z = (if lane = 0 then v else -1) ∧ X1 23 t z = 0) ∧ (∀ y j, ¬ (0 ≤ z ∧ y = t ∧ j = z) → X1 20 y j = X 20 y j ∧ X1 21 y j = X 21 y j ∧ X1 22 y j = X 22 y j ∧ X1 23 y j = X 23 y j) ∧ (∀ y, y ≠ t → X1 19 y 1 = X 19 y 1) ∧ (0 ≤ z → (∀ y, 0 ≤ y → y < X 0 0 3 → Y 15 y 0 = some t → X1 16 y z = (if lane = 0 then v else -1) ∧ Y1 17 y z = none) ∧ ∀ y j, 0 ≤ y → y < X 0 0 3 → ¬ (Y 15 y 0 = some t ∧ j = z) → X1 16 y j = X 16 y j ∧ Y1 17 y j = Y 17 y j) ∧ (z < 0 → X1 = X ∧ Y1 = Y)) := by
  refine K_of (cc := cX8_field) (maxL := 9) (ret := (some .int)) (by decide) rfl (Nat.le_of_ble_eq_true rfl) ?_
  intro p e s m below meth c ls hx hb hr hml hown hts hlocks hl hK hw hS
  have hown : s.vm.findClass RX8 = some m.cls := hown
  obtain ⟨av9, hav9⟩ : ∃ a9 : Array Value, a9 = ([.ref (ad 0 0), .int (jI t), .int (jI name), .int (jI lane), .long (jL v)] : List Value).toArray := ⟨_, rfl⟩
  rw [← hav9] at hts ⊢
  obtain ⟨Q9, hQ9⟩ : ∃ q9Q : State → Prop, q9Q = MQ below (QI D tc base (fun z u => ∃ (X1 : Nat → Int → Int → Int) (Y1 : Nat → Int → Int → Option Int), u = (ad, cnt, X1, Y1, ln) ∧ Rng X1 ∧ Frm [1902, 2000, 2100, 2200, 2300, 1600] X X1 ∧ Frm [1700] Y Y1 ∧ CInv cnt X1 Y1 ln ∧ (-2147483648 ≤ z ∧ z ≤ 2147483647) ∧ ((¬ (0 ≤ t ∧ t < X 0 0 1) ∧ z = -1 ∧ X1 19 t 1 = X 19 t 1) ∨ (0 ≤ t ∧ t < X 0 0 1 ∧ ¬ (0 ≤ name ∧ name < 20 ∧ nmAt (X 20 t) name (X 19 t 1).toNat = -1 ∧ 0 ≤ lane ∧ lane < 6) ∧ z = -2 ∧ X1 19 t 1 = X 19 t 1) ∨ (0 ≤ t ∧ t < X 0 0 1 ∧ (0 ≤ name ∧ name < 20 ∧ nmAt (X 20 t) name (X 19 t 1).toNat = -1 ∧ 0 ≤ lane ∧ lane < 6) ∧ 0 < X 29 0 3 ∧ z = -3 ∧ X1 19 t 1 = X 19 t 1) ∨ (0 ≤ t ∧ t < X 0 0 1 ∧ (0 ≤ name ∧ name < 20 ∧ nmAt (X 20 t) name (X 19 t 1).toNat = -1 ∧ 0 ≤ lane ∧ lane < 6) ∧ X 29 0 3 = 0 ∧ 5 ≤ X 19 t 1 ∧ z = -4 ∧ X1 19 t 1 = X 19 t 1) ∨ (0 ≤ t ∧ t < X 0 0 1 ∧ (0 ≤ name ∧ name < 20 ∧ nmAt (X 20 t) name (X 19 t 1).toNat = -1 ∧ 0 ≤ lane ∧ lane < 6) ∧ X 29 0 3 = 0 ∧ X 19 t 1 ≤ 4 ∧ z = X 19 t 1 ∧ X1 19 t 1 = X 19 t 1 + 1)) ∧ (0 ≤ z → X1 20 t z = name ∧ X1 21 t z = lane ∧ X1 22 t z = (if lane = 0 then v else -1) ∧ X1 23 t z = 0) ∧ (∀ y j, ¬ (0 ≤ z ∧ y = t ∧ j = z) → X1 20 y j = X 20 y j ∧ X1 21 y j = X 21 y j ∧ X1 22 y j = X 22 y j ∧ X1 23 y j = X 23 y j) ∧ (∀ y, y ≠ t → X1 19 y 1 = X 19 y 1) ∧ (0 ≤ z → (∀ y, 0 ≤ y → y < X 0 0 3 → Y 15 y 0 = some t → X1 16 y z = (if lane = 0 then v else -1) ∧ Y1 17 y z = none) ∧ ∀ y j, 0 ≤ y → y < X 0 0 3 → ¬ (Y 15 y 0 = some t ∧ j = z) → X1 16 y j = X 16 y j ∧ Y1 17 y j = Y 17 y j) ∧ (z < 0 → X1 = X ∧ Y1 = Y))) av9 s 0 0 (frA base) := ⟨_, rfl⟩
  rw [← hQ9]
  have hi2 : ∀ w ∈ wsX20, w ∈ wsX8_field := fun w h => List.mem_cons_of_mem _ (List.mem_append_left _ (List.mem_append_left _ (List.mem_append_right _ h)))
  have hf2 : fctx s m _ RX8 wsX8_field D tc RX2 TX2 4 2 := ⟨hts, hi2, hown, hK.1, rfl⟩
  have hi6 : ∀ w ∈ wsX60, w ∈ wsX8_field := fun w h => List.mem_cons_of_mem _ (List.mem_append_right _ h)
  have hf6 : fctx s m _ RX8 wsX8_field D tc RX6 TX6 4 6 := ⟨hts, hi6, hown, hK.1, rfl⟩
  have hi7 : ∀ w ∈ wsX70, w ∈ wsX8_field := fun w h => List.mem_cons_of_mem _ (List.mem_append_left _ (List.mem_append_right _ h))
  have hf7 : fctx s m _ RX8 wsX8_field D tc RX7 TX7 8 7 := ⟨hts, hi7, hown, hK.1, rfl⟩
  have hi8 : ∀ w ∈ wsX80, w ∈ wsX8_field := fun w h => List.mem_cons_of_mem _ (List.mem_append_left _ (List.mem_append_left _ (List.mem_append_left _ (List.mem_append_right _ h))))
  have hf8 : fctx s m _ RX8 wsX8_field D tc RX8 TX8 12 8 := ⟨hts, hi8, hown, hK.1, rfl⟩
  have lk17 := hts (.fieldLink RX8 17 (TX8 2).1 (TX8 2).2.1 (TX8 2).2.2.1) (gj_X8_field_0 _ (gp_4 (gp_1 gp_h)))
  have lk51 := hts (.fieldLink RX8 51 (TX8 10).1 (TX8 10).2.1 (TX8 10).2.2.1) (gj_X8_field_0 _ (gp_h))
  have lk82 := hts (.fieldLink RX8 82 (TX2 3).1 (TX2 3).2.1 (TX2 3).2.2.1) (gj_X8_field_0 _ (gp_1 gp_h))
  have lk85 := hts (.fieldLink RX8 85 (TX7 1).1 (TX7 1).2.1 (TX7 1).2.2.1) (gj_X8_field_0 _ (gp_1 (gp_1 gp_h)))
  have lk94 := hts (.fieldLink RX8 94 (TX8 3).1 (TX8 3).2.1 (TX8 3).2.2.1) (gj_X8_field_0 _ (gp_4 gp_h))
  have lk97 := hts (.fieldLink RX8 97 (TX6 0).1 (TX6 0).2.1 (TX6 0).2.2.1) (gj_X8_field_0 _ (gp_4 (gp_1 (gp_1 gp_h))))
  have hc0 : cnt 0 = 1 := hFx.at 0 1 (by decide)
  have hc2 : cnt 2 = 1 := hFx.at 2 1 (by decide)
  have hc15 : cnt 15 = 30 := hFx.at 15 30 (by decide)
  have hc29 : cnt 29 = 1 := hFx.at 29 1 (by decide)
  have hl : lv_has ls 9 [(0, .ref (ad 0 0)), (1, .int (jI t)), (2, .int (jI name)), (3, .int (jI lane)), (4, .long (jL v))] := hl
  have ftc : 0 ≤ X 0 0 3 ∧ X 0 0 3 ≤ 30 := hR 0 0 3
  have fty : 0 ≤ X 0 0 1 ∧ X 0 0 1 ≤ 8 := hR 0 0 1
  have hct : cnt 19 = X 0 0 1 := hCI.2.2.2.1.1
  have hfj : 0 ≤ X 29 0 3 ∧ X 29 0 3 ≤ 4 := hR 29 0 3
  have hfn : 0 ≤ X 29 0 1 ∧ X 29 0 1 ≤ 80 := hR 29 0 1
  refine lv_aload_n hx hb dX8_field_0 rfl (lv_at hl 0 rfl) ?_
  refine lv_iload_n hx hb dX8_field_1 rfl (lv_at hl 1 rfl) ?_
  refine gos_r (run_V (As := [.int (jI t)]) (rest := []) hx hb hml hown hts (c_X8_typeNumbered l D tc base ad cnt X Y ln hR hFx hLn hCI t (by omega)) (cwV 1 hts gX8_field_X8_typeNumbered rfl rfl rfl (by first | exact hd_X8_typeNumbered | decide +kernel) ⟨Nat.le_of_ble_eq_true rfl, Nat.le_of_ble_eq_true rfl⟩) hK hw (by first | exact Int.le_refl 0 | omega) (by first | exact zlt hc0 | omega) sl_0_0 rfl rfl hl.1 rfl (Nat.le_of_ble_eq_true rfl) dX8_field_2 ⟨Nat.le_of_ble_eq_true rfl, Nat.le_of_ble_eq_true rfl⟩) hS (fun u2 H locs p3 hw hS => ?_) (fun z1 u2 H locs p3 hw hS => ?_)
  · obtain ⟨eu2, hsp3, hnp3⟩ := p3
    subst eu2
    refine lv_astoreN (lv' := [(6, .null), (0, .ref (ad 0 0)), (1, .int (jI t)), (2, .int (jI name)), (3, .int (jI lane)), (4, .long (jL v))]) hx hb dX8_field_5 hl (by decide) rfl (fun ls hl => ?_)
    refine lv_aloadN hx hb dX8_field_7 (lv_at hl 0 rfl) ?_
    refine lv_ifnonnullN hx hb dX8_field_9 ?_
    refine lv_iconst (v := jI (-1)) hx hb dX8_field_12 rfl ?_
    rw [hQ9]
    refine ret_i (mc := 0) (ms := 0) hx hb hr hlocks hw hS (by first | exact Nat.le_of_ble_eq_true rfl | omega) (by first | exact Nat.le_of_ble_eq_true rfl | omega) dX8_field_13 ?_
    exact ⟨X, Y, rfl, hR, Frm.rf, Frm.rf, hCI, by omega, (by have h9n : ¬ (0 ≤ t ∧ t < X 0 0 1) := hnp3 rfl; (try delta Hid at *); first | exact Or.inl ⟨(fun q => by omega), by omega, by omega⟩ | exact Or.inr (Or.inr (Or.inr (Or.inr ((⟨by omega, by omega, by omega, by omega, by omega, by omega, by omega⟩))))) | omega), fun h => (by exfalso; omega), fun y j h => ⟨rfl, rfl, rfl, rfl⟩, fun y h => rfl, fun q => (by exfalso; omega), fun _ => ⟨rfl, rfl⟩⟩
  · obtain ⟨eu2, hsp3, hnp3⟩ := p3
    subst eu2
    obtain ⟨ezz1, p3⟩ := hsp3 z1 rfl
    refine lv_astore (lv' := [(6, .ref (ad 19 z1)), (0, .ref (ad 0 0)), (1, .int (jI t)), (2, .int (jI name)), (3, .int (jI lane)), (4, .long (jL v))]) hx hb dX8_field_5 hl (by decide) rfl (fun ls hl => ?_)
    refine lv_aload hx hb dX8_field_7 (lv_at hl 0 rfl) ?_
    refine lv_ifnonnull (tgt := 14) hx hb dX8_field_9 (by decide) ?_
    refine lv_iload_n hx hb dX8_field_14 rfl (lv_at hl 3 rfl) ?_
    refine lv_bipush (v := jI 20) hx hb dX8_field_15 (by decide) ?_
    refine gos_i (run_S (As := [.int (jI name), .int (jI 20)]) (rest := []) hx hb hml hown hts (c_X8_isBelow l D tc base ad cnt X Y ln name 20 (by omega) (by omega)) (cwS 2 hts gX8_field_X8_isBelow rfl rfl rfl (by first | exact hd_X8_isBelow | decide +kernel) ⟨Nat.le_of_ble_eq_true rfl, Nat.le_of_ble_eq_true rfl⟩) hK hw rfl hl.1 rfl (Nat.le_of_ble_eq_true rfl) dX8_field_17 ⟨Nat.le_of_ble_eq_true rfl, Nat.le_of_ble_eq_true rfl⟩) hS (fun z4 u5 H locs p6 hw hS => ?_)
    obtain ⟨eu5, p6⟩ := p6
    subst eu5
    rcases p6 with ⟨ez4, p6⟩ | ⟨ez4, p6⟩
    · subst ez4
      refine x_if_eqF (tgt := 42) hx hb (by omega) (by decide) dX8_field_20 (by decide) ?_
      refine lv_aload hx hb dX8_field_23 (lv_at hl 0 rfl) ?_
      refine lv_iload_n hx hb dX8_field_25 rfl (lv_at hl 3 rfl) ?_
      refine gos_i (run_V (As := [.int (jI name)]) (rest := []) hx hb hml hown hts (c_X7_fieldNamed l D tc base ad cnt X Y ln hR hFx hLn z1 name (by omega) (by omega)) (cwV 1 hts gX8_field_X7_fieldNamed rfl rfl rfl (by first | exact hd_X7_fieldNamed | decide +kernel) ⟨Nat.le_of_ble_eq_true rfl, Nat.le_of_ble_eq_true rfl⟩) hK hw (by first | exact Int.le_refl 0 | omega) (by first | exact zlt hc19 | omega) sl_19_0 rfl rfl hl.1 rfl (Nat.le_of_ble_eq_true rfl) dX8_field_26 ⟨Nat.le_of_ble_eq_true rfl, Nat.le_of_ble_eq_true rfl⟩) hS (fun z7 u8 H locs p9 hw hS => ?_)
      obtain ⟨eu8, p9⟩ := p9
      subst eu8
      refine lv_iconst (v := jI (-1)) hx hb dX8_field_29 rfl ?_
      refine x_icmp_ne (tgt := 42) hx hb (by omega) (by omega) dX8_field_30 (by decide) (fun c10 => ?_) (fun c10 => ?_)
      · refine lv_bipush (v := jI (-2)) hx hb dX8_field_42 (by decide) ?_
        rw [hQ9]
        refine ret_i (mc := 0) (ms := 0) hx hb hr hlocks hw hS (by first | exact Nat.le_of_ble_eq_true rfl | omega) (by first | exact Nat.le_of_ble_eq_true rfl | omega) dX8_field_44 ?_
        exact ⟨X, Y, rfl, hR, Frm.rf, Frm.rf, hCI, by omega, (by rw [← ezz1]; (try delta Hid at *); first | exact Or.inr (Or.inl ⟨by omega, by omega, (fun q => by omega), by omega, by omega⟩) | exact Or.inr (Or.inr (Or.inr (Or.inr ((⟨by omega, by omega, by omega, by omega, by omega, by omega, by omega⟩))))) | omega), fun h => (by exfalso; omega), fun y j h => ⟨rfl, rfl, rfl, rfl⟩, fun y h => rfl, fun q => (by exfalso; omega), fun _ => ⟨rfl, rfl⟩⟩
      · refine lv_iload_n hx hb dX8_field_33 rfl (lv_at hl 4 rfl) ?_
        refine lv_bipush (v := jI 6) hx hb dX8_field_34 (by decide) ?_
        refine gos_i (run_S (As := [.int (jI lane), .int (jI 6)]) (rest := []) hx hb hml hown hts (c_X8_isBelow l D tc base ad cnt X Y ln lane 6 (by omega) (by omega)) (cwS 2 hts gX8_field_X8_isBelow rfl rfl rfl (by first | exact hd_X8_isBelow | decide +kernel) ⟨Nat.le_of_ble_eq_true rfl, Nat.le_of_ble_eq_true rfl⟩) hK hw rfl hl.1 rfl (Nat.le_of_ble_eq_true rfl) dX8_field_36 ⟨Nat.le_of_ble_eq_true rfl, Nat.le_of_ble_eq_true rfl⟩) hS (fun z11 u12 H locs p13 hw hS => ?_)
        obtain ⟨eu12, p13⟩ := p13
        subst eu12
        rcases p13 with ⟨ez11, p13⟩ | ⟨ez11, p13⟩
        · subst ez11
          refine x_if_neT (tgt := 45) hx hb (by omega) (by decide) dX8_field_39 (by decide) ?_
          refine lv_aload_n hx hb dX8_field_45 rfl (lv_at hl 1 rfl) ?_
          refine x_geto hx hb hf8 hw (by first | exact Int.le_refl 0 | omega) (by first | exact zlt hc0 | omega) sl_0_10 lk51 dX8_field_46 ?_
          refine x_geti (jz := 3) hx hb hf2 hw (by first | exact Int.le_refl 0 | omega) (by first | exact zlt hc29 | omega) sl_29_3 rfl lk82 dX8_field_49 ?_
          have f14 : 0 ≤ X 29 0 3 ∧ X 29 0 3 ≤ 4 := hR 29 0 3
          refine x_if_le (tgt := 58) hx hb (by omega) dX8_field_52 (by decide) (fun c15 => ?_) (fun c15 => ?_)
          · refine lv_aload hx hb dX8_field_58 (lv_at hl 0 rfl) ?_
            refine x_geti (jz := 1) hx hb hf7 hw (by omega) (by omega) sl_19_1 rfl lk85 dX8_field_60 ?_
            have f16 : 0 ≤ X 19 z1 1 ∧ X 19 z1 1 ≤ 5 := hR 19 z1 1
            refine lv_iconst (v := jI 5) hx hb dX8_field_63 rfl ?_
            refine x_icmp_lt (tgt := 70) hx hb (by omega) (by omega) dX8_field_64 (by decide) (fun c17 => ?_) (fun c17 => ?_)
            · refine lv_aload hx hb dX8_field_70 (lv_at hl 0 rfl) ?_
              refine lv_iload_n hx hb dX8_field_72 rfl (lv_at hl 3 rfl) ?_
              refine lv_iload_n hx hb dX8_field_73 rfl (lv_at hl 4 rfl) ?_
              refine lv_iload_n hx hb dX8_field_74 rfl (lv_at hl 4 rfl) ?_
              refine x_if_ne (tgt := 83) hx hb (by omega) dX8_field_75 (by decide) (fun c18 => ?_) (fun c18 => ?_)
              · refine lv_ldc2 (v := jL (-1)) hx hb hown (hts (.constantLong RX8 88 (-1)) (by first | exact gj_X8_field_0 _ (gp_1 (gp_1 (gp_1 gp_h))) | decide +kernel)) dX8_field_83 ?_
                refine gos_i (run_V (As := [.int (jI name), .int (jI lane), .long (jL (-1))]) (rest := []) hx hb hml hown hts (c_X7_addField l D tc base ad cnt X Y ln hR hFx hLn hCI z1 name lane (-1) (by omega) (by omega) (by omega) (by omega) (by omega)) (cwV 3 hts gX8_field_X7_addField rfl rfl rfl (by first | exact hd_X7_addField | decide +kernel) ⟨Nat.le_of_ble_eq_true rfl, Nat.le_of_ble_eq_true rfl⟩) hK hw (by first | exact Int.le_refl 0 | omega) (by first | exact zlt hc19 | omega) sl_19_0 rfl rfl hl.1 rfl (Nat.le_of_ble_eq_true rfl) dX8_field_86 ⟨Nat.le_of_ble_eq_true rfl, Nat.le_of_ble_eq_true rfl⟩) hS (fun z19 u20 H locs p21 hw hS => ?_)
                obtain ⟨X22, eu20, hRX22, hG23, hCIX22, p21, hazX22, hafX22, hayX22, hacX22, haoX22⟩ := p21
                subst eu20
                have hFX22 : Frm [1902, 2000, 2100, 2200, 2300, 1600] X X22 := Frm.tr Frm.rf (Frm.mono hG23 (by first | exact nls_of rfl | decide))
                refine lv_istore (lv' := [(7, .int (jI z19)), (6, .ref (ad 19 z1)), (0, .ref (ad 0 0)), (1, .int (jI t)), (2, .int (jI name)), (3, .int (jI lane)), (4, .long (jL v))]) hx hb dX8_field_89 hl (by decide) rfl (fun ls hl => ?_)
                refine lv_iconst (v := jI 0) hx hb dX8_field_91 rfl ?_
                refine lv_istore (lv' := [(8, .int (jI 0)), (7, .int (jI z19)), (6, .ref (ad 19 z1)), (0, .ref (ad 0 0)), (1, .int (jI t)), (2, .int (jI name)), (3, .int (jI lane)), (4, .long (jL v))]) hx hb dX8_field_92 hl (by decide) rfl (fun ls hl => ?_)
                have lp94 : ∀ (nn : Nat) (x : Int) (Xa : Nat → Int → Int → Int) (Ya : Nat → Int → Int → Option Int) (H : Heap) (locs : List Loc) (ls : Array Slot), (30 - x) < (nn : Int) → (Rng Xa) → (Frm [1600] X22 Xa) → (Frm [1700] Y Ya) → (0 ≤ x ∧ x ≤ 30) → (CInv cnt Xa Ya ln) → (FdC X Xa Y Ya z1 z19 (if lane = 0 then v else -1) x) → wd D tc base (ad, cnt, Xa, Ya, ln) H → va_S (frA base) s.heap H locs → lv_has ls 9 [(0, .ref (ad 0 0)), (6, .ref (ad 19 z1)), (7, .int (jI z19)), (8, .int (jI x))] → W p l e ({ frames := 2, cells := 0, slots := 0, locals := 42 } : Room) s m av9 below meth c H locs 0 0 Q9 (F0 m 94 ls []) := by
                  intro nn
                  induction nn with
                  | zero => intro x Xa Ya H locs ls hm hRXa hGXa hGYa hx8 hCIXa hFd hw hS hl; exfalso; omega
                  | succ nn ih94 =>
                    intro x Xa Ya H locs ls hm hRXa hGXa hGYa hx8 hCIXa hFd hw hS hl
                    have hHYa : Frm [1700] Y Ya := Frm.tr Frm.rf (Frm.mono hGYa (by first | exact nls_of rfl | decide))
                    have hFXa : Frm [1902, 2000, 2100, 2200, 2300, 1600] X Xa := Frm.tr hFX22 (Frm.mono hGXa (by first | exact nls_of rfl | decide))
                    refine lv_iload hx hb dX8_field_94 (lv_at hl 3 rfl) ?_
                    refine lv_aload_n hx hb dX8_field_96 rfl (lv_at hl 0 rfl) ?_
                    refine x_geti (jz := 3) hx hb hf8 hw (by first | exact Int.le_refl 0 | omega) (by first | exact zlt hc0 | omega) sl_0_3 rfl lk94 dX8_field_97 ?_
                    have e24 : Xa 0 0 3 = X 0 0 3 := by rw [hGXa 0 0 3 (show 4 ∉ [1600] by first | exact nlm_ni rfl | decide), hG23 0 0 3 (show 4 ∉ [1902, 2000, 2100, 2200, 2300] by first | exact nlm_ni rfl | decide)]
                    rw [e24]
                    have f25 : 0 ≤ X 0 0 3 ∧ X 0 0 3 ≤ 30 := hR 0 0 3
                    refine x_icmp_ge (tgt := 136) hx hb (by omega) (by omega) dX8_field_100 (by decide) (fun c26 => ?_) (fun c26 => ?_)
                    · refine lv_iload hx hb dX8_field_136 (lv_at hl 2 rfl) ?_
                      rw [hQ9]
                      refine ret_i (mc := 0) (ms := 0) hx hb hr hlocks hw hS (by first | exact Nat.le_of_ble_eq_true rfl | omega) (by first | exact Nat.le_of_ble_eq_true rfl | omega) dX8_field_138 ?_
                      have e27 : Xa 19 z1 1 = X22 19 z1 1 := (by rw [hGXa 19 z1 1 (show 1902 ∉ [1600] by first | exact nlm_ni rfl | decide)])
                      exact ⟨Xa, Ya, rfl, hRXa, hFXa, hHYa, hCIXa, by omega, (by rw [← ezz1]; (try delta Hid at *); first | exact Or.inr (Or.inr (Or.inr (Or.inr ((⟨by omega, by omega, by omega, by omega, by omega, by omega, by omega⟩))))) | omega), fun h => ⟨(by rw [← ezz1, hazX22]; rw [hGXa 20 z1 (X 19 z1 1) (show 2000 ∉ [1600] by first | exact nlm_ni rfl | decide)]; exact hacX22.1), (by rw [← ezz1, hazX22]; rw [hGXa 21 z1 (X 19 z1 1) (show 2100 ∉ [1600] by first | exact nlm_ni rfl | decide)]; exact hacX22.2.1), (by rw [← ezz1, hazX22]; rw [hGXa 22 z1 (X 19 z1 1) (show 2200 ∉ [1600] by first | exact nlm_ni rfl | decide), hacX22.2.2.1]; split <;> omega), (by rw [← ezz1, hazX22]; rw [hGXa 23 z1 (X 19 z1 1) (show 2300 ∉ [1600] by first | exact nlm_ni rfl | decide)]; exact hacX22.2.2.2)⟩, fun y j h => ⟨(by rw [hGXa 20 y j (show 2000 ∉ [1600] by first | exact nlm_ni rfl | decide)]; exact (haoX22 y j (by omega)).1), (by rw [hGXa 21 y j (show 2100 ∉ [1600] by first | exact nlm_ni rfl | decide)]; exact (haoX22 y j (by omega)).2.1), (by rw [hGXa 22 y j (show 2200 ∉ [1600] by first | exact nlm_ni rfl | decide)]; exact (haoX22 y j (by omega)).2.2.1), (by rw [hGXa 23 y j (show 2300 ∉ [1600] by first | exact nlm_ni rfl | decide)]; exact (haoX22 y j (by omega)).2.2.2)⟩, fun y h => (by rw [hGXa 19 y 1 (show 1902 ∉ [1600] by first | exact nlm_ni rfl | decide)]; exact hayX22 y (by omega)), fun _ => (by rw [← ezz1]; exact ⟨fun y a b c => hFd.1 y a (by omega) c, fun y j a b c => hFd.2 y j (fun q9 => c ⟨q9.2.2.1, q9.2.2.2⟩)⟩), fun q => (by exfalso; omega)⟩
                    · refine lv_aload_n hx hb dX8_field_103 rfl (lv_at hl 0 rfl) ?_
                      refine x_geto hx hb hf8 hw (by first | exact Int.le_refl 0 | omega) (by first | exact zlt hc0 | omega) sl_0_2 lk17 dX8_field_104 ?_
                      refine lv_iload hx hb dX8_field_107 (lv_at hl 3 rfl) ?_
                      refine x_aald hx hb hK.1 hw (by first | exact Int.le_refl 0 | omega) (by first | exact zlt hc2 | omega) ar_2 rfl (len_E ar_2 (by first | exact Nat.ne_of_beq_eq_false rfl | decide)) (by omega) (by omega) (by omega) dX8_field_109 (fun y28 => ?_) (fun r29 y28 gr29 lr29 => ?_)
                      · exfalso
                        have e30 : ∀ p9 q9 : Int, Ya 2 p9 q9 = Y 2 p9 q9 := fun p9 q9 => by rw [hGYa 2 p9 q9 (show 200 ∉ [1700] by first | exact nlm_ni rfl | decide)]
                        rw [e30] at y28
                        have h9 := hCI.1 x (by omega) (by omega); rw [h9] at y28; cases y28
                      · have e31 : ∀ p9 q9 : Int, Ya 2 p9 q9 = Y 2 p9 q9 := fun p9 q9 => by rw [hGYa 2 p9 q9 (show 200 ∉ [1700] by first | exact nlm_ni rfl | decide)]
                        rw [e31] at y28
                        have er29 : r29 = x := by have h9 := hCI.1 x (by omega) (by omega); rw [h9] at y28; cases y28; rfl
                        rw [er29]
                        refine x_getr (jz := 0) hx hb hf6 hw (by omega) (by omega) sl_15_0 rfl lk97 dX8_field_110 (fun y32 => ?_) (fun r33 y32 gr33 lr33 => ?_)
                        · exfalso
                          have e34 : Ya 15 x 0 = Y 15 x 0 := by rw [hGYa 15 x 0 (show 1501 ∉ [1700] by first | exact nlm_ni rfl | decide)]
                          rw [e34] at y32
                          exact absurd y32 (hCI.2.2.2.2.1 x (by omega) (by omega))
                        · have e35 : Ya 15 x 0 = Y 15 x 0 := by rw [hGYa 15 x 0 (show 1501 ∉ [1700] by first | exact nlm_ni rfl | decide)]
                          rw [e35] at y32
                          refine lv_aload hx hb dX8_field_113 (lv_at hl 1 rfl) ?_
                          refine lv_acmp_ne (rx := some (ad 19 r33)) (ry := some (ad 19 z1)) (tgt := 130) hx hb dX8_field_115 (by decide) (fun c36 => ?_) (fun c36 => ?_)
                          · have c36 : ¬ r33 = z1 := fun q => c36 (by rw [q])
                            refine lv_iinc (v := jI (x + 1)) (lv' := [(8, .int (jI (x + 1))), (0, .ref (ad 0 0)), (6, .ref (ad 19 z1)), (7, .int (jI z19))]) hx hb dX8_field_130 hl (k := 3) rfl (jI_add _ _) (by decide) rfl (fun ls hl => ?_)
                            refine lv_goto (tgt := 94) hx hb dX8_field_133 (by decide) ?_
                            have q37 : Frm [1600] X22 Xa := Frm.tr Frm.rf (Frm.mono hGXa (by first | exact nls_of rfl | decide))
                            have q38 : Frm [1700] Y Ya := Frm.tr Frm.rf (Frm.mono hGYa (by first | exact nls_of rfl | decide))
                            exact ih94 (x + 1) Xa Ya _ _ _ (by omega) hRXa q37 q38 (by omega) (hCIXa) (FdC.no hFd (by rw [y32]; exact fun q9 => (by have h9 := Option.some.inj q9; omega))) hw hS (lv_sub hl [1, 2, 3, 0] rfl)
                          · have c36 : r33 = z1 := (wd_inj hw (by omega) (by omega) (by omega) (by omega) (Option.some.inj c36)).2
                            refine lv_aload_n hx hb dX8_field_118 rfl (lv_at hl 0 rfl) ?_
                            refine x_geto hx hb hf8 hw (by first | exact Int.le_refl 0 | omega) (by first | exact zlt hc0 | omega) sl_0_2 lk17 dX8_field_119 ?_
                            refine lv_iload hx hb dX8_field_122 (lv_at hl 3 rfl) ?_
                            refine x_aald hx hb hK.1 hw (by first | exact Int.le_refl 0 | omega) (by first | exact zlt hc2 | omega) ar_2 rfl (len_E ar_2 (by first | exact Nat.ne_of_beq_eq_false rfl | decide)) (by omega) (by omega) (by omega) dX8_field_124 (fun y39 => ?_) (fun r40 y39 gr40 lr40 => ?_)
                            · exfalso
                              have e41 : ∀ p9 q9 : Int, Ya 2 p9 q9 = Y 2 p9 q9 := fun p9 q9 => by rw [hGYa 2 p9 q9 (show 200 ∉ [1700] by first | exact nlm_ni rfl | decide)]
                              rw [e41] at y39
                              have h9 := hCI.1 x (by omega) (by omega); rw [h9] at y39; cases y39
                            · have e42 : ∀ p9 q9 : Int, Ya 2 p9 q9 = Y 2 p9 q9 := fun p9 q9 => by rw [hGYa 2 p9 q9 (show 200 ∉ [1700] by first | exact nlm_ni rfl | decide)]
                              rw [e42] at y39
                              have er40 : r40 = x := by have h9 := hCI.1 x (by omega) (by omega); rw [h9] at y39; cases y39; rfl
                              rw [er40]
                              refine lv_iload hx hb dX8_field_125 (lv_at hl 2 rfl) ?_
                              refine gos_v (run_V (As := [.int (jI z19)]) (rest := []) hx hb hml hown hts (c_X6_setDefault l D tc base ad cnt Xa Ya ln hRXa hFx hLn hCIXa x z19 (by omega) (by omega) (by rw [hGYa 15 x 0 (show 1501 ∉ [1700] by first | exact nlm_ni rfl | decide), y32]; exact fun q => by cases q)) (cwV 1 hts gX8_field_X6_setDefault rfl rfl rfl (by first | exact hd_X6_setDefault | decide +kernel) ⟨Nat.le_of_ble_eq_true rfl, Nat.le_of_ble_eq_true rfl⟩) hK hw (by first | exact Int.le_refl 0 | omega) (by first | exact zlt hc15 | omega) sl_15_0 rfl rfl hl.1 rfl (Nat.le_of_ble_eq_true rfl) dX8_field_127 ⟨Nat.le_of_ble_eq_true rfl, Nat.le_of_ble_eq_true rfl⟩) hS (fun u44 H locs p45 hw hS => ?_)
                              obtain ⟨X46, Y47, eu44, hRX46, hG48, hJ49, hCIX46, p45, hs1X46, hs2X46, hs3X46, hs4X46⟩ := p45
                              subst eu44
                              have hFX46 : Frm [1902, 2000, 2100, 2200, 2300, 1600] X X46 := Frm.tr hFXa (Frm.mono hG48 (by first | exact nls_of rfl | decide))
                              have hHY47 : Frm [1700] Y Y47 := Frm.tr hHYa (Frm.mono hJ49 (by first | exact nls_of rfl | decide))
                              refine lv_iinc (v := jI (x + 1)) (lv' := [(8, .int (jI (x + 1))), (0, .ref (ad 0 0)), (6, .ref (ad 19 z1)), (7, .int (jI z19))]) hx hb dX8_field_130 hl (k := 3) rfl (jI_add _ _) (by decide) rfl (fun ls hl => ?_)
                              refine lv_goto (tgt := 94) hx hb dX8_field_133 (by decide) ?_
                              have q50 : Frm [1600] X22 Xa := Frm.tr Frm.rf (Frm.mono hGXa (by first | exact nls_of rfl | decide))
                              have q51 : Frm [1600] X22 X46 := Frm.tr q50 (Frm.mono hG48 (by first | exact nls_of rfl | decide))
                              have q52 : Frm [1700] Y Ya := Frm.tr Frm.rf (Frm.mono hGYa (by first | exact nls_of rfl | decide))
                              have hty954 : tyo (Ya 15 x 0) = z1 := by rw [tyo_some (show Ya 15 x 0 = some r33 from (by rw [hGYa 15 x 0 (show 1501 ∉ [1700] by first | exact nlm_ni rfl | decide)]; exact y32))]; omega
                              have hdv55 : Xa 22 z1 z19 = (if lane = 0 then v else -1) := by rw [hGXa 22 z1 z19 (show 2200 ∉ [1600] by first | exact nlm_ni rfl | decide), hazX22, hacX22.2.2.1]; split <;> omega
                              exact ih94 (x + 1) X46 Y47 _ _ _ (by omega) hRX46 q51 hHY47 (by omega) (hCIX46) (FdC.yes hFd (by rw [hs1X46, hty954]; exact hdv55) (fun y j hy => (by rw [hs2X46 y j hy])) hs3X46 (fun y j hy => (by rw [hs4X46 y j hy])) (by omega) (by rw [y32, show r33 = z1 by omega])) hw hS (lv_sub hl [1, 2, 3, 0] rfl)
                exact lp94 (30 - 0 : Int).toNat.succ 0 X22 Y _ _ _ (by omega) hRX22 Frm.rf Frm.rf (by omega) (hCIX22) (FdC.in_ (fun y j => (by rw [hG23 16 y j (show 1600 ∉ [1902, 2000, 2100, 2200, 2300] by first | exact nlm_ni rfl | decide)])) (fun y j => (by rfl))) hw hS (lv_sub hl [3, 2, 1, 0] rfl)
              · refine lv_lload hx hb dX8_field_78 (lv_at hl 5 rfl) ?_
                refine lv_goto (tgt := 86) hx hb dX8_field_80 (by decide) ?_
                refine gos_i (run_V (As := [.int (jI name), .int (jI lane), .long (jL v)]) (rest := []) hx hb hml hown hts (c_X7_addField l D tc base ad cnt X Y ln hR hFx hLn hCI z1 name lane v (by omega) (by omega) (by omega) (by omega) (by omega)) (cwV 3 hts gX8_field_X7_addField rfl rfl rfl (by first | exact hd_X7_addField | decide +kernel) ⟨Nat.le_of_ble_eq_true rfl, Nat.le_of_ble_eq_true rfl⟩) hK hw (by first | exact Int.le_refl 0 | omega) (by first | exact zlt hc19 | omega) sl_19_0 rfl rfl hl.1 rfl (Nat.le_of_ble_eq_true rfl) dX8_field_86 ⟨Nat.le_of_ble_eq_true rfl, Nat.le_of_ble_eq_true rfl⟩) hS (fun z56 u57 H locs p58 hw hS => ?_)
                obtain ⟨X59, eu57, hRX59, hG60, hCIX59, p58, hazX59, hafX59, hayX59, hacX59, haoX59⟩ := p58
                subst eu57
                have hFX59 : Frm [1902, 2000, 2100, 2200, 2300, 1600] X X59 := Frm.tr Frm.rf (Frm.mono hG60 (by first | exact nls_of rfl | decide))
                refine lv_istore (lv' := [(7, .int (jI z56)), (6, .ref (ad 19 z1)), (0, .ref (ad 0 0)), (1, .int (jI t)), (2, .int (jI name)), (3, .int (jI lane)), (4, .long (jL v))]) hx hb dX8_field_89 hl (by decide) rfl (fun ls hl => ?_)
                refine lv_iconst (v := jI 0) hx hb dX8_field_91 rfl ?_
                refine lv_istore (lv' := [(8, .int (jI 0)), (7, .int (jI z56)), (6, .ref (ad 19 z1)), (0, .ref (ad 0 0)), (1, .int (jI t)), (2, .int (jI name)), (3, .int (jI lane)), (4, .long (jL v))]) hx hb dX8_field_92 hl (by decide) rfl (fun ls hl => ?_)
                have lp94 : ∀ (nn : Nat) (x : Int) (Xa : Nat → Int → Int → Int) (Ya : Nat → Int → Int → Option Int) (H : Heap) (locs : List Loc) (ls : Array Slot), (30 - x) < (nn : Int) → (Rng Xa) → (Frm [1600] X59 Xa) → (Frm [1700] Y Ya) → (0 ≤ x ∧ x ≤ 30) → (CInv cnt Xa Ya ln) → (FdC X Xa Y Ya z1 z56 (if lane = 0 then v else -1) x) → wd D tc base (ad, cnt, Xa, Ya, ln) H → va_S (frA base) s.heap H locs → lv_has ls 9 [(0, .ref (ad 0 0)), (6, .ref (ad 19 z1)), (7, .int (jI z56)), (8, .int (jI x))] → W p l e ({ frames := 2, cells := 0, slots := 0, locals := 42 } : Room) s m av9 below meth c H locs 0 0 Q9 (F0 m 94 ls []) := by
                  intro nn
                  induction nn with
                  | zero => intro x Xa Ya H locs ls hm hRXa hGXa hGYa hx8 hCIXa hFd hw hS hl; exfalso; omega
                  | succ nn ih94 =>
                    intro x Xa Ya H locs ls hm hRXa hGXa hGYa hx8 hCIXa hFd hw hS hl
                    have hHYa : Frm [1700] Y Ya := Frm.tr Frm.rf (Frm.mono hGYa (by first | exact nls_of rfl | decide))
                    have hFXa : Frm [1902, 2000, 2100, 2200, 2300, 1600] X Xa := Frm.tr hFX59 (Frm.mono hGXa (by first | exact nls_of rfl | decide))
                    refine lv_iload hx hb dX8_field_94 (lv_at hl 3 rfl) ?_
                    refine lv_aload_n hx hb dX8_field_96 rfl (lv_at hl 0 rfl) ?_
                    refine x_geti (jz := 3) hx hb hf8 hw (by first | exact Int.le_refl 0 | omega) (by first | exact zlt hc0 | omega) sl_0_3 rfl lk94 dX8_field_97 ?_
                    have e61 : Xa 0 0 3 = X 0 0 3 := by rw [hGXa 0 0 3 (show 4 ∉ [1600] by first | exact nlm_ni rfl | decide), hG60 0 0 3 (show 4 ∉ [1902, 2000, 2100, 2200, 2300] by first | exact nlm_ni rfl | decide)]
                    rw [e61]
                    have f62 : 0 ≤ X 0 0 3 ∧ X 0 0 3 ≤ 30 := hR 0 0 3
                    refine x_icmp_ge (tgt := 136) hx hb (by omega) (by omega) dX8_field_100 (by decide) (fun c63 => ?_) (fun c63 => ?_)
                    · refine lv_iload hx hb dX8_field_136 (lv_at hl 2 rfl) ?_
                      rw [hQ9]
                      refine ret_i (mc := 0) (ms := 0) hx hb hr hlocks hw hS (by first | exact Nat.le_of_ble_eq_true rfl | omega) (by first | exact Nat.le_of_ble_eq_true rfl | omega) dX8_field_138 ?_
                      have e64 : Xa 19 z1 1 = X59 19 z1 1 := (by rw [hGXa 19 z1 1 (show 1902 ∉ [1600] by first | exact nlm_ni rfl | decide)])
                      exact ⟨Xa, Ya, rfl, hRXa, hFXa, hHYa, hCIXa, by omega, (by rw [← ezz1]; (try delta Hid at *); first | exact Or.inr (Or.inr (Or.inr (Or.inr ((⟨by omega, by omega, by omega, by omega, by omega, by omega, by omega⟩))))) | omega), fun h => ⟨(by rw [← ezz1, hazX59]; rw [hGXa 20 z1 (X 19 z1 1) (show 2000 ∉ [1600] by first | exact nlm_ni rfl | decide)]; exact hacX59.1), (by rw [← ezz1, hazX59]; rw [hGXa 21 z1 (X 19 z1 1) (show 2100 ∉ [1600] by first | exact nlm_ni rfl | decide)]; exact hacX59.2.1), (by rw [← ezz1, hazX59]; rw [hGXa 22 z1 (X 19 z1 1) (show 2200 ∉ [1600] by first | exact nlm_ni rfl | decide), hacX59.2.2.1]; split <;> omega), (by rw [← ezz1, hazX59]; rw [hGXa 23 z1 (X 19 z1 1) (show 2300 ∉ [1600] by first | exact nlm_ni rfl | decide)]; exact hacX59.2.2.2)⟩, fun y j h => ⟨(by rw [hGXa 20 y j (show 2000 ∉ [1600] by first | exact nlm_ni rfl | decide)]; exact (haoX59 y j (by omega)).1), (by rw [hGXa 21 y j (show 2100 ∉ [1600] by first | exact nlm_ni rfl | decide)]; exact (haoX59 y j (by omega)).2.1), (by rw [hGXa 22 y j (show 2200 ∉ [1600] by first | exact nlm_ni rfl | decide)]; exact (haoX59 y j (by omega)).2.2.1), (by rw [hGXa 23 y j (show 2300 ∉ [1600] by first | exact nlm_ni rfl | decide)]; exact (haoX59 y j (by omega)).2.2.2)⟩, fun y h => (by rw [hGXa 19 y 1 (show 1902 ∉ [1600] by first | exact nlm_ni rfl | decide)]; exact hayX59 y (by omega)), fun _ => (by rw [← ezz1]; exact ⟨fun y a b c => hFd.1 y a (by omega) c, fun y j a b c => hFd.2 y j (fun q9 => c ⟨q9.2.2.1, q9.2.2.2⟩)⟩), fun q => (by exfalso; omega)⟩
                    · refine lv_aload_n hx hb dX8_field_103 rfl (lv_at hl 0 rfl) ?_
                      refine x_geto hx hb hf8 hw (by first | exact Int.le_refl 0 | omega) (by first | exact zlt hc0 | omega) sl_0_2 lk17 dX8_field_104 ?_
                      refine lv_iload hx hb dX8_field_107 (lv_at hl 3 rfl) ?_
                      refine x_aald hx hb hK.1 hw (by first | exact Int.le_refl 0 | omega) (by first | exact zlt hc2 | omega) ar_2 rfl (len_E ar_2 (by first | exact Nat.ne_of_beq_eq_false rfl | decide)) (by omega) (by omega) (by omega) dX8_field_109 (fun y65 => ?_) (fun r66 y65 gr66 lr66 => ?_)
                      · exfalso
                        have e67 : ∀ p9 q9 : Int, Ya 2 p9 q9 = Y 2 p9 q9 := fun p9 q9 => by rw [hGYa 2 p9 q9 (show 200 ∉ [1700] by first | exact nlm_ni rfl | decide)]
                        rw [e67] at y65
                        have h9 := hCI.1 x (by omega) (by omega); rw [h9] at y65; cases y65
                      · have e68 : ∀ p9 q9 : Int, Ya 2 p9 q9 = Y 2 p9 q9 := fun p9 q9 => by rw [hGYa 2 p9 q9 (show 200 ∉ [1700] by first | exact nlm_ni rfl | decide)]
                        rw [e68] at y65
                        have er66 : r66 = x := by have h9 := hCI.1 x (by omega) (by omega); rw [h9] at y65; cases y65; rfl
                        rw [er66]
                        refine x_getr (jz := 0) hx hb hf6 hw (by omega) (by omega) sl_15_0 rfl lk97 dX8_field_110 (fun y69 => ?_) (fun r70 y69 gr70 lr70 => ?_)
                        · exfalso
                          have e71 : Ya 15 x 0 = Y 15 x 0 := by rw [hGYa 15 x 0 (show 1501 ∉ [1700] by first | exact nlm_ni rfl | decide)]
                          rw [e71] at y69
                          exact absurd y69 (hCI.2.2.2.2.1 x (by omega) (by omega))
                        · have e72 : Ya 15 x 0 = Y 15 x 0 := by rw [hGYa 15 x 0 (show 1501 ∉ [1700] by first | exact nlm_ni rfl | decide)]
                          rw [e72] at y69
                          refine lv_aload hx hb dX8_field_113 (lv_at hl 1 rfl) ?_
                          refine lv_acmp_ne (rx := some (ad 19 r70)) (ry := some (ad 19 z1)) (tgt := 130) hx hb dX8_field_115 (by decide) (fun c73 => ?_) (fun c73 => ?_)
                          · have c73 : ¬ r70 = z1 := fun q => c73 (by rw [q])
                            refine lv_iinc (v := jI (x + 1)) (lv' := [(8, .int (jI (x + 1))), (0, .ref (ad 0 0)), (6, .ref (ad 19 z1)), (7, .int (jI z56))]) hx hb dX8_field_130 hl (k := 3) rfl (jI_add _ _) (by decide) rfl (fun ls hl => ?_)
                            refine lv_goto (tgt := 94) hx hb dX8_field_133 (by decide) ?_
                            have q74 : Frm [1600] X59 Xa := Frm.tr Frm.rf (Frm.mono hGXa (by first | exact nls_of rfl | decide))
                            have q75 : Frm [1700] Y Ya := Frm.tr Frm.rf (Frm.mono hGYa (by first | exact nls_of rfl | decide))
                            exact ih94 (x + 1) Xa Ya _ _ _ (by omega) hRXa q74 q75 (by omega) (hCIXa) (FdC.no hFd (by rw [y69]; exact fun q9 => (by have h9 := Option.some.inj q9; omega))) hw hS (lv_sub hl [1, 2, 3, 0] rfl)
                          · have c73 : r70 = z1 := (wd_inj hw (by omega) (by omega) (by omega) (by omega) (Option.some.inj c73)).2
                            refine lv_aload_n hx hb dX8_field_118 rfl (lv_at hl 0 rfl) ?_
                            refine x_geto hx hb hf8 hw (by first | exact Int.le_refl 0 | omega) (by first | exact zlt hc0 | omega) sl_0_2 lk17 dX8_field_119 ?_
                            refine lv_iload hx hb dX8_field_122 (lv_at hl 3 rfl) ?_
                            refine x_aald hx hb hK.1 hw (by first | exact Int.le_refl 0 | omega) (by first | exact zlt hc2 | omega) ar_2 rfl (len_E ar_2 (by first | exact Nat.ne_of_beq_eq_false rfl | decide)) (by omega) (by omega) (by omega) dX8_field_124 (fun y76 => ?_) (fun r77 y76 gr77 lr77 => ?_)
                            · exfalso
                              have e78 : ∀ p9 q9 : Int, Ya 2 p9 q9 = Y 2 p9 q9 := fun p9 q9 => by rw [hGYa 2 p9 q9 (show 200 ∉ [1700] by first | exact nlm_ni rfl | decide)]
                              rw [e78] at y76
                              have h9 := hCI.1 x (by omega) (by omega); rw [h9] at y76; cases y76
                            · have e79 : ∀ p9 q9 : Int, Ya 2 p9 q9 = Y 2 p9 q9 := fun p9 q9 => by rw [hGYa 2 p9 q9 (show 200 ∉ [1700] by first | exact nlm_ni rfl | decide)]
                              rw [e79] at y76
                              have er77 : r77 = x := by have h9 := hCI.1 x (by omega) (by omega); rw [h9] at y76; cases y76; rfl
                              rw [er77]
                              refine lv_iload hx hb dX8_field_125 (lv_at hl 2 rfl) ?_
                              refine gos_v (run_V (As := [.int (jI z56)]) (rest := []) hx hb hml hown hts (c_X6_setDefault l D tc base ad cnt Xa Ya ln hRXa hFx hLn hCIXa x z56 (by omega) (by omega) (by rw [hGYa 15 x 0 (show 1501 ∉ [1700] by first | exact nlm_ni rfl | decide), y69]; exact fun q => by cases q)) (cwV 1 hts gX8_field_X6_setDefault rfl rfl rfl (by first | exact hd_X6_setDefault | decide +kernel) ⟨Nat.le_of_ble_eq_true rfl, Nat.le_of_ble_eq_true rfl⟩) hK hw (by first | exact Int.le_refl 0 | omega) (by first | exact zlt hc15 | omega) sl_15_0 rfl rfl hl.1 rfl (Nat.le_of_ble_eq_true rfl) dX8_field_127 ⟨Nat.le_of_ble_eq_true rfl, Nat.le_of_ble_eq_true rfl⟩) hS (fun u81 H locs p82 hw hS => ?_)
                              obtain ⟨X83, Y84, eu81, hRX83, hG85, hJ86, hCIX83, p82, hs1X83, hs2X83, hs3X83, hs4X83⟩ := p82
                              subst eu81
                              have hFX83 : Frm [1902, 2000, 2100, 2200, 2300, 1600] X X83 := Frm.tr hFXa (Frm.mono hG85 (by first | exact nls_of rfl | decide))
                              have hHY84 : Frm [1700] Y Y84 := Frm.tr hHYa (Frm.mono hJ86 (by first | exact nls_of rfl | decide))
                              refine lv_iinc (v := jI (x + 1)) (lv' := [(8, .int (jI (x + 1))), (0, .ref (ad 0 0)), (6, .ref (ad 19 z1)), (7, .int (jI z56))]) hx hb dX8_field_130 hl (k := 3) rfl (jI_add _ _) (by decide) rfl (fun ls hl => ?_)
                              refine lv_goto (tgt := 94) hx hb dX8_field_133 (by decide) ?_
                              have q87 : Frm [1600] X59 Xa := Frm.tr Frm.rf (Frm.mono hGXa (by first | exact nls_of rfl | decide))
                              have q88 : Frm [1600] X59 X83 := Frm.tr q87 (Frm.mono hG85 (by first | exact nls_of rfl | decide))
                              have q89 : Frm [1700] Y Ya := Frm.tr Frm.rf (Frm.mono hGYa (by first | exact nls_of rfl | decide))
                              have hty991 : tyo (Ya 15 x 0) = z1 := by rw [tyo_some (show Ya 15 x 0 = some r70 from (by rw [hGYa 15 x 0 (show 1501 ∉ [1700] by first | exact nlm_ni rfl | decide)]; exact y69))]; omega
                              have hdv92 : Xa 22 z1 z56 = (if lane = 0 then v else -1) := by rw [hGXa 22 z1 z56 (show 2200 ∉ [1600] by first | exact nlm_ni rfl | decide), hazX59, hacX59.2.2.1]; split <;> omega
                              exact ih94 (x + 1) X83 Y84 _ _ _ (by omega) hRX83 q88 hHY84 (by omega) (hCIX83) (FdC.yes hFd (by rw [hs1X83, hty991]; exact hdv92) (fun y j hy => (by rw [hs2X83 y j hy])) hs3X83 (fun y j hy => (by rw [hs4X83 y j hy])) (by omega) (by rw [y69, show r70 = z1 by omega])) hw hS (lv_sub hl [1, 2, 3, 0] rfl)
                exact lp94 (30 - 0 : Int).toNat.succ 0 X59 Y _ _ _ (by omega) hRX59 Frm.rf Frm.rf (by omega) (hCIX59) (FdC.in_ (fun y j => (by rw [hG60 16 y j (show 1600 ∉ [1902, 2000, 2100, 2200, 2300] by first | exact nlm_ni rfl | decide)])) (fun y j => (by rfl))) hw hS (lv_sub hl [3, 2, 1, 0] rfl)
            · refine lv_bipush (v := jI (-4)) hx hb dX8_field_67 (by decide) ?_
              rw [hQ9]
              refine ret_i (mc := 0) (ms := 0) hx hb hr hlocks hw hS (by first | exact Nat.le_of_ble_eq_true rfl | omega) (by first | exact Nat.le_of_ble_eq_true rfl | omega) dX8_field_69 ?_
              exact ⟨X, Y, rfl, hR, Frm.rf, Frm.rf, hCI, by omega, (by rw [← ezz1]; (try delta Hid at *); first | exact Or.inr (Or.inr (Or.inr (Or.inl ⟨by omega, by omega, by omega, by omega, by omega, by omega, by omega⟩))) | exact Or.inr (Or.inr (Or.inr (Or.inr ((⟨by omega, by omega, by omega, by omega, by omega, by omega, by omega⟩))))) | omega), fun h => (by exfalso; omega), fun y j h => ⟨rfl, rfl, rfl, rfl⟩, fun y h => rfl, fun q => (by exfalso; omega), fun _ => ⟨rfl, rfl⟩⟩
          · refine lv_bipush (v := jI (-3)) hx hb dX8_field_55 (by decide) ?_
            rw [hQ9]
            refine ret_i (mc := 0) (ms := 0) hx hb hr hlocks hw hS (by first | exact Nat.le_of_ble_eq_true rfl | omega) (by first | exact Nat.le_of_ble_eq_true rfl | omega) dX8_field_57 ?_
            exact ⟨X, Y, rfl, hR, Frm.rf, Frm.rf, hCI, by omega, (by rw [← ezz1]; (try delta Hid at *); first | exact Or.inr (Or.inr (Or.inl ⟨by omega, by omega, by omega, by omega, by omega, by omega⟩)) | exact Or.inr (Or.inr (Or.inr (Or.inr ((⟨by omega, by omega, by omega, by omega, by omega, by omega, by omega⟩))))) | omega), fun h => (by exfalso; omega), fun y j h => ⟨rfl, rfl, rfl, rfl⟩, fun y h => rfl, fun q => (by exfalso; omega), fun _ => ⟨rfl, rfl⟩⟩
        · subst ez11
          refine x_if_neF (tgt := 45) hx hb (by omega) (by decide) dX8_field_39 (by decide) ?_
          refine lv_bipush (v := jI (-2)) hx hb dX8_field_42 (by decide) ?_
          rw [hQ9]
          refine ret_i (mc := 0) (ms := 0) hx hb hr hlocks hw hS (by first | exact Nat.le_of_ble_eq_true rfl | omega) (by first | exact Nat.le_of_ble_eq_true rfl | omega) dX8_field_44 ?_
          exact ⟨X, Y, rfl, hR, Frm.rf, Frm.rf, hCI, by omega, (by rw [← ezz1]; (try delta Hid at *); first | exact Or.inr (Or.inl ⟨by omega, by omega, (fun q => by omega), by omega, by omega⟩) | exact Or.inr (Or.inr (Or.inr (Or.inr ((⟨by omega, by omega, by omega, by omega, by omega, by omega, by omega⟩))))) | omega), fun h => (by exfalso; omega), fun y j h => ⟨rfl, rfl, rfl, rfl⟩, fun y h => rfl, fun q => (by exfalso; omega), fun _ => ⟨rfl, rfl⟩⟩
    · subst ez4
      refine x_if_eqT (tgt := 42) hx hb (by omega) (by decide) dX8_field_20 (by decide) ?_
      refine lv_bipush (v := jI (-2)) hx hb dX8_field_42 (by decide) ?_
      rw [hQ9]
      refine ret_i (mc := 0) (ms := 0) hx hb hr hlocks hw hS (by first | exact Nat.le_of_ble_eq_true rfl | omega) (by first | exact Nat.le_of_ble_eq_true rfl | omega) dX8_field_44 ?_
      exact ⟨X, Y, rfl, hR, Frm.rf, Frm.rf, hCI, by omega, (by rw [← ezz1]; (try delta Hid at *); first | exact Or.inr (Or.inl ⟨by omega, by omega, (fun q => by omega), by omega, by omega⟩) | exact Or.inr (Or.inr (Or.inr (Or.inr ((⟨by omega, by omega, by omega, by omega, by omega, by omega, by omega⟩))))) | omega), fun h => (by exfalso; omega), fun y j h => ⟨rfl, rfl, rfl, rfl⟩, fun y h => rfl, fun q => (by exfalso; omega), fun _ => ⟨rfl, rfl⟩⟩

set_option maxHeartbeats 4000000 in
set_option maxRecDepth 100000 in
theorem c_X8_drop (l : Launch) (D : va_G) (tc : Nat → ClassId) (base : Nat) (ad : Nat → Int → Nat) (cnt : Nat → Int) (X : Nat → Int → Int → Int) (Y : Nat → Int → Int → Option Int) (ln : Int → Int) (hR : Rng X) (hFx : Fx cnt) (hLn : LnOK ln) (hCI : CInv cnt X Y ln) (t k : Int) (ht : -2147483648 ≤ t ∧ t ≤ 2147483647) (hk : -2147483648 ≤ k ∧ k ≤ 2147483647) : KI l D tc base yX8_drop wsX8_drop ({ frames := 2, cells := 0, slots := 0, locals := 42 } : Room) [.ref (ad 0 0), .int (jI t), .int (jI k)] (ad, cnt, X, Y, ln) 0 0 (fun z u => ∃ (X1 : Nat → Int → Int → Int) (Y1 : Nat → Int → Int → Option Int), u = (ad, cnt, X1, Y1, ln) ∧ Rng X1 ∧ Frm [1902, 2000, 2100, 2200, 2300, 1600] X X1 ∧ Frm [1700] Y Y1 ∧ CInv cnt X1 Y1 ln ∧ (-2147483648 ≤ z ∧ z ≤ 2147483647) ∧ ((¬ (0 ≤ t ∧ t < X 0 0 1 ∧ 0 ≤ k ∧ k < X 19 t 1) ∧ z = -1 ∧ X1 19 t 1 = X 19 t 1) ∨ (0 ≤ t ∧ t < X 0 0 1 ∧ 0 ≤ k ∧ k < X 19 t 1 ∧ 0 < X 29 0 3 ∧ z = -3 ∧ X1 19 t 1 = X 19 t 1) ∨ (0 ≤ t ∧ t < X 0 0 1 ∧ 0 ≤ k ∧ k < X 19 t 1 ∧ X 29 0 3 = 0 ∧ z = X 19 t 1 - 1 ∧ X1 19 t 1 = X 19 t 1 - 1)) ∧ (0 ≤ z → Sh 20 X X1 t k (X 19 t 1 - 1) ∧ Sh 21 X X1 t k (X 19 t 1 - 1) ∧ Sh 22 X X1 t k (X 19 t 1 - 1) ∧ Sh 23 X X1 t k (X 19 t 1 - 1)) ∧ (z < 0 → ∀ y j, X1 20 y j = X 20 y j ∧ X1 21 y j = X 21 y j ∧ X1 22 y j = X 22 y j ∧ X1 23 y j = X 23 y j) ∧ (∀ y, y ≠ t → X1 19 y 1 = X 19 y 1) ∧ (0 ≤ z → (∀ y, 0 ≤ y → y < X 0 0 3 → Y 15 y 0 = some t → ∀ j, X1 16 y j = (if k ≤ j ∧ j < 4 then X 16 y (j + 1) else X 16 y j) ∧ Y1 17 y j = (if k ≤ j ∧ j < 4 then Y 17 y (j + 1) else Y 17 y j)) ∧ ∀ y j, 0 ≤ y → y < X 0 0 3 → ¬ (Y 15 y 0 = some t) → X1 16 y j = X 16 y j ∧ Y1 17 y j = Y 17 y j) ∧ (z < 0 → X1 = X ∧ Y1 = Y)) := by
  refine K_of (cc := cX8_drop) (maxL := 5) (ret := (some .int)) (by decide) rfl (Nat.le_of_ble_eq_true rfl) ?_
  intro p e s m below meth c ls hx hb hr hml hown hts hlocks hl hK hw hS
  have hown : s.vm.findClass RX8 = some m.cls := hown
  obtain ⟨av9, hav9⟩ : ∃ a9 : Array Value, a9 = ([.ref (ad 0 0), .int (jI t), .int (jI k)] : List Value).toArray := ⟨_, rfl⟩
  rw [← hav9] at hts ⊢
  obtain ⟨Q9, hQ9⟩ : ∃ q9Q : State → Prop, q9Q = MQ below (QI D tc base (fun z u => ∃ (X1 : Nat → Int → Int → Int) (Y1 : Nat → Int → Int → Option Int), u = (ad, cnt, X1, Y1, ln) ∧ Rng X1 ∧ Frm [1902, 2000, 2100, 2200, 2300, 1600] X X1 ∧ Frm [1700] Y Y1 ∧ CInv cnt X1 Y1 ln ∧ (-2147483648 ≤ z ∧ z ≤ 2147483647) ∧ ((¬ (0 ≤ t ∧ t < X 0 0 1 ∧ 0 ≤ k ∧ k < X 19 t 1) ∧ z = -1 ∧ X1 19 t 1 = X 19 t 1) ∨ (0 ≤ t ∧ t < X 0 0 1 ∧ 0 ≤ k ∧ k < X 19 t 1 ∧ 0 < X 29 0 3 ∧ z = -3 ∧ X1 19 t 1 = X 19 t 1) ∨ (0 ≤ t ∧ t < X 0 0 1 ∧ 0 ≤ k ∧ k < X 19 t 1 ∧ X 29 0 3 = 0 ∧ z = X 19 t 1 - 1 ∧ X1 19 t 1 = X 19 t 1 - 1)) ∧ (0 ≤ z → Sh 20 X X1 t k (X 19 t 1 - 1) ∧ Sh 21 X X1 t k (X 19 t 1 - 1) ∧ Sh 22 X X1 t k (X 19 t 1 - 1) ∧ Sh 23 X X1 t k (X 19 t 1 - 1)) ∧ (z < 0 → ∀ y j, X1 20 y j = X 20 y j ∧ X1 21 y j = X 21 y j ∧ X1 22 y j = X 22 y j ∧ X1 23 y j = X 23 y j) ∧ (∀ y, y ≠ t → X1 19 y 1 = X 19 y 1) ∧ (0 ≤ z → (∀ y, 0 ≤ y → y < X 0 0 3 → Y 15 y 0 = some t → ∀ j, X1 16 y j = (if k ≤ j ∧ j < 4 then X 16 y (j + 1) else X 16 y j) ∧ Y1 17 y j = (if k ≤ j ∧ j < 4 then Y 17 y (j + 1) else Y 17 y j)) ∧ ∀ y j, 0 ≤ y → y < X 0 0 3 → ¬ (Y 15 y 0 = some t) → X1 16 y j = X 16 y j ∧ Y1 17 y j = Y 17 y j) ∧ (z < 0 → X1 = X ∧ Y1 = Y))) av9 s 0 0 (frA base) := ⟨_, rfl⟩
  rw [← hQ9]
  have hi2 : ∀ w ∈ wsX20, w ∈ wsX8_drop := fun w h => List.mem_cons_of_mem _ (List.mem_append_left _ (List.mem_append_left _ (List.mem_append_right _ h)))
  have hf2 : fctx s m _ RX8 wsX8_drop D tc RX2 TX2 4 2 := ⟨hts, hi2, hown, hK.1, rfl⟩
  have hi6 : ∀ w ∈ wsX60, w ∈ wsX8_drop := fun w h => List.mem_cons_of_mem _ (List.mem_append_left _ (List.mem_append_right _ h))
  have hf6 : fctx s m _ RX8 wsX8_drop D tc RX6 TX6 4 6 := ⟨hts, hi6, hown, hK.1, rfl⟩
  have hi7 : ∀ w ∈ wsX70, w ∈ wsX8_drop := fun w h => List.mem_cons_of_mem _ (List.mem_append_right _ h)
  have hf7 : fctx s m _ RX8 wsX8_drop D tc RX7 TX7 8 7 := ⟨hts, hi7, hown, hK.1, rfl⟩
  have hi8 : ∀ w ∈ wsX80, w ∈ wsX8_drop := fun w h => List.mem_cons_of_mem _ (List.mem_append_left _ (List.mem_append_left _ (List.mem_append_left _ (List.mem_append_right _ h))))
  have hf8 : fctx s m _ RX8 wsX8_drop D tc RX8 TX8 12 8 := ⟨hts, hi8, hown, hK.1, rfl⟩
  have lk17 := hts (.fieldLink RX8 17 (TX8 2).1 (TX8 2).2.1 (TX8 2).2.2.1) (gj_X8_drop_0 _ (gp_1 (gp_1 (gp_1 gp_h))))
  have lk51 := hts (.fieldLink RX8 51 (TX8 10).1 (TX8 10).2.1 (TX8 10).2.2.1) (gj_X8_drop_0 _ (gp_h))
  have lk82 := hts (.fieldLink RX8 82 (TX2 3).1 (TX2 3).2.1 (TX2 3).2.2.1) (gj_X8_drop_0 _ (gp_1 gp_h))
  have lk85 := hts (.fieldLink RX8 85 (TX7 1).1 (TX7 1).2.1 (TX7 1).2.2.1) (gj_X8_drop_0 _ (gp_4 (gp_1 gp_h)))
  have lk94 := hts (.fieldLink RX8 94 (TX8 3).1 (TX8 3).2.1 (TX8 3).2.2.1) (gj_X8_drop_0 _ (gp_1 (gp_1 gp_h)))
  have lk97 := hts (.fieldLink RX8 97 (TX6 0).1 (TX6 0).2.1 (TX6 0).2.2.1) (gj_X8_drop_0 _ (gp_4 gp_h))
  have hc0 : cnt 0 = 1 := hFx.at 0 1 (by decide)
  have hc2 : cnt 2 = 1 := hFx.at 2 1 (by decide)
  have hc15 : cnt 15 = 30 := hFx.at 15 30 (by decide)
  have hc29 : cnt 29 = 1 := hFx.at 29 1 (by decide)
  have hl : lv_has ls 5 [(0, .ref (ad 0 0)), (1, .int (jI t)), (2, .int (jI k))] := hl
  have ftc : 0 ≤ X 0 0 3 ∧ X 0 0 3 ≤ 30 := hR 0 0 3
  have fty : 0 ≤ X 0 0 1 ∧ X 0 0 1 ≤ 8 := hR 0 0 1
  have hct : cnt 19 = X 0 0 1 := hCI.2.2.2.1.1
  have hfj : 0 ≤ X 29 0 3 ∧ X 29 0 3 ≤ 4 := hR 29 0 3
  have hfn : 0 ≤ X 29 0 1 ∧ X 29 0 1 ≤ 80 := hR 29 0 1
  refine lv_aload_n hx hb dX8_drop_0 rfl (lv_at hl 0 rfl) ?_
  refine lv_iload_n hx hb dX8_drop_1 rfl (lv_at hl 1 rfl) ?_
  refine gos_r (run_V (As := [.int (jI t)]) (rest := []) hx hb hml hown hts (c_X8_typeNumbered l D tc base ad cnt X Y ln hR hFx hLn hCI t (by omega)) (cwV 1 hts gX8_drop_X8_typeNumbered rfl rfl rfl (by first | exact hd_X8_typeNumbered | decide +kernel) ⟨Nat.le_of_ble_eq_true rfl, Nat.le_of_ble_eq_true rfl⟩) hK hw (by first | exact Int.le_refl 0 | omega) (by first | exact zlt hc0 | omega) sl_0_0 rfl rfl hl.1 rfl (Nat.le_of_ble_eq_true rfl) dX8_drop_2 ⟨Nat.le_of_ble_eq_true rfl, Nat.le_of_ble_eq_true rfl⟩) hS (fun u2 H locs p3 hw hS => ?_) (fun z1 u2 H locs p3 hw hS => ?_)
  · obtain ⟨eu2, hsp3, hnp3⟩ := p3
    subst eu2
    refine lv_astore_nN (lv' := [(3, .null), (0, .ref (ad 0 0)), (1, .int (jI t)), (2, .int (jI k))]) hx hb dX8_drop_5 rfl hl (by decide) rfl (fun ls hl => ?_)
    refine lv_aload_nN hx hb dX8_drop_6 rfl (lv_at hl 0 rfl) ?_
    refine lv_ifnullN (tgt := 18) hx hb dX8_drop_7 (by decide) ?_
    refine lv_iconst (v := jI (-1)) hx hb dX8_drop_18 rfl ?_
    rw [hQ9]
    refine ret_i (mc := 0) (ms := 0) hx hb hr hlocks hw hS (by first | exact Nat.le_of_ble_eq_true rfl | omega) (by first | exact Nat.le_of_ble_eq_true rfl | omega) dX8_drop_19 ?_
    exact ⟨X, Y, rfl, hR, Frm.rf, Frm.rf, hCI, by omega, (by have h9n : ¬ (0 ≤ t ∧ t < X 0 0 1) := hnp3 rfl; (try delta Hid at *); first | exact Or.inl ⟨(fun q => by omega), by omega, by omega⟩ | exact Or.inr (Or.inr ((⟨by omega, by omega, by omega, by omega, by omega, by omega, by omega⟩))) | omega), fun h => (by exfalso; omega), fun _ y j => ⟨rfl, rfl, rfl, rfl⟩, fun y h => rfl, fun q => (by exfalso; omega), fun _ => ⟨rfl, rfl⟩⟩
  · obtain ⟨eu2, hsp3, hnp3⟩ := p3
    subst eu2
    obtain ⟨ezz1, p3⟩ := hsp3 z1 rfl
    refine lv_astore_n (lv' := [(3, .ref (ad 19 z1)), (0, .ref (ad 0 0)), (1, .int (jI t)), (2, .int (jI k))]) hx hb dX8_drop_5 rfl hl (by decide) rfl (fun ls hl => ?_)
    refine lv_aload_n hx hb dX8_drop_6 rfl (lv_at hl 0 rfl) ?_
    refine lv_ifnull hx hb dX8_drop_7 ?_
    refine lv_aload_n hx hb dX8_drop_10 rfl (lv_at hl 0 rfl) ?_
    refine lv_iload_n hx hb dX8_drop_11 rfl (lv_at hl 3 rfl) ?_
    refine gos_i (run_V (As := [.int (jI k)]) (rest := []) hx hb hml hown hts (c_X7_hasField l D tc base ad cnt X Y ln hR hFx hLn z1 k (by omega) (by omega)) (cwV 1 hts gX8_drop_X7_hasField rfl rfl rfl (by first | exact hd_X7_hasField | decide +kernel) ⟨Nat.le_of_ble_eq_true rfl, Nat.le_of_ble_eq_true rfl⟩) hK hw (by first | exact Int.le_refl 0 | omega) (by first | exact zlt hc19 | omega) sl_19_0 rfl rfl hl.1 rfl (Nat.le_of_ble_eq_true rfl) dX8_drop_12 ⟨Nat.le_of_ble_eq_true rfl, Nat.le_of_ble_eq_true rfl⟩) hS (fun z4 u5 H locs p6 hw hS => ?_)
    obtain ⟨eu5, p6⟩ := p6
    subst eu5
    rcases p6 with ⟨ez4, p6⟩ | ⟨ez4, p6⟩
    · subst ez4
      refine x_if_neT (tgt := 20) hx hb (by omega) (by decide) dX8_drop_15 (by decide) ?_
      refine lv_aload_n hx hb dX8_drop_20 rfl (lv_at hl 1 rfl) ?_
      refine x_geto hx hb hf8 hw (by first | exact Int.le_refl 0 | omega) (by first | exact zlt hc0 | omega) sl_0_10 lk51 dX8_drop_21 ?_
      refine x_geti (jz := 3) hx hb hf2 hw (by first | exact Int.le_refl 0 | omega) (by first | exact zlt hc29 | omega) sl_29_3 rfl lk82 dX8_drop_24 ?_
      have f7 : 0 ≤ X 29 0 3 ∧ X 29 0 3 ≤ 4 := hR 29 0 3
      refine x_if_le (tgt := 33) hx hb (by omega) dX8_drop_27 (by decide) (fun c8 => ?_) (fun c8 => ?_)
      · refine lv_aload_n hx hb dX8_drop_33 rfl (lv_at hl 0 rfl) ?_
        refine lv_iload_n hx hb dX8_drop_34 rfl (lv_at hl 3 rfl) ?_
        refine gos_v (run_V (As := [.int (jI k)]) (rest := []) hx hb hml hown hts (c_X7_removeField l D tc base ad cnt X Y ln hR hFx hLn hCI z1 k (by omega) (by omega)) (cwV 1 hts gX8_drop_X7_removeField rfl rfl rfl (by first | exact hd_X7_removeField | decide +kernel) ⟨Nat.le_of_ble_eq_true rfl, Nat.le_of_ble_eq_true rfl⟩) hK hw (by first | exact Int.le_refl 0 | omega) (by first | exact zlt hc19 | omega) sl_19_0 rfl rfl hl.1 rfl (Nat.le_of_ble_eq_true rfl) dX8_drop_35 ⟨Nat.le_of_ble_eq_true rfl, Nat.le_of_ble_eq_true rfl⟩) hS (fun u10 H locs p11 hw hS => ?_)
        obtain ⟨X12, eu10, hRX12, hG13, hCIX12, p11, hrfX12, hryX12, h20X12, h21X12, h22X12, h23X12⟩ := p11
        subst eu10
        have hFX12 : Frm [1902, 2000, 2100, 2200, 2300, 1600] X X12 := Frm.tr Frm.rf (Frm.mono hG13 (by first | exact nls_of rfl | decide))
        refine lv_iconst (v := jI 0) hx hb dX8_drop_38 rfl ?_
        refine lv_istore (lv' := [(4, .int (jI 0)), (3, .ref (ad 19 z1)), (0, .ref (ad 0 0)), (1, .int (jI t)), (2, .int (jI k))]) hx hb dX8_drop_39 hl (by decide) rfl (fun ls hl => ?_)
        have lp41 : ∀ (nn : Nat) (x : Int) (Xa : Nat → Int → Int → Int) (Ya : Nat → Int → Int → Option Int) (H : Heap) (locs : List Loc) (ls : Array Slot), (30 - x) < (nn : Int) → (Rng Xa) → (Frm [1600] X12 Xa) → (Frm [1700] Y Ya) → (0 ≤ x ∧ x ≤ 30) → (CInv cnt Xa Ya ln) → (DrC X Xa Y Ya z1 k x) → wd D tc base (ad, cnt, Xa, Ya, ln) H → va_S (frA base) s.heap H locs → lv_has ls 5 [(0, .ref (ad 0 0)), (1, .int (jI t)), (2, .int (jI k)), (3, .ref (ad 19 z1)), (4, .int (jI x))] → W p l e ({ frames := 2, cells := 0, slots := 0, locals := 42 } : Room) s m av9 below meth c H locs 0 0 Q9 (F0 m 41 ls []) := by
          intro nn
          induction nn with
          | zero => intro x Xa Ya H locs ls hm hRXa hGXa hGYa hx8 hCIXa hDr hw hS hl; exfalso; omega
          | succ nn ih41 =>
            intro x Xa Ya H locs ls hm hRXa hGXa hGYa hx8 hCIXa hDr hw hS hl
            have hHYa : Frm [1700] Y Ya := Frm.tr Frm.rf (Frm.mono hGYa (by first | exact nls_of rfl | decide))
            have hFXa : Frm [1902, 2000, 2100, 2200, 2300, 1600] X Xa := Frm.tr hFX12 (Frm.mono hGXa (by first | exact nls_of rfl | decide))
            refine lv_iload hx hb dX8_drop_41 (lv_at hl 4 rfl) ?_
            refine lv_aload_n hx hb dX8_drop_43 rfl (lv_at hl 0 rfl) ?_
            refine x_geti (jz := 3) hx hb hf8 hw (by first | exact Int.le_refl 0 | omega) (by first | exact zlt hc0 | omega) sl_0_3 rfl lk94 dX8_drop_44 ?_
            have e14 : Xa 0 0 3 = X 0 0 3 := by rw [hGXa 0 0 3 (show 4 ∉ [1600] by first | exact nlm_ni rfl | decide), hG13 0 0 3 (show 4 ∉ [1902, 2000, 2100, 2200, 2300] by first | exact nlm_ni rfl | decide)]
            rw [e14]
            have f15 : 0 ≤ X 0 0 3 ∧ X 0 0 3 ≤ 30 := hR 0 0 3
            refine x_icmp_ge (tgt := 81) hx hb (by omega) (by omega) dX8_drop_47 (by decide) (fun c16 => ?_) (fun c16 => ?_)
            · refine lv_aload_n hx hb dX8_drop_81 rfl (lv_at hl 3 rfl) ?_
              refine x_geti (jz := 1) hx hb hf7 hw (by omega) (by omega) sl_19_1 rfl lk85 dX8_drop_82 ?_
              have e17 : Xa 19 z1 1 = X12 19 z1 1 := by rw [hGXa 19 z1 1 (show 1902 ∉ [1600] by first | exact nlm_ni rfl | decide)]
              rw [e17]
              have f18 : 0 ≤ X12 19 z1 1 ∧ X12 19 z1 1 ≤ 5 := hRX12 19 z1 1
              rw [hQ9]
              refine ret_i (mc := 0) (ms := 0) hx hb hr hlocks hw hS (by first | exact Nat.le_of_ble_eq_true rfl | omega) (by first | exact Nat.le_of_ble_eq_true rfl | omega) dX8_drop_85 ?_
              have e19 : Xa 19 z1 1 = X12 19 z1 1 := (by rw [hGXa 19 z1 1 (show 1902 ∉ [1600] by first | exact nlm_ni rfl | decide)])
              exact ⟨Xa, Ya, rfl, hRXa, hFXa, hHYa, hCIXa, by omega, (by rw [← ezz1]; (try delta Hid at *); first | exact Or.inr (Or.inr ((⟨by omega, by omega, by omega, by omega, by omega, by omega, by omega⟩))) | omega), fun h => ⟨(by rw [← ezz1]; exact Sh.of h20X12 (by rw [(funext fun y9 => funext fun j9 => hGXa 20 y9 j9 (show 2000 ∉ [1600] by first | exact nlm_ni rfl | decide) : Xa 20 = X12 20)])), (by rw [← ezz1]; exact Sh.of h21X12 (by rw [(funext fun y9 => funext fun j9 => hGXa 21 y9 j9 (show 2100 ∉ [1600] by first | exact nlm_ni rfl | decide) : Xa 21 = X12 21)])), (by rw [← ezz1]; exact Sh.of h22X12 (by rw [(funext fun y9 => funext fun j9 => hGXa 22 y9 j9 (show 2200 ∉ [1600] by first | exact nlm_ni rfl | decide) : Xa 22 = X12 22)])), (by rw [← ezz1]; exact Sh.of h23X12 (by rw [(funext fun y9 => funext fun j9 => hGXa 23 y9 j9 (show 2300 ∉ [1600] by first | exact nlm_ni rfl | decide) : Xa 23 = X12 23)]))⟩, fun h => (by exfalso; omega), fun y h => (by rw [hGXa 19 y 1 (show 1902 ∉ [1600] by first | exact nlm_ni rfl | decide)]; exact hryX12 y (by omega)), fun _ => (by rw [← ezz1]; exact ⟨fun y a b c => hDr.1 y a (by omega) c, fun y j a b c => hDr.2 y (fun q9 => c q9.2.2) j⟩), fun q => (by exfalso; omega)⟩
            · refine lv_aload_n hx hb dX8_drop_50 rfl (lv_at hl 0 rfl) ?_
              refine x_geto hx hb hf8 hw (by first | exact Int.le_refl 0 | omega) (by first | exact zlt hc0 | omega) sl_0_2 lk17 dX8_drop_51 ?_
              refine lv_iload hx hb dX8_drop_54 (lv_at hl 4 rfl) ?_
              refine x_aald hx hb hK.1 hw (by first | exact Int.le_refl 0 | omega) (by first | exact zlt hc2 | omega) ar_2 rfl (len_E ar_2 (by first | exact Nat.ne_of_beq_eq_false rfl | decide)) (by omega) (by omega) (by omega) dX8_drop_56 (fun y20 => ?_) (fun r21 y20 gr21 lr21 => ?_)
              · exfalso
                have e22 : ∀ p9 q9 : Int, Ya 2 p9 q9 = Y 2 p9 q9 := fun p9 q9 => by rw [hGYa 2 p9 q9 (show 200 ∉ [1700] by first | exact nlm_ni rfl | decide)]
                rw [e22] at y20
                have h9 := hCI.1 x (by omega) (by omega); rw [h9] at y20; cases y20
              · have e23 : ∀ p9 q9 : Int, Ya 2 p9 q9 = Y 2 p9 q9 := fun p9 q9 => by rw [hGYa 2 p9 q9 (show 200 ∉ [1700] by first | exact nlm_ni rfl | decide)]
                rw [e23] at y20
                have er21 : r21 = x := by have h9 := hCI.1 x (by omega) (by omega); rw [h9] at y20; cases y20; rfl
                rw [er21]
                refine x_getr (jz := 0) hx hb hf6 hw (by omega) (by omega) sl_15_0 rfl lk97 dX8_drop_57 (fun y24 => ?_) (fun r25 y24 gr25 lr25 => ?_)
                · exfalso
                  have e26 : Ya 15 x 0 = Y 15 x 0 := by rw [hGYa 15 x 0 (show 1501 ∉ [1700] by first | exact nlm_ni rfl | decide)]
                  rw [e26] at y24
                  exact absurd y24 (hCI.2.2.2.2.1 x (by omega) (by omega))
                · have e27 : Ya 15 x 0 = Y 15 x 0 := by rw [hGYa 15 x 0 (show 1501 ∉ [1700] by first | exact nlm_ni rfl | decide)]
                  rw [e27] at y24
                  refine lv_aload_n hx hb dX8_drop_60 rfl (lv_at hl 3 rfl) ?_
                  refine lv_acmp_ne (rx := some (ad 19 r25)) (ry := some (ad 19 z1)) (tgt := 75) hx hb dX8_drop_61 (by decide) (fun c28 => ?_) (fun c28 => ?_)
                  · have c28 : ¬ r25 = z1 := fun q => c28 (by rw [q])
                    refine lv_iinc (v := jI (x + 1)) (lv' := [(4, .int (jI (x + 1))), (0, .ref (ad 0 0)), (1, .int (jI t)), (2, .int (jI k)), (3, .ref (ad 19 z1))]) hx hb dX8_drop_75 hl (k := 4) rfl (jI_add _ _) (by decide) rfl (fun ls hl => ?_)
                    refine lv_goto (tgt := 41) hx hb dX8_drop_78 (by decide) ?_
                    have q29 : Frm [1600] X12 Xa := Frm.tr Frm.rf (Frm.mono hGXa (by first | exact nls_of rfl | decide))
                    have q30 : Frm [1700] Y Ya := Frm.tr Frm.rf (Frm.mono hGYa (by first | exact nls_of rfl | decide))
                    exact ih41 (x + 1) Xa Ya _ _ _ (by omega) hRXa q29 q30 (by omega) (hCIXa) (DrC.no hDr (by rw [y24]; exact fun q9 => (by have h9 := Option.some.inj q9; omega))) hw hS (lv_sub hl [1, 2, 3, 4, 0] rfl)
                  · have c28 : r25 = z1 := (wd_inj hw (by omega) (by omega) (by omega) (by omega) (Option.some.inj c28)).2
                    refine lv_aload_n hx hb dX8_drop_64 rfl (lv_at hl 0 rfl) ?_
                    refine x_geto hx hb hf8 hw (by first | exact Int.le_refl 0 | omega) (by first | exact zlt hc0 | omega) sl_0_2 lk17 dX8_drop_65 ?_
                    refine lv_iload hx hb dX8_drop_68 (lv_at hl 4 rfl) ?_
                    refine x_aald hx hb hK.1 hw (by first | exact Int.le_refl 0 | omega) (by first | exact zlt hc2 | omega) ar_2 rfl (len_E ar_2 (by first | exact Nat.ne_of_beq_eq_false rfl | decide)) (by omega) (by omega) (by omega) dX8_drop_70 (fun y31 => ?_) (fun r32 y31 gr32 lr32 => ?_)
                    · exfalso
                      have e33 : ∀ p9 q9 : Int, Ya 2 p9 q9 = Y 2 p9 q9 := fun p9 q9 => by rw [hGYa 2 p9 q9 (show 200 ∉ [1700] by first | exact nlm_ni rfl | decide)]
                      rw [e33] at y31
                      have h9 := hCI.1 x (by omega) (by omega); rw [h9] at y31; cases y31
                    · have e34 : ∀ p9 q9 : Int, Ya 2 p9 q9 = Y 2 p9 q9 := fun p9 q9 => by rw [hGYa 2 p9 q9 (show 200 ∉ [1700] by first | exact nlm_ni rfl | decide)]
                      rw [e34] at y31
                      have er32 : r32 = x := by have h9 := hCI.1 x (by omega) (by omega); rw [h9] at y31; cases y31; rfl
                      rw [er32]
                      refine lv_iload_n hx hb dX8_drop_71 rfl (lv_at hl 2 rfl) ?_
                      refine gos_v (run_V (As := [.int (jI k)]) (rest := []) hx hb hml hown hts (c_X6_removeField l D tc base ad cnt Xa Ya ln hRXa hFx hLn hCIXa x k (by omega) (by omega)) (cwV 1 hts gX8_drop_X6_removeField rfl rfl rfl (by first | exact hd_X6_removeField | decide +kernel) ⟨Nat.le_of_ble_eq_true rfl, Nat.le_of_ble_eq_true rfl⟩) hK hw (by first | exact Int.le_refl 0 | omega) (by first | exact zlt hc15 | omega) sl_15_0 rfl rfl hl.1 rfl (Nat.le_of_ble_eq_true rfl) dX8_drop_72 ⟨Nat.le_of_ble_eq_true rfl, Nat.le_of_ble_eq_true rfl⟩) hS (fun u36 H locs p37 hw hS => ?_)
                      obtain ⟨X38, Y39, eu36, hRX38, hG40, hJ41, hCIX38, p37, hsxX38, hsyX38⟩ := p37
                      subst eu36
                      have hFX38 : Frm [1902, 2000, 2100, 2200, 2300, 1600] X X38 := Frm.tr hFXa (Frm.mono hG40 (by first | exact nls_of rfl | decide))
                      have hHY39 : Frm [1700] Y Y39 := Frm.tr hHYa (Frm.mono hJ41 (by first | exact nls_of rfl | decide))
                      refine lv_iinc (v := jI (x + 1)) (lv' := [(4, .int (jI (x + 1))), (0, .ref (ad 0 0)), (1, .int (jI t)), (2, .int (jI k)), (3, .ref (ad 19 z1))]) hx hb dX8_drop_75 hl (k := 4) rfl (jI_add _ _) (by decide) rfl (fun ls hl => ?_)
                      refine lv_goto (tgt := 41) hx hb dX8_drop_78 (by decide) ?_
                      have q42 : Frm [1600] X12 Xa := Frm.tr Frm.rf (Frm.mono hGXa (by first | exact nls_of rfl | decide))
                      have q43 : Frm [1600] X12 X38 := Frm.tr q42 (Frm.mono hG40 (by first | exact nls_of rfl | decide))
                      have q44 : Frm [1700] Y Ya := Frm.tr Frm.rf (Frm.mono hGYa (by first | exact nls_of rfl | decide))
                      exact ih41 (x + 1) X38 Y39 _ _ _ (by omega) hRX38 q43 hHY39 (by omega) (hCIX38) (DrC.yes hDr hsxX38 hsyX38 (fun y j => (by rfl)) (fun y j => (by rfl)) (by omega) (by rw [y24, show r25 = z1 by omega])) hw hS (lv_sub hl [1, 2, 3, 4, 0] rfl)
        exact lp41 (30 - 0 : Int).toNat.succ 0 X12 Y _ _ _ (by omega) hRX12 Frm.rf Frm.rf (by omega) (hCIX12) (DrC.in_ (fun y j => (by rw [hG13 16 y j (show 1600 ∉ [1902, 2000, 2100, 2200, 2300] by first | exact nlm_ni rfl | decide)])) (fun y j => (by rfl))) hw hS (lv_sub hl [2, 3, 4, 1, 0] rfl)
      · refine lv_bipush (v := jI (-3)) hx hb dX8_drop_30 (by decide) ?_
        rw [hQ9]
        refine ret_i (mc := 0) (ms := 0) hx hb hr hlocks hw hS (by first | exact Nat.le_of_ble_eq_true rfl | omega) (by first | exact Nat.le_of_ble_eq_true rfl | omega) dX8_drop_32 ?_
        exact ⟨X, Y, rfl, hR, Frm.rf, Frm.rf, hCI, by omega, (by rw [← ezz1]; (try delta Hid at *); first | exact Or.inr (Or.inl ⟨by omega, by omega, by omega, by omega, by omega, by omega, by omega⟩) | exact Or.inr (Or.inr ((⟨by omega, by omega, by omega, by omega, by omega, by omega, by omega⟩))) | omega), fun h => (by exfalso; omega), fun _ y j => ⟨rfl, rfl, rfl, rfl⟩, fun y h => rfl, fun q => (by exfalso; omega), fun _ => ⟨rfl, rfl⟩⟩
    · subst ez4
      refine x_if_neF (tgt := 20) hx hb (by omega) (by decide) dX8_drop_15 (by decide) ?_
      refine lv_iconst (v := jI (-1)) hx hb dX8_drop_18 rfl ?_
      rw [hQ9]
      refine ret_i (mc := 0) (ms := 0) hx hb hr hlocks hw hS (by first | exact Nat.le_of_ble_eq_true rfl | omega) (by first | exact Nat.le_of_ble_eq_true rfl | omega) dX8_drop_19 ?_
      exact ⟨X, Y, rfl, hR, Frm.rf, Frm.rf, hCI, by omega, (by rw [← ezz1]; (try delta Hid at *); first | exact Or.inl ⟨(fun q => by omega), by omega, by omega⟩ | exact Or.inr (Or.inr ((⟨by omega, by omega, by omega, by omega, by omega, by omega, by omega⟩))) | omega), fun h => (by exfalso; omega), fun _ y j => ⟨rfl, rfl, rfl, rfl⟩, fun y h => rfl, fun q => (by exfalso; omega), fun _ => ⟨rfl, rfl⟩⟩

set_option maxHeartbeats 4000000 in
set_option maxRecDepth 100000 in
theorem c_X8_forgetNumbers (l : Launch) (D : va_G) (tc : Nat → ClassId) (base : Nat) (ad : Nat → Int → Nat) (cnt : Nat → Int) (X : Nat → Int → Int → Int) (Y : Nat → Int → Int → Option Int) (ln : Int → Int) (hR : Rng X) (hFx : Fx cnt) (hLn : LnOK ln) (hCI : CInv cnt X Y ln)  : KV l D tc base yX8_forgetNumbers wsX8_forgetNumbers ({ frames := 1, cells := 0, slots := 0, locals := 21 } : Room) [.ref (ad 0 0)] (ad, cnt, X, Y, ln) 0 0 (fun u => ∃ (X1 : Nat → Int → Int → Int), u = (ad, cnt, X1, Y, ln) ∧ Rng X1 ∧ Frm [1504, 2602] X X1 ∧ CInv cnt X1 Y ln ∧ (0 : Int) ≤ 0 ∧ (∀ x, 0 ≤ x → x < X 0 0 3 → X1 15 x 3 = -1) ∧ ∀ y k w9, 0 ≤ y → y < X 0 0 3 → 0 ≤ k → k < cFc X Y y → Y 17 y k = some w9 → X1 26 w9 1 = -1) := by
  refine K_of (cc := cX8_forgetNumbers) (maxL := 2) (ret := none) (by decide) rfl (Nat.le_of_ble_eq_true rfl) ?_
  intro p e s m below meth c ls hx hb hr hml hown hts hlocks hl hK hw hS
  have hown : s.vm.findClass RX8 = some m.cls := hown
  obtain ⟨av9, hav9⟩ : ∃ a9 : Array Value, a9 = ([.ref (ad 0 0)] : List Value).toArray := ⟨_, rfl⟩
  rw [← hav9] at hts ⊢
  obtain ⟨Q9, hQ9⟩ : ∃ q9Q : State → Prop, q9Q = MQ below (QV D tc base (fun u => ∃ (X1 : Nat → Int → Int → Int), u = (ad, cnt, X1, Y, ln) ∧ Rng X1 ∧ Frm [1504, 2602] X X1 ∧ CInv cnt X1 Y ln ∧ (0 : Int) ≤ 0 ∧ (∀ x, 0 ≤ x → x < X 0 0 3 → X1 15 x 3 = -1) ∧ ∀ y k w9, 0 ≤ y → y < X 0 0 3 → 0 ≤ k → k < cFc X Y y → Y 17 y k = some w9 → X1 26 w9 1 = -1)) av9 s 0 0 (frA base) := ⟨_, rfl⟩
  rw [← hQ9]
  have hi8 : ∀ w ∈ wsX80, w ∈ wsX8_forgetNumbers := fun w h => List.mem_cons_of_mem _ (List.mem_append_left _ (List.mem_append_left _ (List.mem_append_left _ (List.mem_append_right _ h))))
  have hf8 : fctx s m _ RX8 wsX8_forgetNumbers D tc RX8 TX8 12 8 := ⟨hts, hi8, hown, hK.1, rfl⟩
  have lk17 := hts (.fieldLink RX8 17 (TX8 2).1 (TX8 2).2.1 (TX8 2).2.2.1) (gj_X8_forgetNumbers_0 _ (gp_1 gp_h))
  have lk94 := hts (.fieldLink RX8 94 (TX8 3).1 (TX8 3).2.1 (TX8 3).2.2.1) (gj_X8_forgetNumbers_0 _ (gp_h))
  have hc0 : cnt 0 = 1 := hFx.at 0 1 (by decide)
  have hc2 : cnt 2 = 1 := hFx.at 2 1 (by decide)
  have hc15 : cnt 15 = 30 := hFx.at 15 30 (by decide)
  have hl : lv_has ls 2 [(0, .ref (ad 0 0))] := hl
  have ftc : 0 ≤ X 0 0 3 ∧ X 0 0 3 ≤ 30 := hR 0 0 3
  have fty : 0 ≤ X 0 0 1 ∧ X 0 0 1 ≤ 8 := hR 0 0 1
  have hct : cnt 19 = X 0 0 1 := hCI.2.2.2.1.1
  have hfj : 0 ≤ X 29 0 3 ∧ X 29 0 3 ≤ 4 := hR 29 0 3
  have hfn : 0 ≤ X 29 0 1 ∧ X 29 0 1 ≤ 80 := hR 29 0 1
  refine lv_iconst (v := jI 0) hx hb dX8_forgetNumbers_0 rfl ?_
  refine lv_istore_n (lv' := [(1, .int (jI 0)), (0, .ref (ad 0 0))]) hx hb dX8_forgetNumbers_1 rfl hl (by decide) rfl (fun ls hl => ?_)
  have lp2 : ∀ (nn : Nat) (x : Int) (Xa : Nat → Int → Int → Int) (H : Heap) (locs : List Loc) (ls : Array Slot), (30 - x) < (nn : Int) → (Rng Xa) → (Frm [1504, 2602] X Xa) → (0 ≤ x ∧ x ≤ 30) → (CInv cnt Xa Y ln) → (∀ y, 0 ≤ y → y < x → Xa 15 y 3 = -1) → (∀ y k w9, 0 ≤ y → y < x → 0 ≤ k → k < cFc X Y y → Y 17 y k = some w9 → Xa 26 w9 1 = -1) → wd D tc base (ad, cnt, Xa, Y, ln) H → va_S (frA base) s.heap H locs → lv_has ls 2 [(0, .ref (ad 0 0)), (1, .int (jI x))] → W p l e ({ frames := 1, cells := 0, slots := 0, locals := 21 } : Room) s m av9 below meth c H locs 0 0 Q9 (F0 m 2 ls []) := by
    intro nn
    induction nn with
    | zero => intro x Xa H locs ls hm hRXa hGXa hx1 hCIXa hfn9 hrw hw hS hl; exfalso; omega
    | succ nn ih2 =>
      intro x Xa H locs ls hm hRXa hGXa hx1 hCIXa hfn9 hrw hw hS hl
      have hFXa : Frm [1504, 2602] X Xa := Frm.tr Frm.rf (Frm.mono hGXa (by first | exact nls_of rfl | decide))
      refine lv_iload_n hx hb dX8_forgetNumbers_2 rfl (lv_at hl 1 rfl) ?_
      refine lv_aload_n hx hb dX8_forgetNumbers_3 rfl (lv_at hl 0 rfl) ?_
      refine x_geti (jz := 3) hx hb hf8 hw (by first | exact Int.le_refl 0 | omega) (by first | exact zlt hc0 | omega) sl_0_3 rfl lk94 dX8_forgetNumbers_4 ?_
      have e1 : Xa 0 0 3 = X 0 0 3 := by rw [hGXa 0 0 3 (show 4 ∉ [1504, 2602] by first | exact nlm_ni rfl | decide)]
      rw [e1]
      have f2 : 0 ≤ X 0 0 3 ∧ X 0 0 3 ≤ 30 := hR 0 0 3
      refine x_icmp_ge (tgt := 25) hx hb (by omega) (by omega) dX8_forgetNumbers_7 (by decide) (fun c3 => ?_) (fun c3 => ?_)
      · rw [hQ9]
        refine ret_v (mc := 0) (ms := 0) hx hb hr hlocks hw hS (by first | exact Nat.le_of_ble_eq_true rfl | omega) (by first | exact Nat.le_of_ble_eq_true rfl | omega) dX8_forgetNumbers_25 ?_
        exact ⟨Xa, rfl, hRXa, hFXa, hCIXa, by omega, (fun x9 a b => hfn9 x9 a (by omega)), (fun y k w9 a b c d e9 => hrw y k w9 a (by omega) c d e9)⟩
      · refine lv_aload_n hx hb dX8_forgetNumbers_10 rfl (lv_at hl 0 rfl) ?_
        refine x_geto hx hb hf8 hw (by first | exact Int.le_refl 0 | omega) (by first | exact zlt hc0 | omega) sl_0_2 lk17 dX8_forgetNumbers_11 ?_
        refine lv_iload_n hx hb dX8_forgetNumbers_14 rfl (lv_at hl 1 rfl) ?_
        refine x_aald hx hb hK.1 hw (by first | exact Int.le_refl 0 | omega) (by first | exact zlt hc2 | omega) ar_2 rfl (len_E ar_2 (by first | exact Nat.ne_of_beq_eq_false rfl | decide)) (by omega) (by omega) (by omega) dX8_forgetNumbers_15 (fun y4 => ?_) (fun r5 y4 gr5 lr5 => ?_)
        · exfalso
          have h9 := hCI.1 x (by omega) (by omega); rw [h9] at y4; cases y4
        · have er5 : r5 = x := by have h9 := hCI.1 x (by omega) (by omega); rw [h9] at y4; cases y4; rfl
          rw [er5]
          have e6 : Xa 0 0 3 = X 0 0 3 := by rw [hGXa 0 0 3 (show 4 ∉ [1504, 2602] by first | exact nlm_ni rfl | decide)]
          refine gos_v (run_V (As := []) (rest := []) hx hb hml hown hts (c_X6_forgetNumbers l D tc base ad cnt Xa Y ln hRXa hFx hLn hCIXa x (by omega) (by simp only [e6]; omega)) (cwV 0 hts gX8_forgetNumbers_X6_forgetNumbers rfl rfl rfl (by first | exact hd_X6_forgetNumbers | decide +kernel) ⟨Nat.le_of_ble_eq_true rfl, Nat.le_of_ble_eq_true rfl⟩) hK hw (by first | exact Int.le_refl 0 | omega) (by first | exact zlt hc15 | omega) sl_15_0 rfl rfl hl.1 rfl (Nat.le_of_ble_eq_true rfl) dX8_forgetNumbers_16 ⟨Nat.le_of_ble_eq_true rfl, Nat.le_of_ble_eq_true rfl⟩) hS (fun u8 H locs p9 hw hS => ?_)
          obtain ⟨X10, eu8, hRX10, hG11, hCIX10, p9, hfsX10, hfoX10, hfrX10, hfmX10⟩ := p9
          subst eu8
          have hFX10 : Frm [1504, 2602] X X10 := Frm.tr hFXa (Frm.mono hG11 (by first | exact nls_of rfl | decide))
          refine lv_iinc (v := jI (x + 1)) (lv' := [(1, .int (jI (x + 1))), (0, .ref (ad 0 0))]) hx hb dX8_forgetNumbers_19 hl (k := 1) rfl (jI_add _ _) (by decide) rfl (fun ls hl => ?_)
          refine lv_goto (tgt := 2) hx hb dX8_forgetNumbers_22 (by decide) ?_
          have q12 : Frm [1504, 2602] X Xa := Frm.tr Frm.rf (Frm.mono hGXa (by first | exact nls_of rfl | decide))
          have q13 : Frm [1504, 2602] X X10 := Frm.tr q12 (Frm.mono hG11 (by first | exact nls_of rfl | decide))
          exact ih2 (x + 1) X10 _ _ _ (by omega) hRX10 q13 (by omega) (hCIX10) (fun y a b => if hy : y = x then (by rw [hy]; exact hfsX10) else (by rw [hfoX10 y hy]; exact hfn9 y a (by omega))) (fun y k w9 a b c d e9 => if hy : y = x then (by rw [hy] at d e9; exact hfrX10 k c (by have h8 := d; unfold cFc at h8; rw [hGXa 19 (tyo (Y 15 x 0)) 1 (show 1902 ∉ [1504, 2602] by first | exact nlm_ni rfl | decide)]; exact h8) w9 e9) else hfmX10 w9 (hrw y k w9 a (by omega) c d e9)) hw hS (lv_sub hl [1, 0] rfl)
  exact lp2 (30 - 0 : Int).toNat.succ 0 X _ _ _ (by omega) hR Frm.rf (by omega) (hCI) (fun y a b => by omega) (fun y k w9 a b => by omega) hw hS (lv_sub hl [1, 0] rfl)
end
section
/-! what has been recorded: each thing once, with a number -/
def rcOK (X : Nat → Int → Int → Int) (Y : Nat → Int → Int → Option Int) (g : Int) : Prop := (∀ r, 0 ≤ r → r < X 7 g 0 → ∃ x, Y 5 0 r = some x ∧ 0 ≤ x ∧ x < X 0 0 3 ∧ 0 ≤ X 15 x 3) ∧ ∀ r q x, 0 ≤ r → r < X 7 g 0 → 0 ≤ q → q < X 7 g 0 → Y 5 0 r = some x → Y 5 0 q = some x → r = q
theorem rcOK.room {X : Nat → Int → Int → Int} {Y : Nat → Int → Int → Option Int} {g x : Int} (h : rcOK X Y g) (hR : Rng X) (h0 : 0 ≤ x) (hx : x < X 0 0 3) (hn : X 15 x 3 < 0) : X 7 g 0 ≤ 29 := by
  have h1 : 0 ≤ X 7 g 0 ∧ X 7 g 0 ≤ 30 := hR 7 g 0
  have h2 : 0 ≤ X 0 0 3 ∧ X 0 0 3 ≤ 30 := hR 0 0 3
  have hat : ∀ r : Nat, (r : Int) < X 7 g 0 → ∃ y, Y 5 0 r = some y ∧ 0 ≤ y ∧ y < X 0 0 3 ∧ 0 ≤ X 15 y 3 := fun r hr => h.1 r (by omega) hr
  have h3 := pgn2 ((X 7 g 0).toNat + 1) (fun r => if (r : Int) < X 7 g 0 then (Y 5 0 r).getD 0 else x) 30 (fun r hr => by
    split
    · rename_i hc
      obtain ⟨y, e, y0, y1, -⟩ := hat r hc
      rw [e, Option.getD_some]
      omega
    · omega) (fun r q hr hq e => by
    split at e <;> split at e
    · rename_i hc hd
      obtain ⟨y, e1, -⟩ := hat r hc
      obtain ⟨y', e2, -⟩ := hat q hd
      rw [e1, e2, Option.getD_some, Option.getD_some] at e
      subst e
      have := h.2 r q y (by omega) hc (by omega) hd e1 e2
      omega
    · rename_i hc hd
      obtain ⟨y, e1, -, -, y3⟩ := hat r hc
      rw [e1, Option.getD_some] at e
      subst e
      omega
    · rename_i hc hd
      obtain ⟨y, e1, -, -, y3⟩ := hat q hd
      rw [e1, Option.getD_some] at e
      subst e
      omega
    · omega)
  omega
section RC
variable {M N : List Nat} {X X1 : Nat → Int → Int → Int} {Y Y1 : Nat → Int → Int → Option Int} {g x : Int}
theorem rcOK.frm (h : rcOK X Y g) (hF : Frm M X X1) (hH : Frm N Y Y1) (hd : ∀ c ∈ [701, 4, 1504], c ∉ M) (he : 500 ∉ N) : rcOK X1 Y1 g := by
  have a1 : X1 7 g 0 = X 7 g 0 := hF 7 g 0 (hd 701 (by decide))
  have a2 : X1 0 0 3 = X 0 0 3 := hF 0 0 3 (hd 4 (by decide))
  have a3 : ∀ i, X1 15 i 3 = X 15 i 3 := fun i => hF 15 i 3 (hd 1504 (by decide))
  have b1 : ∀ j, Y1 5 0 j = Y 5 0 j := fun j => hH 5 0 j he
  unfold rcOK at *
  simp only [a1, a2, a3, b1]
  exact h
theorem rcOK.nil (h : X 7 g 0 = 0) : rcOK X Y g := ⟨fun r h0 h1 => by omega, fun r q x h0 h1 => by omega⟩
theorem rcOK.push (h : rcOK X Y g) (h0 : 0 ≤ x ∧ x < X 0 0 3) (hn : X 15 x 3 < 0) (hp : 0 ≤ X 7 g 0) (e1 : X1 7 g 0 = X 7 g 0 + 1) (e2 : X1 0 0 3 = X 0 0 3) (e3 : X1 15 x 3 = X 7 g 0) (e4 : ∀ i, i ≠ x → X1 15 i 3 = X 15 i 3) (e5 : Y1 5 0 (X 7 g 0) = some x) (e6 : ∀ j, j ≠ X 7 g 0 → Y1 5 0 j = Y 5 0 j) : rcOK X1 Y1 g := by
  have hne : ∀ r y, 0 ≤ r → r < X 7 g 0 → Y 5 0 r = some y → y ≠ x := fun r y r0 r1 e q => by
    obtain ⟨y', f1, f2, f3, f4⟩ := h.1 r r0 r1
    rw [f1] at e
    cases e
    rw [q] at f4
    omega
  refine ⟨fun r r0 r1 => ?_, fun r q y r0 r1 q0 q1 f1 f2 => ?_⟩
  · by_cases hr : r = X 7 g 0
    · rw [hr]; exact ⟨x, e5, h0.1, by omega, by omega⟩
    · obtain ⟨y, f1, f2, f3, f4⟩ := h.1 r r0 (by omega)
      exact ⟨y, by rw [e6 r hr]; exact f1, f2, by omega, by rw [e4 y (hne r y r0 (by omega) f1)]; exact f4⟩
  · by_cases hr : r = X 7 g 0 <;> by_cases hq : q = X 7 g 0
    · omega
    · rw [hr, e5] at f1
      cases f1
      rw [e6 q hq] at f2
      exact absurd rfl (hne q x q0 (by omega) f2)
    · rw [hq, e5] at f2
      cases f2
      rw [e6 r hr] at f1
      exact absurd rfl (hne r x r0 (by omega) f1)
    · rw [e6 r hr] at f1
      rw [e6 q hq] at f2
      exact h.2 r q y r0 (by omega) q0 (by omega) f1 f2
end RC
theorem mmaxZ {a b : Int} (ha : -2147483648 ≤ a ∧ a ≤ 2147483647) (hb : -2147483648 ≤ b ∧ b ≤ 2147483647) : (if jI a < jI b then jI b else jI a) = jI (if a < b then b else a) := by
  by_cases h : a < b
  · rw [if_pos ((jI_lt ha hb).mpr h), if_pos h]
  · rw [if_neg (fun q => h ((jI_lt ha hb).mp q)), if_neg h]
end
