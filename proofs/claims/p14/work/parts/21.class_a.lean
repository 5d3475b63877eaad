set_option maxHeartbeats 4000000 in
set_option maxRecDepth 100000 in
theorem c_X8_isBelow (l : Launch) (D : va_G) (tc : Nat → ClassId) (base : Nat) (ad : Nat → Int → Nat) (cnt : Nat → Int) (X : Nat → Int → Int → Int) (Y : Nat → Int → Int → Option Int) (ln : Int → Int) (a b : Int) (ha : -2147483648 ≤ a ∧ a ≤ 2147483647) (hb : -2147483648 ≤ b ∧ b ≤ 2147483647) : KI l D tc base yX8_isBelow wsX8_isBelow ({ frames := 0, cells := 0, slots := 0, locals := 0 } : Room) [.int (jI a), .int (jI b)] (ad, cnt, X, Y, ln) 0 0 (fun z u => u = (ad, cnt, X, Y, ln) ∧ ((z = 1 ∧ 0 ≤ a ∧ a < b) ∨ (z = 0 ∧ Hid (¬ (0 ≤ a ∧ a < b))))) := by
  refine K_of (cc := cX8_isBelow) (maxL := 2) (ret := (some .boolean)) (by decide) rfl (Nat.le_of_ble_eq_true rfl) ?_
  intro p e s m below meth c ls hx hb hr hml hown hts hlocks hl hK hw hS
  have hown : s.vm.findClass RX8 = some m.cls := hown
  obtain ⟨av9, hav9⟩ : ∃ a9 : Array Value, a9 = ([.int (jI a), .int (jI b)] : List Value).toArray := ⟨_, rfl⟩
  rw [← hav9] at hts ⊢
  obtain ⟨Q9, hQ9⟩ : ∃ q9Q : State → Prop, q9Q = MQ below (QI D tc base (fun z u => u = (ad, cnt, X, Y, ln) ∧ ((z = 1 ∧ 0 ≤ a ∧ a < b) ∨ (z = 0 ∧ Hid (¬ (0 ≤ a ∧ a < b)))))) av9 s 0 0 (frA base) := ⟨_, rfl⟩
  rw [← hQ9]
  have hl : lv_has ls 2 [(0, .int (jI a)), (1, .int (jI b))] := hl
  refine lv_iload_n hx hb dX8_isBelow_0 rfl (lv_at hl 0 rfl) ?_
  refine x_if_lt (tgt := 13) hx hb (by omega) dX8_isBelow_1 (by decide) (fun c1 => ?_) (fun c1 => ?_)
  · refine lv_iconst (v := jI 0) hx hb dX8_isBelow_13 rfl ?_
    rw [hQ9]
    refine ret_z (mc := 0) (ms := 0) hx hb hr hlocks hw hS (by omega) (by omega) dX8_isBelow_14 (by omega) ?_
    exact ⟨rfl, Or.inr ⟨rfl, (by first | omega | (intro q; first | omega | (simp only [Hid] at *; omega)))⟩⟩
  · refine lv_iload_n hx hb dX8_isBelow_4 rfl (lv_at hl 0 rfl) ?_
    refine lv_iload_n hx hb dX8_isBelow_5 rfl (lv_at hl 1 rfl) ?_
    refine x_icmp_ge (tgt := 13) hx hb (by omega) (by omega) dX8_isBelow_6 (by decide) (fun c2 => ?_) (fun c2 => ?_)
    · refine lv_iconst (v := jI 0) hx hb dX8_isBelow_13 rfl ?_
      rw [hQ9]
      refine ret_z (mc := 0) (ms := 0) hx hb hr hlocks hw hS (by omega) (by omega) dX8_isBelow_14 (by omega) ?_
      exact ⟨rfl, Or.inr ⟨rfl, (by first | omega | (intro q; first | omega | (simp only [Hid] at *; omega)))⟩⟩
    · refine lv_iconst (v := jI 1) hx hb dX8_isBelow_9 rfl ?_
      refine lv_goto (tgt := 14) hx hb dX8_isBelow_10 (by decide) ?_
      rw [hQ9]
      refine ret_z (mc := 0) (ms := 0) hx hb hr hlocks hw hS (by omega) (by omega) dX8_isBelow_14 (by omega) ?_
      exact ⟨rfl, Or.inl ⟨rfl, by omega⟩⟩

set_option maxHeartbeats 4000000 in
set_option maxRecDepth 100000 in
theorem c_X8_isRowLane (l : Launch) (D : va_G) (tc : Nat → ClassId) (base : Nat) (ad : Nat → Int → Nat) (cnt : Nat → Int) (X : Nat → Int → Int → Int) (Y : Nat → Int → Int → Option Int) (ln : Int → Int) (a : Int) (ha : -2147483648 ≤ a ∧ a ≤ 2147483647) : KI l D tc base yX8_isRowLane wsX8_isRowLane ({ frames := 0, cells := 0, slots := 0, locals := 0 } : Room) [.int (jI a)] (ad, cnt, X, Y, ln) 0 0 (fun z u => u = (ad, cnt, X, Y, ln) ∧ ((z = 1 ∧ 3 ≤ a) ∨ (z = 0 ∧ Hid (¬ (3 ≤ a))))) := by
  refine K_of (cc := cX8_isRowLane) (maxL := 1) (ret := (some .boolean)) (by decide) rfl (Nat.le_of_ble_eq_true rfl) ?_
  intro p e s m below meth c ls hx hb hr hml hown hts hlocks hl hK hw hS
  have hown : s.vm.findClass RX8 = some m.cls := hown
  obtain ⟨av9, hav9⟩ : ∃ a9 : Array Value, a9 = ([.int (jI a)] : List Value).toArray := ⟨_, rfl⟩
  rw [← hav9] at hts ⊢
  obtain ⟨Q9, hQ9⟩ : ∃ q9Q : State → Prop, q9Q = MQ below (QI D tc base (fun z u => u = (ad, cnt, X, Y, ln) ∧ ((z = 1 ∧ 3 ≤ a) ∨ (z = 0 ∧ Hid (¬ (3 ≤ a)))))) av9 s 0 0 (frA base) := ⟨_, rfl⟩
  rw [← hQ9]
  have hl : lv_has ls 1 [(0, .int (jI a))] := hl
  refine lv_iload_n hx hb dX8_isRowLane_0 rfl (lv_at hl 0 rfl) ?_
  refine lv_iconst (v := jI 3) hx hb dX8_isRowLane_1 rfl ?_
  refine x_icmp_lt (tgt := 9) hx hb (by omega) (by omega) dX8_isRowLane_2 (by decide) (fun c1 => ?_) (fun c1 => ?_)
  · refine lv_iconst (v := jI 0) hx hb dX8_isRowLane_9 rfl ?_
    rw [hQ9]
    refine ret_z (mc := 0) (ms := 0) hx hb hr hlocks hw hS (by omega) (by omega) dX8_isRowLane_10 (by omega) ?_
    exact ⟨rfl, Or.inr ⟨rfl, (by first | omega | (intro q; first | omega | (simp only [Hid] at *; omega)))⟩⟩
  · refine lv_iconst (v := jI 1) hx hb dX8_isRowLane_5 rfl ?_
    refine lv_goto (tgt := 10) hx hb dX8_isRowLane_6 (by decide) ?_
    rw [hQ9]
    refine ret_z (mc := 0) (ms := 0) hx hb hr hlocks hw hS (by omega) (by omega) dX8_isRowLane_10 (by omega) ?_
    exact ⟨rfl, Or.inl ⟨rfl, by omega⟩⟩

set_option maxHeartbeats 4000000 in
set_option maxRecDepth 100000 in
theorem c_X8_failed (l : Launch) (D : va_G) (tc : Nat → ClassId) (base : Nat) (ad : Nat → Int → Nat) (cnt : Nat → Int) (X : Nat → Int → Int → Int) (Y : Nat → Int → Int → Option Int) (ln : Int → Int) (a : Int) (ha : -100 ≤ a ∧ a ≤ 100) : KI l D tc base yX8_failed wsX8_failed ({ frames := 0, cells := 0, slots := 0, locals := 0 } : Room) [.int (jI a)] (ad, cnt, X, Y, ln) 0 0 (fun z u => u = (ad, cnt, X, Y, ln) ∧ z = -10 - a) := by
  refine K_of (cc := cX8_failed) (maxL := 1) (ret := (some .int)) (by decide) rfl (Nat.le_of_ble_eq_true rfl) ?_
  intro p e s m below meth c ls hx hb hr hml hown hts hlocks hl hK hw hS
  have hown : s.vm.findClass RX8 = some m.cls := hown
  obtain ⟨av9, hav9⟩ : ∃ a9 : Array Value, a9 = ([.int (jI a)] : List Value).toArray := ⟨_, rfl⟩
  rw [← hav9] at hts ⊢
  obtain ⟨Q9, hQ9⟩ : ∃ q9Q : State → Prop, q9Q = MQ below (QI D tc base (fun z u => u = (ad, cnt, X, Y, ln) ∧ z = -10 - a)) av9 s 0 0 (frA base) := ⟨_, rfl⟩
  rw [← hQ9]
  have hl : lv_has ls 1 [(0, .int (jI a))] := hl
  refine lv_bipush (v := jI (-10)) hx hb dX8_failed_0 (by decide) ?_
  refine lv_iload_n hx hb dX8_failed_2 rfl (lv_at hl 0 rfl) ?_
  refine x_isub hx hb dX8_failed_3 ?_
  rw [hQ9]
  refine ret_i (mc := 0) (ms := 0) hx hb hr hlocks hw hS (by omega) (by omega) dX8_failed_4 ?_
  exact ⟨rfl, rfl⟩

set_option maxHeartbeats 4000000 in
set_option maxRecDepth 100000 in
theorem c_X8_isWordInUse (l : Launch) (D : va_G) (tc : Nat → ClassId) (base : Nat) (ad : Nat → Int → Nat) (cnt : Nat → Int) (X : Nat → Int → Int → Int) (Y : Nat → Int → Int → Option Int) (ln : Int → Int) (hR : Rng X) (hFx : Fx cnt) (hLn : LnOK ln) (v : Int) (hv : -9223372036854775808 ≤ v ∧ v ≤ 9223372036854775807) : KI l D tc base yX8_isWordInUse wsX8_isWordInUse ({ frames := 0, cells := 0, slots := 0, locals := 0 } : Room) [.ref (ad 0 0), .long (jL v)] (ad, cnt, X, Y, ln) 0 0 (fun z u => u = (ad, cnt, X, Y, ln) ∧ ((z = 1 ∧ 0 ≤ v ∧ v < 16 ∧ X 3 0 v = 1) ∨ (z = 0 ∧ Hid (¬ (0 ≤ v ∧ v < 16 ∧ X 3 0 v = 1))))) := by
  refine K_of (cc := cX8_isWordInUse) (maxL := 3) (ret := (some .boolean)) (by decide) rfl (Nat.le_of_ble_eq_true rfl) ?_
  intro p e s m below meth c ls hx hb hr hml hown hts hlocks hl hK hw hS
  have hown : s.vm.findClass RX8 = some m.cls := hown
  obtain ⟨av9, hav9⟩ : ∃ a9 : Array Value, a9 = ([.ref (ad 0 0), .long (jL v)] : List Value).toArray := ⟨_, rfl⟩
  rw [← hav9] at hts ⊢
  obtain ⟨Q9, hQ9⟩ : ∃ q9Q : State → Prop, q9Q = MQ below (QI D tc base (fun z u => u = (ad, cnt, X, Y, ln) ∧ ((z = 1 ∧ 0 ≤ v ∧ v < 16 ∧ X 3 0 v = 1) ∨ (z = 0 ∧ Hid (¬ (0 ≤ v ∧ v < 16 ∧ X 3 0 v = 1)))))) av9 s 0 0 (frA base) := ⟨_, rfl⟩
  rw [← hQ9]
  have hi8 : ∀ w ∈ wsX80, w ∈ wsX8_isWordInUse := fun w h => List.mem_cons_of_mem _ (List.mem_append_right _ h)
  have hf8 : fctx s m _ RX8 wsX8_isWordInUse D tc RX8 TX8 12 8 := ⟨hts, hi8, hown, hK.1, rfl⟩
  have lk21 := hts (.fieldLink RX8 21 (TX8 4).1 (TX8 4).2.1 (TX8 4).2.2.1) (gj_X8_isWordInUse_0 _ (gp_1 gp_h))
  have hc0 : cnt 0 = 1 := hFx.at 0 1 (by decide)
  have hc3 : cnt 3 = 1 := hFx.at 3 1 (by decide)
  have hl : lv_has ls 3 [(0, .ref (ad 0 0)), (1, .long (jL v))] := hl
  refine lv_lload_n hx hb dX8_isWordInUse_0 rfl (lv_at hl 1 rfl) ?_
  refine lv_lconst (v := jL 0) hx hb dX8_isWordInUse_1 (by decide) ?_
  refine x_lcmp hx hb (by omega) (by omega) dX8_isWordInUse_2 ?_
  obtain ⟨z1, ez1⟩ : ∃ y : Int, y = cmpZ v 0 := ⟨_, rfl⟩
  rw [← ez1]
  have gz1 : (z1 < 0 ↔ (v : Int) < 0) ∧ (z1 = 0 ↔ (v : Int) = 0) ∧ -1 ≤ z1 ∧ z1 ≤ 1 := by rw [ez1]; exact ⟨cmpZ_lt, cmpZ_eq, (cmpZ_r _ _).1, (cmpZ_r _ _).2⟩
  clear ez1
  refine x_if_lt (tgt := 28) hx hb (by omega) dX8_isWordInUse_3 (by decide) (fun c2 => ?_) (fun c2 => ?_)
  · refine lv_iconst (v := jI 0) hx hb dX8_isWordInUse_28 rfl ?_
    rw [hQ9]
    refine ret_z (mc := 0) (ms := 0) hx hb hr hlocks hw hS (by omega) (by omega) dX8_isWordInUse_29 (by omega) ?_
    exact ⟨rfl, Or.inr ⟨rfl, (by first | omega | (intro q; first | omega | (simp only [Hid] at *; omega)))⟩⟩
  · refine lv_lload_n hx hb dX8_isWordInUse_6 rfl (lv_at hl 1 rfl) ?_
    refine lv_ldc2 (v := jL 16) hx hb hown (hts (.constantLong RX8 275 (16)) (by decide +kernel)) dX8_isWordInUse_7 ?_
    refine x_lcmp hx hb (by omega) (by omega) dX8_isWordInUse_10 ?_
    obtain ⟨z3, ez3⟩ : ∃ y : Int, y = cmpZ v 16 := ⟨_, rfl⟩
    rw [← ez3]
    have gz3 : (z3 < 0 ↔ (v : Int) < 16) ∧ (z3 = 0 ↔ (v : Int) = 16) ∧ -1 ≤ z3 ∧ z3 ≤ 1 := by rw [ez3]; exact ⟨cmpZ_lt, cmpZ_eq, (cmpZ_r _ _).1, (cmpZ_r _ _).2⟩
    clear ez3
    refine x_if_ge (tgt := 28) hx hb (by omega) dX8_isWordInUse_11 (by decide) (fun c4 => ?_) (fun c4 => ?_)
    · refine lv_iconst (v := jI 0) hx hb dX8_isWordInUse_28 rfl ?_
      rw [hQ9]
      refine ret_z (mc := 0) (ms := 0) hx hb hr hlocks hw hS (by omega) (by omega) dX8_isWordInUse_29 (by omega) ?_
      exact ⟨rfl, Or.inr ⟨rfl, (by first | omega | (intro q; first | omega | (simp only [Hid] at *; omega)))⟩⟩
    · refine lv_aload_n hx hb dX8_isWordInUse_14 rfl (lv_at hl 0 rfl) ?_
      refine x_geto hx hb hf8 hw (by first | exact Int.le_refl 0 | omega) (by first | exact zlt hc0 | omega) sl_0_4 lk21 dX8_isWordInUse_15 ?_
      refine lv_lload_n hx hb dX8_isWordInUse_18 rfl (lv_at hl 1 rfl) ?_
      refine x_l2i hx hb dX8_isWordInUse_19 ?_
      refine x_zald hx hb hK.1 hw (by first | exact Int.le_refl 0 | omega) (by first | exact zlt hc3 | omega) ar_3 (len_E ar_3 (by decide)) (by omega) (by omega) (by omega) dX8_isWordInUse_20 ?_
      have f5 : 0 ≤ X 3 0 v ∧ X 3 0 v ≤ 1 := hR 3 0 v
      refine x_if_eq (tgt := 28) hx hb (by omega) dX8_isWordInUse_21 (by decide) (fun c6 => ?_) (fun c6 => ?_)
      · refine lv_iconst (v := jI 0) hx hb dX8_isWordInUse_28 rfl ?_
        rw [hQ9]
        refine ret_z (mc := 0) (ms := 0) hx hb hr hlocks hw hS (by omega) (by omega) dX8_isWordInUse_29 (by omega) ?_
        exact ⟨rfl, Or.inr ⟨rfl, (by first | omega | (intro q; first | omega | (simp only [Hid] at *; omega)))⟩⟩
      · refine lv_iconst (v := jI 1) hx hb dX8_isWordInUse_24 rfl ?_
        refine lv_goto (tgt := 29) hx hb dX8_isWordInUse_25 (by decide) ?_
        rw [hQ9]
        refine ret_z (mc := 0) (ms := 0) hx hb hr hlocks hw hS (by omega) (by omega) dX8_isWordInUse_29 (by omega) ?_
        exact ⟨rfl, Or.inl ⟨rfl, by omega⟩⟩

set_option maxHeartbeats 4000000 in
set_option maxRecDepth 100000 in
theorem c_X7_hasField (l : Launch) (D : va_G) (tc : Nat → ClassId) (base : Nat) (ad : Nat → Int → Nat) (cnt : Nat → Int) (X : Nat → Int → Int → Int) (Y : Nat → Int → Int → Option Int) (ln : Int → Int) (hR : Rng X) (hFx : Fx cnt) (hLn : LnOK ln) (q k : Int) (hq : 0 ≤ q ∧ q < cnt 19) (hk : -2147483648 ≤ k ∧ k ≤ 2147483647) : KI l D tc base yX7_hasField wsX7_hasField ({ frames := 1, cells := 0, slots := 0, locals := 21 } : Room) [.ref (ad 19 q), .int (jI k)] (ad, cnt, X, Y, ln) 0 0 (fun z u => u = (ad, cnt, X, Y, ln) ∧ ((z = 1 ∧ 0 ≤ k ∧ k < X 19 q 1 ∧ k ≤ 4) ∨ (z = 0 ∧ Hid (¬ (0 ≤ k ∧ k < X 19 q 1))))) := by
  refine K_of (cc := cX7_hasField) (maxL := 2) (ret := (some .boolean)) (by decide) rfl (Nat.le_of_ble_eq_true rfl) ?_
  intro p e s m below meth c ls hx hb hr hml hown hts hlocks hl hK hw hS
  have hown : s.vm.findClass RX7 = some m.cls := hown
  obtain ⟨av9, hav9⟩ : ∃ a9 : Array Value, a9 = ([.ref (ad 19 q), .int (jI k)] : List Value).toArray := ⟨_, rfl⟩
  rw [← hav9] at hts ⊢
  obtain ⟨Q9, hQ9⟩ : ∃ q9Q : State → Prop, q9Q = MQ below (QI D tc base (fun z u => u = (ad, cnt, X, Y, ln) ∧ ((z = 1 ∧ 0 ≤ k ∧ k < X 19 q 1 ∧ k ≤ 4) ∨ (z = 0 ∧ Hid (¬ (0 ≤ k ∧ k < X 19 q 1)))))) av9 s 0 0 (frA base) := ⟨_, rfl⟩
  rw [← hQ9]
  have hi7 : ∀ w ∈ wsX70, w ∈ wsX7_hasField := fun w h => List.mem_cons_of_mem _ (List.mem_append_right _ h)
  have hf7 : fctx s m _ RX7 wsX7_hasField D tc RX7 TX7 8 7 := ⟨hts, hi7, hown, hK.1, rfl⟩
  have lk36 := hts (.fieldLink RX7 36 (TX7 1).1 (TX7 1).2.1 (TX7 1).2.2.1) (gj_X7_hasField_0 _ (gp_h))
  have hl : lv_has ls 2 [(0, .ref (ad 19 q)), (1, .int (jI k))] := hl
  have ffc : 0 ≤ X 19 q 1 ∧ X 19 q 1 ≤ 5 := hR 19 q 1
  refine lv_iload_n hx hb dX7_hasField_0 rfl (lv_at hl 1 rfl) ?_
  refine lv_aload_n hx hb dX7_hasField_1 rfl (lv_at hl 0 rfl) ?_
  refine x_geti (jz := 1) hx hb hf7 hw (by omega) (by omega) sl_19_1 rfl lk36 dX7_hasField_2 ?_
  have f1 : 0 ≤ X 19 q 1 ∧ X 19 q 1 ≤ 5 := hR 19 q 1
  refine gos_i (run_SN (As := [.int (jI k), .int (jI (X 19 q 1))]) (rest := []) (host := RX8) hx hb hml hown hts (c_X8_isBelow l D tc base ad cnt X Y ln k (X 19 q 1) (by omega) (by omega)) ⟨va_cnB 2 hts gX7_hasField_X8_isBelow_n39 rfl rfl rfl hK.2.1 (hts (.initialized RX8) (by decide +kernel)) (by decide +kernel) ⟨Nat.le_of_ble_eq_true rfl, Nat.le_of_ble_eq_true rfl⟩, hts (.static yX8_isBelow) (by decide +kernel), trivial⟩ hK hw rfl hl.1 rfl (Nat.le_of_ble_eq_true rfl) dX7_hasField_5 ⟨Nat.le_of_ble_eq_true rfl, Nat.le_of_ble_eq_true rfl⟩) hS (fun z2 u3 H locs p4 hw hS => ?_)
  obtain ⟨eu3, p4⟩ := p4
  subst eu3
  rcases p4 with ⟨ez2, p4⟩ | ⟨ez2, p4⟩
  · subst ez2
    rw [hQ9]
    refine ret_z (mc := 0) (ms := 0) hx hb hr hlocks hw hS (by omega) (by omega) dX7_hasField_8 (by omega) ?_
    exact ⟨rfl, Or.inl ⟨rfl, by omega⟩⟩
  · subst ez2
    rw [hQ9]
    refine ret_z (mc := 0) (ms := 0) hx hb hr hlocks hw hS (by omega) (by omega) dX7_hasField_8 (by omega) ?_
    exact ⟨rfl, Or.inr ⟨rfl, (by first | omega | (intro q; first | omega | (simp only [Hid] at *; omega)))⟩⟩

set_option maxHeartbeats 4000000 in
set_option maxRecDepth 100000 in
theorem c_X7_hasLane (l : Launch) (D : va_G) (tc : Nat → ClassId) (base : Nat) (ad : Nat → Int → Nat) (cnt : Nat → Int) (X : Nat → Int → Int → Int) (Y : Nat → Int → Int → Option Int) (ln : Int → Int) (hR : Rng X) (hFx : Fx cnt) (hLn : LnOK ln) (q k lane : Int) (hq : 0 ≤ q ∧ q < cnt 19) (hk : -2147483648 ≤ k ∧ k ≤ 2147483647) (hlane : -2147483648 ≤ lane ∧ lane ≤ 2147483647) : KI l D tc base yX7_hasLane wsX7_hasLane ({ frames := 2, cells := 0, slots := 0, locals := 42 } : Room) [.ref (ad 19 q), .int (jI k), .int (jI lane)] (ad, cnt, X, Y, ln) 0 0 (fun z u => u = (ad, cnt, X, Y, ln) ∧ ((z = 1 ∧ 0 ≤ k ∧ k < X 19 q 1 ∧ k ≤ 4 ∧ X 21 q k = lane) ∨ (z = 0 ∧ Hid (¬ (0 ≤ k ∧ k < X 19 q 1 ∧ X 21 q k = lane))))) := by
  refine K_of (cc := cX7_hasLane) (maxL := 3) (ret := (some .boolean)) (by decide) rfl (Nat.le_of_ble_eq_true rfl) ?_
  intro p e s m below meth c ls hx hb hr hml hown hts hlocks hl hK hw hS
  have hown : s.vm.findClass RX7 = some m.cls := hown
  obtain ⟨av9, hav9⟩ : ∃ a9 : Array Value, a9 = ([.ref (ad 19 q), .int (jI k), .int (jI lane)] : List Value).toArray := ⟨_, rfl⟩
  rw [← hav9] at hts ⊢
  obtain ⟨Q9, hQ9⟩ : ∃ q9Q : State → Prop, q9Q = MQ below (QI D tc base (fun z u => u = (ad, cnt, X, Y, ln) ∧ ((z = 1 ∧ 0 ≤ k ∧ k < X 19 q 1 ∧ k ≤ 4 ∧ X 21 q k = lane) ∨ (z = 0 ∧ Hid (¬ (0 ≤ k ∧ k < X 19 q 1 ∧ X 21 q k = lane)))))) av9 s 0 0 (frA base) := ⟨_, rfl⟩
  rw [← hQ9]
  have hi7 : ∀ w ∈ wsX70, w ∈ wsX7_hasLane := fun w h => List.mem_cons_of_mem _ (List.mem_append_right _ h)
  have hf7 : fctx s m _ RX7 wsX7_hasLane D tc RX7 TX7 8 7 := ⟨hts, hi7, hown, hK.1, rfl⟩
  have lk15 := hts (.fieldLink RX7 15 (TX7 3).1 (TX7 3).2.1 (TX7 3).2.2.1) (gj_X7_hasLane_0 _ (gp_h))
  have hc21 : cnt 21 = cnt 19 := hFx.2.1 21 (by decide)
  have hl : lv_has ls 3 [(0, .ref (ad 19 q)), (1, .int (jI k)), (2, .int (jI lane))] := hl
  refine lv_aload_n hx hb dX7_hasLane_0 rfl (lv_at hl 0 rfl) ?_
  refine lv_iload_n hx hb dX7_hasLane_1 rfl (lv_at hl 1 rfl) ?_
  refine gos_i (run_V (As := [.int (jI k)]) (rest := []) hx hb hml hown hts (c_X7_hasField l D tc base ad cnt X Y ln hR hFx hLn q k (by omega) (by omega)) (cwV 1 hts gX7_hasLane_X7_hasField rfl rfl rfl (by decide +kernel) ⟨Nat.le_of_ble_eq_true rfl, Nat.le_of_ble_eq_true rfl⟩) hK hw (by omega) (by omega) sl_19_0 rfl rfl hl.1 rfl (Nat.le_of_ble_eq_true rfl) dX7_hasLane_2 ⟨Nat.le_of_ble_eq_true rfl, Nat.le_of_ble_eq_true rfl⟩) hS (fun z1 u2 H locs p3 hw hS => ?_)
  obtain ⟨eu2, p3⟩ := p3
  subst eu2
  rcases p3 with ⟨ez1, p3⟩ | ⟨ez1, p3⟩
  · subst ez1
    refine x_if_eqF (tgt := 22) hx hb (by omega) (by decide) dX7_hasLane_5 (by decide) ?_
    refine lv_aload_n hx hb dX7_hasLane_8 rfl (lv_at hl 0 rfl) ?_
    refine x_geto hx hb hf7 hw (by omega) (by omega) sl_19_3 lk15 dX7_hasLane_9 ?_
    refine lv_iload_n hx hb dX7_hasLane_12 rfl (lv_at hl 1 rfl) ?_
    refine x_iald hx hb hK.1 hw (by omega) (by omega) ar_21 (len_E ar_21 (by decide)) (by omega) (by omega) (by omega) dX7_hasLane_13 ?_
    have f4 : 0 ≤ X 21 q k ∧ X 21 q k ≤ 5 := hR 21 q k
    refine lv_iload_n hx hb dX7_hasLane_14 rfl (lv_at hl 2 rfl) ?_
    refine x_icmp_ne (tgt := 22) hx hb (by omega) (by omega) dX7_hasLane_15 (by decide) (fun c5 => ?_) (fun c5 => ?_)
    · refine lv_iconst (v := jI 0) hx hb dX7_hasLane_22 rfl ?_
      rw [hQ9]
      refine ret_z (mc := 0) (ms := 0) hx hb hr hlocks hw hS (by omega) (by omega) dX7_hasLane_23 (by omega) ?_
      exact ⟨rfl, Or.inr ⟨rfl, (by first | omega | (intro q; first | omega | (simp only [Hid] at *; omega)))⟩⟩
    · refine lv_iconst (v := jI 1) hx hb dX7_hasLane_18 rfl ?_
      refine lv_goto (tgt := 23) hx hb dX7_hasLane_19 (by decide) ?_
      rw [hQ9]
      refine ret_z (mc := 0) (ms := 0) hx hb hr hlocks hw hS (by omega) (by omega) dX7_hasLane_23 (by omega) ?_
      exact ⟨rfl, Or.inl ⟨rfl, by omega⟩⟩
  · subst ez1
    refine x_if_eqT (tgt := 22) hx hb (by omega) (by decide) dX7_hasLane_5 (by decide) ?_
    refine lv_iconst (v := jI 0) hx hb dX7_hasLane_22 rfl ?_
    rw [hQ9]
    refine ret_z (mc := 0) (ms := 0) hx hb hr hlocks hw hS (by omega) (by omega) dX7_hasLane_23 (by omega) ?_
    exact ⟨rfl, Or.inr ⟨rfl, (by first | omega | (intro q; first | omega | (simp only [Hid] at *; omega)))⟩⟩

set_option maxHeartbeats 4000000 in
set_option maxRecDepth 100000 in
theorem c_X7_hasRowLane (l : Launch) (D : va_G) (tc : Nat → ClassId) (base : Nat) (ad : Nat → Int → Nat) (cnt : Nat → Int) (X : Nat → Int → Int → Int) (Y : Nat → Int → Int → Option Int) (ln : Int → Int) (hR : Rng X) (hFx : Fx cnt) (hLn : LnOK ln) (q k : Int) (hq : 0 ≤ q ∧ q < cnt 19) (hk : -2147483648 ≤ k ∧ k ≤ 2147483647) : KI l D tc base yX7_hasRowLane wsX7_hasRowLane ({ frames := 2, cells := 0, slots := 0, locals := 42 } : Room) [.ref (ad 19 q), .int (jI k)] (ad, cnt, X, Y, ln) 0 0 (fun z u => u = (ad, cnt, X, Y, ln) ∧ ((z = 1 ∧ 0 ≤ k ∧ k < X 19 q 1 ∧ k ≤ 4 ∧ 3 ≤ X 21 q k) ∨ (z = 0 ∧ Hid (¬ (0 ≤ k ∧ k < X 19 q 1 ∧ 3 ≤ X 21 q k))))) := by
  refine K_of (cc := cX7_hasRowLane) (maxL := 2) (ret := (some .boolean)) (by decide) rfl (Nat.le_of_ble_eq_true rfl) ?_
  intro p e s m below meth c ls hx hb hr hml hown hts hlocks hl hK hw hS
  have hown : s.vm.findClass RX7 = some m.cls := hown
  obtain ⟨av9, hav9⟩ : ∃ a9 : Array Value, a9 = ([.ref (ad 19 q), .int (jI k)] : List Value).toArray := ⟨_, rfl⟩
  rw [← hav9] at hts ⊢
  obtain ⟨Q9, hQ9⟩ : ∃ q9Q : State → Prop, q9Q = MQ below (QI D tc base (fun z u => u = (ad, cnt, X, Y, ln) ∧ ((z = 1 ∧ 0 ≤ k ∧ k < X 19 q 1 ∧ k ≤ 4 ∧ 3 ≤ X 21 q k) ∨ (z = 0 ∧ Hid (¬ (0 ≤ k ∧ k < X 19 q 1 ∧ 3 ≤ X 21 q k)))))) av9 s 0 0 (frA base) := ⟨_, rfl⟩
  rw [← hQ9]
  have hi7 : ∀ w ∈ wsX70, w ∈ wsX7_hasRowLane := fun w h => List.mem_cons_of_mem _ (List.mem_append_right _ h)
  have hf7 : fctx s m _ RX7 wsX7_hasRowLane D tc RX7 TX7 8 7 := ⟨hts, hi7, hown, hK.1, rfl⟩
  have lk15 := hts (.fieldLink RX7 15 (TX7 3).1 (TX7 3).2.1 (TX7 3).2.2.1) (gj_X7_hasRowLane_0 _ (gp_h))
  have hc21 : cnt 21 = cnt 19 := hFx.2.1 21 (by decide)
  have hl : lv_has ls 2 [(0, .ref (ad 19 q)), (1, .int (jI k))] := hl
  refine lv_aload_n hx hb dX7_hasRowLane_0 rfl (lv_at hl 0 rfl) ?_
  refine lv_iload_n hx hb dX7_hasRowLane_1 rfl (lv_at hl 1 rfl) ?_
  refine gos_i (run_V (As := [.int (jI k)]) (rest := []) hx hb hml hown hts (c_X7_hasField l D tc base ad cnt X Y ln hR hFx hLn q k (by omega) (by omega)) (cwV 1 hts gX7_hasRowLane_X7_hasField rfl rfl rfl (by decide +kernel) ⟨Nat.le_of_ble_eq_true rfl, Nat.le_of_ble_eq_true rfl⟩) hK hw (by omega) (by omega) sl_19_0 rfl rfl hl.1 rfl (Nat.le_of_ble_eq_true rfl) dX7_hasRowLane_2 ⟨Nat.le_of_ble_eq_true rfl, Nat.le_of_ble_eq_true rfl⟩) hS (fun z1 u2 H locs p3 hw hS => ?_)
  obtain ⟨eu2, p3⟩ := p3
  subst eu2
  rcases p3 with ⟨ez1, p3⟩ | ⟨ez1, p3⟩
  · subst ez1
    refine x_if_eqF (tgt := 24) hx hb (by omega) (by decide) dX7_hasRowLane_5 (by decide) ?_
    refine lv_aload_n hx hb dX7_hasRowLane_8 rfl (lv_at hl 0 rfl) ?_
    refine x_geto hx hb hf7 hw (by omega) (by omega) sl_19_3 lk15 dX7_hasRowLane_9 ?_
    refine lv_iload_n hx hb dX7_hasRowLane_12 rfl (lv_at hl 1 rfl) ?_
    refine x_iald hx hb hK.1 hw (by omega) (by omega) ar_21 (len_E ar_21 (by decide)) (by omega) (by omega) (by omega) dX7_hasRowLane_13 ?_
    have f4 : 0 ≤ X 21 q k ∧ X 21 q k ≤ 5 := hR 21 q k
    refine gos_i (run_SN (As := [.int (jI (X 21 q k))]) (rest := []) (host := RX8) hx hb hml hown hts (c_X8_isRowLane l D tc base ad cnt X Y ln (X 21 q k) (by omega)) ⟨va_cnB 1 hts gX7_hasRowLane_X8_isRowLane_n47 rfl rfl rfl hK.2.2.1 (hts (.initialized RX8) (by decide +kernel)) (by decide +kernel) ⟨Nat.le_of_ble_eq_true rfl, Nat.le_of_ble_eq_true rfl⟩, hts (.static yX8_isRowLane) (by decide +kernel), trivial⟩ hK hw rfl hl.1 rfl (Nat.le_of_ble_eq_true rfl) dX7_hasRowLane_14 ⟨Nat.le_of_ble_eq_true rfl, Nat.le_of_ble_eq_true rfl⟩) hS (fun z5 u6 H locs p7 hw hS => ?_)
    obtain ⟨eu6, p7⟩ := p7
    subst eu6
    rcases p7 with ⟨ez5, p7⟩ | ⟨ez5, p7⟩
    · subst ez5
      refine x_if_eqF (tgt := 24) hx hb (by omega) (by decide) dX7_hasRowLane_17 (by decide) ?_
      refine lv_iconst (v := jI 1) hx hb dX7_hasRowLane_20 rfl ?_
      refine lv_goto (tgt := 25) hx hb dX7_hasRowLane_21 (by decide) ?_
      rw [hQ9]
      refine ret_z (mc := 0) (ms := 0) hx hb hr hlocks hw hS (by omega) (by omega) dX7_hasRowLane_25 (by omega) ?_
      exact ⟨rfl, Or.inl ⟨rfl, by omega⟩⟩
    · subst ez5
      refine x_if_eqT (tgt := 24) hx hb (by omega) (by decide) dX7_hasRowLane_17 (by decide) ?_
      refine lv_iconst (v := jI 0) hx hb dX7_hasRowLane_24 rfl ?_
      rw [hQ9]
      refine ret_z (mc := 0) (ms := 0) hx hb hr hlocks hw hS (by omega) (by omega) dX7_hasRowLane_25 (by omega) ?_
      exact ⟨rfl, Or.inr ⟨rfl, (by first | omega | (intro q; first | omega | (simp only [Hid] at *; omega)))⟩⟩
  · subst ez1
    refine x_if_eqT (tgt := 24) hx hb (by omega) (by decide) dX7_hasRowLane_5 (by decide) ?_
    refine lv_iconst (v := jI 0) hx hb dX7_hasRowLane_24 rfl ?_
    rw [hQ9]
    refine ret_z (mc := 0) (ms := 0) hx hb hr hlocks hw hS (by omega) (by omega) dX7_hasRowLane_25 (by omega) ?_
    exact ⟨rfl, Or.inr ⟨rfl, (by first | omega | (intro q; first | omega | (simp only [Hid] at *; omega)))⟩⟩

set_option maxHeartbeats 4000000 in
set_option maxRecDepth 100000 in
theorem c_X7_fieldNamed (l : Launch) (D : va_G) (tc : Nat → ClassId) (base : Nat) (ad : Nat → Int → Nat) (cnt : Nat → Int) (X : Nat → Int → Int → Int) (Y : Nat → Int → Int → Option Int) (ln : Int → Int) (hR : Rng X) (hFx : Fx cnt) (hLn : LnOK ln) (q name : Int) (hq : 0 ≤ q ∧ q < cnt 19) (hname : -2147483648 ≤ name ∧ name ≤ 2147483647) : KI l D tc base yX7_fieldNamed wsX7_fieldNamed ({ frames := 0, cells := 0, slots := 0, locals := 0 } : Room) [.ref (ad 19 q), .int (jI name)] (ad, cnt, X, Y, ln) 0 0 (fun z u => u = (ad, cnt, X, Y, ln) ∧ -1 ≤ z ∧ z < X 19 q 1 ∧ z ≤ 4 ∧ z = nmAt (X 20 q) name (X 19 q 1).toNat) := by
  refine K_of (cc := cX7_fieldNamed) (maxL := 3) (ret := (some .int)) (by decide) rfl (Nat.le_of_ble_eq_true rfl) ?_
  intro p e s m below meth c ls hx hb hr hml hown hts hlocks hl hK hw hS
  have hown : s.vm.findClass RX7 = some m.cls := hown
  obtain ⟨av9, hav9⟩ : ∃ a9 : Array Value, a9 = ([.ref (ad 19 q), .int (jI name)] : List Value).toArray := ⟨_, rfl⟩
  rw [← hav9] at hts ⊢
  obtain ⟨Q9, hQ9⟩ : ∃ q9Q : State → Prop, q9Q = MQ below (QI D tc base (fun z u => u = (ad, cnt, X, Y, ln) ∧ -1 ≤ z ∧ z < X 19 q 1 ∧ z ≤ 4 ∧ z = nmAt (X 20 q) name (X 19 q 1).toNat)) av9 s 0 0 (frA base) := ⟨_, rfl⟩
  rw [← hQ9]
  have hi7 : ∀ w ∈ wsX70, w ∈ wsX7_fieldNamed := fun w h => List.mem_cons_of_mem _ (List.mem_append_right _ h)
  have hf7 : fctx s m _ RX7 wsX7_fieldNamed D tc RX7 TX7 8 7 := ⟨hts, hi7, hown, hK.1, rfl⟩
  have lk9 := hts (.fieldLink RX7 9 (TX7 2).1 (TX7 2).2.1 (TX7 2).2.2.1) (gj_X7_fieldNamed_0 _ (gp_1 gp_h))
  have lk36 := hts (.fieldLink RX7 36 (TX7 1).1 (TX7 1).2.1 (TX7 1).2.2.1) (gj_X7_fieldNamed_0 _ (gp_h))
  have hc20 : cnt 20 = cnt 19 := hFx.2.1 20 (by decide)
  have hl : lv_has ls 3 [(0, .ref (ad 19 q)), (1, .int (jI name))] := hl
  refine lv_iconst (v := jI 0) hx hb dX7_fieldNamed_0 rfl ?_
  refine lv_istore_n (lv' := [(2, .int (jI 0)), (0, .ref (ad 19 q)), (1, .int (jI name))]) hx hb dX7_fieldNamed_1 rfl hl (by decide) rfl (fun ls hl => ?_)
  have lp2 : ∀ (nn : Nat) (k : Int) (H : Heap) (locs : List Loc) (ls : Array Slot), (5 - k) < (nn : Int) → (0 ≤ k ∧ k ≤ 5) → (∀ j, 0 ≤ j → j < k → X 20 q j ≠ name) → wd D tc base (ad, cnt, X, Y, ln) H → va_S (frA base) s.heap H locs → lv_has ls 3 [(0, .ref (ad 19 q)), (1, .int (jI name)), (2, .int (jI k))] → W p l e ({ frames := 0, cells := 0, slots := 0, locals := 0 } : Room) s m av9 below meth c H locs 0 0 Q9 (F0 m 2 ls []) := by
    intro nn
    induction nn with
    | zero => intro k H locs ls hm hk hnn hw hS hl; exfalso; omega
    | succ nn ih2 =>
      intro k H locs ls hm hk hnn hw hS hl
      refine lv_iload_n hx hb dX7_fieldNamed_2 rfl (lv_at hl 2 rfl) ?_
      refine lv_aload_n hx hb dX7_fieldNamed_3 rfl (lv_at hl 0 rfl) ?_
      refine x_geti (jz := 1) hx hb hf7 hw (by omega) (by omega) sl_19_1 rfl lk36 dX7_fieldNamed_4 ?_
      have f1 : 0 ≤ X 19 q 1 ∧ X 19 q 1 ≤ 5 := hR 19 q 1
      refine x_icmp_ge (tgt := 28) hx hb (by omega) (by omega) dX7_fieldNamed_7 (by decide) (fun c2 => ?_) (fun c2 => ?_)
      · refine lv_iconst (v := jI (-1)) hx hb dX7_fieldNamed_28 rfl ?_
        rw [hQ9]
        refine ret_i (mc := 0) (ms := 0) hx hb hr hlocks hw hS (by omega) (by omega) dX7_fieldNamed_29 ?_
        exact ⟨rfl, by omega, by omega, by omega, (nmAt_no (fun j a b => hnn j a (by omega)) (by omega)).symm⟩
      · refine lv_aload_n hx hb dX7_fieldNamed_10 rfl (lv_at hl 0 rfl) ?_
        refine x_geto hx hb hf7 hw (by omega) (by omega) sl_19_2 lk9 dX7_fieldNamed_11 ?_
        refine lv_iload_n hx hb dX7_fieldNamed_14 rfl (lv_at hl 2 rfl) ?_
        refine x_iald hx hb hK.1 hw (by omega) (by omega) ar_20 (len_E ar_20 (by decide)) (by omega) (by omega) (by omega) dX7_fieldNamed_15 ?_
        have f3 : 0 ≤ X 20 q k ∧ X 20 q k ≤ 19 := hR 20 q k
        refine lv_iload_n hx hb dX7_fieldNamed_16 rfl (lv_at hl 1 rfl) ?_
        refine x_icmp_ne (tgt := 22) hx hb (by omega) (by omega) dX7_fieldNamed_17 (by decide) (fun c4 => ?_) (fun c4 => ?_)
        · refine lv_iinc (v := jI (k + 1)) (lv' := [(2, .int (jI (k + 1))), (0, .ref (ad 19 q)), (1, .int (jI name))]) hx hb dX7_fieldNamed_22 hl (k := 2) rfl (jI_add _ _) (by decide) rfl (fun ls hl => ?_)
          refine lv_goto (tgt := 2) hx hb dX7_fieldNamed_25 (by decide) ?_
          exact ih2 (k + 1) _ _ _ (by omega) (by omega) (fun j a b => if hj : j = k then (by rw [hj]; omega) else hnn j a (by omega)) hw hS (lv_sub hl [1, 2, 0] rfl)
        · refine lv_iload_n hx hb dX7_fieldNamed_20 rfl (lv_at hl 2 rfl) ?_
          rw [hQ9]
          refine ret_i (mc := 0) (ms := 0) hx hb hr hlocks hw hS (by omega) (by omega) dX7_fieldNamed_21 ?_
          exact ⟨rfl, by omega, by omega, by omega, (nmAt_yes hnn (by omega) (by omega)).symm⟩
  exact lp2 (5 - 0 : Int).toNat.succ 0 _ _ _ (by omega) (by omega) (fun j a b => by omega) hw hS (lv_sub hl [1, 2, 0] rfl)

set_option maxHeartbeats 4000000 in
set_option maxRecDepth 100000 in
theorem c_X8_typeNumbered (l : Launch) (D : va_G) (tc : Nat → ClassId) (base : Nat) (ad : Nat → Int → Nat) (cnt : Nat → Int) (X : Nat → Int → Int → Int) (Y : Nat → Int → Int → Option Int) (ln : Int → Int) (hR : Rng X) (hFx : Fx cnt) (hLn : LnOK ln) (hCI : CInv cnt X Y ln) (t : Int) (ht : -2147483648 ≤ t ∧ t ≤ 2147483647) : KR l D tc base 19 yX8_typeNumbered wsX8_typeNumbered ({ frames := 1, cells := 0, slots := 0, locals := 21 } : Room) [.ref (ad 0 0), .int (jI t)] (ad, cnt, X, Y, ln) 0 0 (fun o u => u = (ad, cnt, X, Y, ln) ∧ (∀ q, o = some q → q = t ∧ 0 ≤ t ∧ t < X 0 0 1 ∧ t ≤ 7 ∧ t < cnt 19) ∧ (o = none → Hid (¬ (0 ≤ t ∧ t < X 0 0 1)))) := by
  refine K_of (cc := cX8_typeNumbered) (maxL := 2) (ret := (some (.object "StateRecords$Type"))) (by decide) rfl (Nat.le_of_ble_eq_true rfl) ?_
  intro p e s m below meth c ls hx hb hr hml hown hts hlocks hl hK hw hS
  have hown : s.vm.findClass RX8 = some m.cls := hown
  obtain ⟨av9, hav9⟩ : ∃ a9 : Array Value, a9 = ([.ref (ad 0 0), .int (jI t)] : List Value).toArray := ⟨_, rfl⟩
  rw [← hav9] at hts ⊢
  obtain ⟨Q9, hQ9⟩ : ∃ q9Q : State → Prop, q9Q = MQ below (QR D tc base 19 (fun o u => u = (ad, cnt, X, Y, ln) ∧ (∀ q, o = some q → q = t ∧ 0 ≤ t ∧ t < X 0 0 1 ∧ t ≤ 7 ∧ t < cnt 19) ∧ (o = none → Hid (¬ (0 ≤ t ∧ t < X 0 0 1))))) av9 s 0 0 (frA base) := ⟨_, rfl⟩
  rw [← hQ9]
  have hi8 : ∀ w ∈ wsX80, w ∈ wsX8_typeNumbered := fun w h => List.mem_cons_of_mem _ (List.mem_append_right _ h)
  have hf8 : fctx s m _ RX8 wsX8_typeNumbered D tc RX8 TX8 12 8 := ⟨hts, hi8, hown, hK.1, rfl⟩
  have lk11 := hts (.fieldLink RX8 11 (TX8 0).1 (TX8 0).2.1 (TX8 0).2.2.1) (gj_X8_typeNumbered_0 _ (gp_1 gp_h))
  have lk63 := hts (.fieldLink RX8 63 (TX8 1).1 (TX8 1).2.1 (TX8 1).2.2.1) (gj_X8_typeNumbered_0 _ (gp_h))
  have hc0 : cnt 0 = 1 := hFx.at 0 1 (by decide)
  have hc1 : cnt 1 = 1 := hFx.at 1 1 (by decide)
  have hl : lv_has ls 2 [(0, .ref (ad 0 0)), (1, .int (jI t))] := hl
  have hct : cnt 19 = X 0 0 1 := hCI.2.2.2.1.1
  have ftc : 0 ≤ X 0 0 1 ∧ X 0 0 1 ≤ 8 := hR 0 0 1
  refine lv_iload_n hx hb dX8_typeNumbered_0 rfl (lv_at hl 1 rfl) ?_
  refine lv_aload_n hx hb dX8_typeNumbered_1 rfl (lv_at hl 0 rfl) ?_
  refine x_geti (jz := 1) hx hb hf8 hw (by first | exact Int.le_refl 0 | omega) (by first | exact zlt hc0 | omega) sl_0_1 rfl lk63 dX8_typeNumbered_2 ?_
  have f1 : 0 ≤ X 0 0 1 ∧ X 0 0 1 ≤ 8 := hR 0 0 1
  refine gos_i (run_S (As := [.int (jI t), .int (jI (X 0 0 1))]) (rest := []) hx hb hml hown hts (c_X8_isBelow l D tc base ad cnt X Y ln t (X 0 0 1) (by omega) (by omega)) (cwS 2 hts gX8_typeNumbered_X8_isBelow rfl rfl rfl (by decide +kernel) ⟨Nat.le_of_ble_eq_true rfl, Nat.le_of_ble_eq_true rfl⟩) hK hw rfl hl.1 rfl (Nat.le_of_ble_eq_true rfl) dX8_typeNumbered_5 ⟨Nat.le_of_ble_eq_true rfl, Nat.le_of_ble_eq_true rfl⟩) hS (fun z2 u3 H locs p4 hw hS => ?_)
  obtain ⟨eu3, p4⟩ := p4
  subst eu3
  rcases p4 with ⟨ez2, p4⟩ | ⟨ez2, p4⟩
  · subst ez2
    refine x_if_eqF (tgt := 20) hx hb (by omega) (by decide) dX8_typeNumbered_8 (by decide) ?_
    refine lv_aload_n hx hb dX8_typeNumbered_11 rfl (lv_at hl 0 rfl) ?_
    refine x_geto hx hb hf8 hw (by first | exact Int.le_refl 0 | omega) (by first | exact zlt hc0 | omega) sl_0_0 lk11 dX8_typeNumbered_12 ?_
    refine lv_iload_n hx hb dX8_typeNumbered_15 rfl (lv_at hl 1 rfl) ?_
    refine x_aald hx hb hK.1 hw (by first | exact Int.le_refl 0 | omega) (by first | exact zlt hc1 | omega) ar_1 rfl (len_E ar_1 (by decide)) (by omega) (by omega) (by omega) dX8_typeNumbered_16 (fun y5 => ?_) (fun r6 y5 gr6 lr6 => ?_)
    · exfalso
      have h9 := (hCI.2.2.2.1.2 t (by omega) (by omega)).1; rw [h9] at y5; cases y5
    · have er6 : r6 = t := by have h9 := (hCI.2.2.2.1.2 t (by omega) (by omega)).1; rw [h9] at y5; cases y5; rfl
      rw [er6]
      refine lv_goto (tgt := 21) hx hb dX8_typeNumbered_17 (by decide) ?_
      rw [hQ9]
      refine ret_r (mc := 0) (ms := 0) (k := 19) (i := t) hx hb hr hlocks hw hS (by omega) (by omega) dX8_typeNumbered_21 ?_
      exact ⟨rfl, fun q e => by cases e; exact ⟨by omega, by omega, by omega, by omega, by omega⟩, fun e => by cases e⟩
  · subst ez2
    refine x_if_eqT (tgt := 20) hx hb (by omega) (by decide) dX8_typeNumbered_8 (by decide) ?_
    refine lv_null hx hb dX8_typeNumbered_20 ?_
    rw [hQ9]
    refine ret_n (mc := 0) (ms := 0) hx hb hr hlocks hw hS (by omega) (by omega) dX8_typeNumbered_21 ?_
    exact ⟨rfl, fun q e => (by cases e), fun _ q => by simp only [Hid] at *; omega⟩

set_option maxHeartbeats 4000000 in
set_option maxRecDepth 100000 in
theorem c_X8_thingNumbered (l : Launch) (D : va_G) (tc : Nat → ClassId) (base : Nat) (ad : Nat → Int → Nat) (cnt : Nat → Int) (X : Nat → Int → Int → Int) (Y : Nat → Int → Int → Option Int) (ln : Int → Int) (hR : Rng X) (hFx : Fx cnt) (hLn : LnOK ln) (hCI : CInv cnt X Y ln) (x : Int) (hx : -9223372036854775808 ≤ x ∧ x ≤ 9223372036854775807) : KR l D tc base 15 yX8_thingNumbered wsX8_thingNumbered ({ frames := 0, cells := 0, slots := 0, locals := 0 } : Room) [.ref (ad 0 0), .long (jL x)] (ad, cnt, X, Y, ln) 0 0 (fun o u => u = (ad, cnt, X, Y, ln) ∧ (∀ q, o = some q → q = x ∧ 0 ≤ x ∧ x < X 0 0 3 ∧ x ≤ 29) ∧ (o = none → Hid (¬ (0 ≤ x ∧ x < X 0 0 3)))) := by
  refine K_of (cc := cX8_thingNumbered) (maxL := 3) (ret := (some (.object "StateRecords$Thing"))) (by decide) rfl (Nat.le_of_ble_eq_true rfl) ?_
  intro p e s m below meth c ls hx hb hr hml hown hts hlocks hl hK hw hS
  have hown : s.vm.findClass RX8 = some m.cls := hown
  obtain ⟨av9, hav9⟩ : ∃ a9 : Array Value, a9 = ([.ref (ad 0 0), .long (jL x)] : List Value).toArray := ⟨_, rfl⟩
  rw [← hav9] at hts ⊢
  obtain ⟨Q9, hQ9⟩ : ∃ q9Q : State → Prop, q9Q = MQ below (QR D tc base 15 (fun o u => u = (ad, cnt, X, Y, ln) ∧ (∀ q, o = some q → q = x ∧ 0 ≤ x ∧ x < X 0 0 3 ∧ x ≤ 29) ∧ (o = none → Hid (¬ (0 ≤ x ∧ x < X 0 0 3))))) av9 s 0 0 (frA base) := ⟨_, rfl⟩
  rw [← hQ9]
  have hi8 : ∀ w ∈ wsX80, w ∈ wsX8_thingNumbered := fun w h => List.mem_cons_of_mem _ (List.mem_append_right _ h)
  have hf8 : fctx s m _ RX8 wsX8_thingNumbered D tc RX8 TX8 12 8 := ⟨hts, hi8, hown, hK.1, rfl⟩
  have lk17 := hts (.fieldLink RX8 17 (TX8 2).1 (TX8 2).2.1 (TX8 2).2.2.1) (gj_X8_thingNumbered_0 _ (gp_1 gp_h))
  have lk94 := hts (.fieldLink RX8 94 (TX8 3).1 (TX8 3).2.1 (TX8 3).2.2.1) (gj_X8_thingNumbered_0 _ (gp_h))
  have hc0 : cnt 0 = 1 := hFx.at 0 1 (by decide)
  have hc2 : cnt 2 = 1 := hFx.at 2 1 (by decide)
  have hc15 : cnt 15 = 30 := hFx.at 15 30 (by decide)
  have hl : lv_has ls 3 [(0, .ref (ad 0 0)), (1, .long (jL x))] := hl
  have ftc : 0 ≤ X 0 0 3 ∧ X 0 0 3 ≤ 30 := hR 0 0 3
  refine lv_lload_n hx hb dX8_thingNumbered_0 rfl (lv_at hl 1 rfl) ?_
  refine lv_lconst (v := jL 0) hx hb dX8_thingNumbered_1 (by decide) ?_
  refine x_lcmp hx hb (by omega) (by omega) dX8_thingNumbered_2 ?_
  obtain ⟨z1, ez1⟩ : ∃ y : Int, y = cmpZ x 0 := ⟨_, rfl⟩
  rw [← ez1]
  have gz1 : (z1 < 0 ↔ (x : Int) < 0) ∧ (z1 = 0 ↔ (x : Int) = 0) ∧ -1 ≤ z1 ∧ z1 ≤ 1 := by rw [ez1]; exact ⟨cmpZ_lt, cmpZ_eq, (cmpZ_r _ _).1, (cmpZ_r _ _).2⟩
  clear ez1
  refine x_if_lt (tgt := 26) hx hb (by omega) dX8_thingNumbered_3 (by decide) (fun c2 => ?_) (fun c2 => ?_)
  · refine lv_null hx hb dX8_thingNumbered_26 ?_
    rw [hQ9]
    refine ret_n (mc := 0) (ms := 0) hx hb hr hlocks hw hS (by omega) (by omega) dX8_thingNumbered_27 ?_
    exact ⟨rfl, fun q e => (by cases e), fun _ q => by omega⟩
  · refine lv_lload_n hx hb dX8_thingNumbered_6 rfl (lv_at hl 1 rfl) ?_
    refine lv_aload_n hx hb dX8_thingNumbered_7 rfl (lv_at hl 0 rfl) ?_
    refine x_geti (jz := 3) hx hb hf8 hw (by first | exact Int.le_refl 0 | omega) (by first | exact zlt hc0 | omega) sl_0_3 rfl lk94 dX8_thingNumbered_8 ?_
    have f3 : 0 ≤ X 0 0 3 ∧ X 0 0 3 ≤ 30 := hR 0 0 3
    refine x_i2l hx hb (by omega) dX8_thingNumbered_11 ?_
    refine x_lcmp hx hb (by omega) (by omega) dX8_thingNumbered_12 ?_
    obtain ⟨z4, ez4⟩ : ∃ y : Int, y = cmpZ x (X 0 0 3) := ⟨_, rfl⟩
    rw [← ez4]
    have gz4 : (z4 < 0 ↔ (x : Int) < (X 0 0 3)) ∧ (z4 = 0 ↔ (x : Int) = (X 0 0 3)) ∧ -1 ≤ z4 ∧ z4 ≤ 1 := by rw [ez4]; exact ⟨cmpZ_lt, cmpZ_eq, (cmpZ_r _ _).1, (cmpZ_r _ _).2⟩
    clear ez4
    refine x_if_ge (tgt := 26) hx hb (by omega) dX8_thingNumbered_13 (by decide) (fun c5 => ?_) (fun c5 => ?_)
    · refine lv_null hx hb dX8_thingNumbered_26 ?_
      rw [hQ9]
      refine ret_n (mc := 0) (ms := 0) hx hb hr hlocks hw hS (by omega) (by omega) dX8_thingNumbered_27 ?_
      exact ⟨rfl, fun q e => (by cases e), fun _ q => by omega⟩
    · refine lv_aload_n hx hb dX8_thingNumbered_16 rfl (lv_at hl 0 rfl) ?_
      refine x_geto hx hb hf8 hw (by first | exact Int.le_refl 0 | omega) (by first | exact zlt hc0 | omega) sl_0_2 lk17 dX8_thingNumbered_17 ?_
      refine lv_lload_n hx hb dX8_thingNumbered_20 rfl (lv_at hl 1 rfl) ?_
      refine x_l2i hx hb dX8_thingNumbered_21 ?_
      refine x_aald hx hb hK.1 hw (by first | exact Int.le_refl 0 | omega) (by first | exact zlt hc2 | omega) ar_2 rfl (len_E ar_2 (by decide)) (by omega) (by omega) (by omega) dX8_thingNumbered_22 (fun y6 => ?_) (fun r7 y6 gr7 lr7 => ?_)
      · exfalso
        have h9 := hCI.1 x (by omega) (by omega); rw [h9] at y6; cases y6
      · have er7 : r7 = x := by have h9 := hCI.1 x (by omega) (by omega); rw [h9] at y6; cases y6; rfl
        rw [er7]
        refine lv_goto (tgt := 27) hx hb dX8_thingNumbered_23 (by decide) ?_
        rw [hQ9]
        refine ret_r (mc := 0) (ms := 0) (k := 15) (i := x) hx hb hr hlocks hw hS (by omega) (by omega) dX8_thingNumbered_27 ?_
        exact ⟨rfl, fun q e => by cases e; exact ⟨by omega, by omega, by omega, by omega⟩, fun e => by cases e⟩

