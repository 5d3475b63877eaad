set_option maxHeartbeats 4000000 in
set_option maxRecDepth 100000 in
theorem c_X9_isType (l : Launch) (D : va_G) (tc : Nat → ClassId) (base : Nat) (ad : Nat → Int → Nat) (cnt : Nat → Int) (X : Nat → Int → Int → Int) (Y : Nat → Int → Int → Option Int) (ln : Int → Int) (hR : Rng X) (hFx : Fx cnt) (t : Int) (ht : -2147483648 ≤ t ∧ t ≤ 2147483647) : KI l D tc base yX9_isType wsX9_isType ({ frames := 0, cells := 0, slots := 0, locals := 0 } : Room) [.ref (ad 40 0), .int (jI t)] (ad, cnt, X, Y, ln) 0 0 (fun z u => u = (ad, cnt, X, Y, ln) ∧ ((z = 1 ∧ 0 ≤ t ∧ t < X 40 0 2 ∧ t ≤ 7) ∨ (z = 0 ∧ Hid (¬ (0 ≤ t ∧ t < X 40 0 2))))) := by
  refine K_of (cc := cX9_isType) (maxL := 2) (ret := (some .boolean)) (by decide) rfl (Nat.le_of_ble_eq_true rfl) ?_
  intro p e s m below meth c ls hx hb hr hml hown hts hlocks hl hK hw hS
  have hown : s.vm.findClass RX9 = some m.cls := hown
  obtain ⟨av9, hav9⟩ : ∃ a9 : Array Value, a9 = ([.ref (ad 40 0), .int (jI t)] : List Value).toArray := ⟨_, rfl⟩
  rw [← hav9] at hts ⊢
  obtain ⟨Q9, hQ9⟩ : ∃ q : State → Prop, q = MQ below (QI D tc base (fun z u => u = (ad, cnt, X, Y, ln) ∧ ((z = 1 ∧ 0 ≤ t ∧ t < X 40 0 2 ∧ t ≤ 7) ∨ (z = 0 ∧ Hid (¬ (0 ≤ t ∧ t < X 40 0 2)))))) av9 s 0 0 (frA base) := ⟨_, rfl⟩
  rw [← hQ9]
  have hi9 : ∀ w ∈ wsX90, w ∈ wsX9_isType := fun w h => List.mem_cons_of_mem _ (List.mem_append_right _ h)
  have hf9 : fctx s m _ RX9 wsX9_isType D tc RX9 TX9 51 9 := ⟨hts, hi9, hown, hK.1, rfl⟩
  have lk148 := hts (.fieldLink RX9 148 (TX9 2).1 (TX9 2).2.1 (TX9 2).2.2.1) (gj_X9_isType_0 _ (gp_h))
  have hc40 : cnt 40 = 1 := hFx.at 40 1 (by decide)
  have hl : lv_has ls 2 [(0, .ref (ad 40 0)), (1, .int (jI t))] := hl
  have fty : 0 ≤ X 40 0 2 ∧ X 40 0 2 ≤ 8 := hR 40 0 2
  refine lv_iload_n hx hb dX9_isType_0 rfl (lv_at hl 1 rfl) ?_
  refine x_if_lt (tgt := 16) hx hb (by omega) dX9_isType_1 (by decide) (fun c1 => ?_) (fun c1 => ?_)
  · refine lv_iconst (v := jI 0) hx hb dX9_isType_16 rfl ?_
    rw [hQ9]
    refine ret_z (mc := 0) (ms := 0) hx hb hr hlocks hw hS (by first | exact Nat.le_of_ble_eq_true rfl | omega) (by first | exact Nat.le_of_ble_eq_true rfl | omega) dX9_isType_17 (by omega) ?_
    exact ⟨rfl, Or.inr ⟨rfl, (by first | omega | (intro q; first | omega | (simp only [Hid] at *; omega)))⟩⟩
  · refine lv_iload_n hx hb dX9_isType_4 rfl (lv_at hl 1 rfl) ?_
    refine lv_aload_n hx hb dX9_isType_5 rfl (lv_at hl 0 rfl) ?_
    refine x_geti (jz := 2) hx hb hf9 hw (by first | exact Int.le_refl 0 | omega) (by first | exact zlt hc40 | omega) sl_40_2 rfl lk148 dX9_isType_6 ?_
    have f2 : 0 ≤ X 40 0 2 ∧ X 40 0 2 ≤ 8 := hR 40 0 2
    refine x_icmp_ge (tgt := 16) hx hb (by omega) (by omega) dX9_isType_9 (by decide) (fun c3 => ?_) (fun c3 => ?_)
    · refine lv_iconst (v := jI 0) hx hb dX9_isType_16 rfl ?_
      rw [hQ9]
      refine ret_z (mc := 0) (ms := 0) hx hb hr hlocks hw hS (by first | exact Nat.le_of_ble_eq_true rfl | omega) (by first | exact Nat.le_of_ble_eq_true rfl | omega) dX9_isType_17 (by omega) ?_
      exact ⟨rfl, Or.inr ⟨rfl, (by first | omega | (intro q; first | omega | (simp only [Hid] at *; omega)))⟩⟩
    · refine lv_iconst (v := jI 1) hx hb dX9_isType_12 rfl ?_
      refine lv_goto (tgt := 17) hx hb dX9_isType_13 (by decide) ?_
      rw [hQ9]
      refine ret_z (mc := 0) (ms := 0) hx hb hr hlocks hw hS (by first | exact Nat.le_of_ble_eq_true rfl | omega) (by first | exact Nat.le_of_ble_eq_true rfl | omega) dX9_isType_17 (by omega) ?_
      exact ⟨rfl, Or.inl ⟨rfl, by omega⟩⟩

set_option maxHeartbeats 4000000 in
set_option maxRecDepth 100000 in
theorem c_X9_isThing (l : Launch) (D : va_G) (tc : Nat → ClassId) (base : Nat) (ad : Nat → Int → Nat) (cnt : Nat → Int) (X : Nat → Int → Int → Int) (Y : Nat → Int → Int → Option Int) (ln : Int → Int) (hR : Rng X) (hFx : Fx cnt) (x : Int) (hx : -2147483648 ≤ x ∧ x ≤ 2147483647) : KI l D tc base yX9_isThing wsX9_isThing ({ frames := 0, cells := 0, slots := 0, locals := 0 } : Room) [.ref (ad 40 0), .int (jI x)] (ad, cnt, X, Y, ln) 0 0 (fun z u => u = (ad, cnt, X, Y, ln) ∧ ((z = 1 ∧ 0 ≤ x ∧ x < X 40 0 13 ∧ x ≤ 29) ∨ (z = 0 ∧ Hid (¬ (0 ≤ x ∧ x < X 40 0 13))))) := by
  refine K_of (cc := cX9_isThing) (maxL := 2) (ret := (some .boolean)) (by decide) rfl (Nat.le_of_ble_eq_true rfl) ?_
  intro p e s m below meth c ls hx hb hr hml hown hts hlocks hl hK hw hS
  have hown : s.vm.findClass RX9 = some m.cls := hown
  obtain ⟨av9, hav9⟩ : ∃ a9 : Array Value, a9 = ([.ref (ad 40 0), .int (jI x)] : List Value).toArray := ⟨_, rfl⟩
  rw [← hav9] at hts ⊢
  obtain ⟨Q9, hQ9⟩ : ∃ q : State → Prop, q = MQ below (QI D tc base (fun z u => u = (ad, cnt, X, Y, ln) ∧ ((z = 1 ∧ 0 ≤ x ∧ x < X 40 0 13 ∧ x ≤ 29) ∨ (z = 0 ∧ Hid (¬ (0 ≤ x ∧ x < X 40 0 13)))))) av9 s 0 0 (frA base) := ⟨_, rfl⟩
  rw [← hQ9]
  have hi9 : ∀ w ∈ wsX90, w ∈ wsX9_isThing := fun w h => List.mem_cons_of_mem _ (List.mem_append_right _ h)
  have hf9 : fctx s m _ RX9 wsX9_isThing D tc RX9 TX9 51 9 := ⟨hts, hi9, hown, hK.1, rfl⟩
  have lk151 := hts (.fieldLink RX9 151 (TX9 13).1 (TX9 13).2.1 (TX9 13).2.2.1) (gj_X9_isThing_0 _ (gp_h))
  have hc40 : cnt 40 = 1 := hFx.at 40 1 (by decide)
  have hl : lv_has ls 2 [(0, .ref (ad 40 0)), (1, .int (jI x))] := hl
  have fth : 0 ≤ X 40 0 13 ∧ X 40 0 13 ≤ 30 := hR 40 0 13
  refine lv_iload_n hx hb dX9_isThing_0 rfl (lv_at hl 1 rfl) ?_
  refine x_if_lt (tgt := 16) hx hb (by omega) dX9_isThing_1 (by decide) (fun c1 => ?_) (fun c1 => ?_)
  · refine lv_iconst (v := jI 0) hx hb dX9_isThing_16 rfl ?_
    rw [hQ9]
    refine ret_z (mc := 0) (ms := 0) hx hb hr hlocks hw hS (by first | exact Nat.le_of_ble_eq_true rfl | omega) (by first | exact Nat.le_of_ble_eq_true rfl | omega) dX9_isThing_17 (by omega) ?_
    exact ⟨rfl, Or.inr ⟨rfl, (by first | omega | (intro q; first | omega | (simp only [Hid] at *; omega)))⟩⟩
  · refine lv_iload_n hx hb dX9_isThing_4 rfl (lv_at hl 1 rfl) ?_
    refine lv_aload_n hx hb dX9_isThing_5 rfl (lv_at hl 0 rfl) ?_
    refine x_geti (jz := 13) hx hb hf9 hw (by first | exact Int.le_refl 0 | omega) (by first | exact zlt hc40 | omega) sl_40_13 rfl lk151 dX9_isThing_6 ?_
    have f2 : 0 ≤ X 40 0 13 ∧ X 40 0 13 ≤ 30 := hR 40 0 13
    refine x_icmp_ge (tgt := 16) hx hb (by omega) (by omega) dX9_isThing_9 (by decide) (fun c3 => ?_) (fun c3 => ?_)
    · refine lv_iconst (v := jI 0) hx hb dX9_isThing_16 rfl ?_
      rw [hQ9]
      refine ret_z (mc := 0) (ms := 0) hx hb hr hlocks hw hS (by first | exact Nat.le_of_ble_eq_true rfl | omega) (by first | exact Nat.le_of_ble_eq_true rfl | omega) dX9_isThing_17 (by omega) ?_
      exact ⟨rfl, Or.inr ⟨rfl, (by first | omega | (intro q; first | omega | (simp only [Hid] at *; omega)))⟩⟩
    · refine lv_iconst (v := jI 1) hx hb dX9_isThing_12 rfl ?_
      refine lv_goto (tgt := 17) hx hb dX9_isThing_13 (by decide) ?_
      rw [hQ9]
      refine ret_z (mc := 0) (ms := 0) hx hb hr hlocks hw hS (by first | exact Nat.le_of_ble_eq_true rfl | omega) (by first | exact Nat.le_of_ble_eq_true rfl | omega) dX9_isThing_17 (by omega) ?_
      exact ⟨rfl, Or.inl ⟨rfl, by omega⟩⟩

set_option maxHeartbeats 4000000 in
set_option maxRecDepth 100000 in
theorem c_X9_lane (l : Launch) (D : va_G) (tc : Nat → ClassId) (base : Nat) (ad : Nat → Int → Nat) (cnt : Nat → Int) (X : Nat → Int → Int → Int) (Y : Nat → Int → Int → Option Int) (ln : Int → Int) (hR : Rng X) (hFx : Fx cnt) (x k : Int) (hx0 : 0 ≤ x ∧ x ≤ 29) (hk0 : 0 ≤ k ∧ k ≤ 4) : KI l D tc base yX9_lane wsX9_lane ({ frames := 0, cells := 0, slots := 0, locals := 0 } : Room) [.ref (ad 40 0), .int (jI x), .int (jI k)] (ad, cnt, X, Y, ln) 0 0 (fun z u => u = (ad, cnt, X, Y, ln) ∧ z = X 46 0 (5 * X 55 0 x + k) ∧ 0 ≤ z ∧ z ≤ 5) := by
  refine K_of (cc := cX9_lane) (maxL := 3) (ret := (some .int)) (by decide) rfl (Nat.le_of_ble_eq_true rfl) ?_
  intro p e s m below meth c ls hx hb hr hml hown hts hlocks hl hK hw hS
  have hown : s.vm.findClass RX9 = some m.cls := hown
  obtain ⟨av9, hav9⟩ : ∃ a9 : Array Value, a9 = ([.ref (ad 40 0), .int (jI x), .int (jI k)] : List Value).toArray := ⟨_, rfl⟩
  rw [← hav9] at hts ⊢
  obtain ⟨Q9, hQ9⟩ : ∃ q : State → Prop, q = MQ below (QI D tc base (fun z u => u = (ad, cnt, X, Y, ln) ∧ z = X 46 0 (5 * X 55 0 x + k) ∧ 0 ≤ z ∧ z ≤ 5)) av9 s 0 0 (frA base) := ⟨_, rfl⟩
  rw [← hQ9]
  have hi9 : ∀ w ∈ wsX90, w ∈ wsX9_lane := fun w h => List.mem_cons_of_mem _ (List.mem_append_right _ h)
  have hf9 : fctx s m _ RX9 wsX9_lane D tc RX9 TX9 51 9 := ⟨hts, hi9, hown, hK.1, rfl⟩
  have lk20 := hts (.fieldLink RX9 20 (TX9 5).1 (TX9 5).2.1 (TX9 5).2.2.1) (gj_X9_lane_0 _ (gp_h))
  have lk45 := hts (.fieldLink RX9 45 (TX9 14).1 (TX9 14).2.1 (TX9 14).2.2.1) (gj_X9_lane_0 _ (gp_1 gp_h))
  have hc40 : cnt 40 = 1 := hFx.at 40 1 (by decide)
  have hc46 : cnt 46 = 1 := hFx.at 46 1 (by decide)
  have hc55 : cnt 55 = 1 := hFx.at 55 1 (by decide)
  have hl : lv_has ls 3 [(0, .ref (ad 40 0)), (1, .int (jI x)), (2, .int (jI k))] := hl
  refine lv_aload_n hx hb dX9_lane_0 rfl (lv_at hl 0 rfl) ?_
  refine x_geto hx hb hf9 hw (by first | exact Int.le_refl 0 | omega) (by first | exact zlt hc40 | omega) sl_40_5 lk20 dX9_lane_1 ?_
  refine lv_iconst (v := jI 5) hx hb dX9_lane_4 rfl ?_
  refine lv_aload_n hx hb dX9_lane_5 rfl (lv_at hl 0 rfl) ?_
  refine x_geto hx hb hf9 hw (by first | exact Int.le_refl 0 | omega) (by first | exact zlt hc40 | omega) sl_40_14 lk45 dX9_lane_6 ?_
  refine lv_iload_n hx hb dX9_lane_9 rfl (lv_at hl 1 rfl) ?_
  refine x_iald hx hb hK.1 hw (by first | exact Int.le_refl 0 | omega) (by first | exact zlt hc55 | omega) ar_55 (len_E ar_55 (by decide)) (by omega) (by omega) (by omega) dX9_lane_10 ?_
  have f1 : 0 ≤ X 55 0 x ∧ X 55 0 x ≤ 7 := hR 55 0 x
  refine x_imul hx hb dX9_lane_11 ?_
  refine lv_iload_n hx hb dX9_lane_12 rfl (lv_at hl 2 rfl) ?_
  refine x_iadd hx hb dX9_lane_13 ?_
  refine x_iald hx hb hK.1 hw (by first | exact Int.le_refl 0 | omega) (by first | exact zlt hc46 | omega) ar_46 (len_E ar_46 (by decide)) (by omega) (by omega) (by omega) dX9_lane_14 ?_
  have f2 : 0 ≤ X 46 0 ((5 * (X 55 0 x)) + k) ∧ X 46 0 ((5 * (X 55 0 x)) + k) ≤ 5 := hR 46 0 ((5 * (X 55 0 x)) + k)
  rw [hQ9]
  refine ret_i (mc := 0) (ms := 0) hx hb hr hlocks hw hS (by first | exact Nat.le_of_ble_eq_true rfl | omega) (by first | exact Nat.le_of_ble_eq_true rfl | omega) dX9_lane_15 ?_
  exact ⟨rfl, rfl, by omega, by omega⟩

set_option maxHeartbeats 4000000 in
set_option maxRecDepth 100000 in
theorem c_X9_named (l : Launch) (D : va_G) (tc : Nat → ClassId) (base : Nat) (ad : Nat → Int → Nat) (cnt : Nat → Int) (X : Nat → Int → Int → Int) (Y : Nat → Int → Int → Option Int) (ln : Int → Int) (hR : Rng X) (hFx : Fx cnt) (t name : Int) (ht : 0 ≤ t ∧ t ≤ 7) (hname : -2147483648 ≤ name ∧ name ≤ 2147483647) : KI l D tc base yX9_named wsX9_named ({ frames := 0, cells := 0, slots := 0, locals := 0 } : Room) [.ref (ad 40 0), .int (jI t), .int (jI name)] (ad, cnt, X, Y, ln) 0 0 (fun z u => u = (ad, cnt, X, Y, ln) ∧ -1 ≤ z ∧ z < X 44 0 t ∧ z ≤ 4 ∧ z = nmAt (fun j => X 45 0 (5 * t + j)) name (X 44 0 t).toNat) := by
  refine K_of (cc := cX9_named) (maxL := 4) (ret := (some .int)) (by decide) rfl (Nat.le_of_ble_eq_true rfl) ?_
  intro p e s m below meth c ls hx hb hr hml hown hts hlocks hl hK hw hS
  have hown : s.vm.findClass RX9 = some m.cls := hown
  obtain ⟨av9, hav9⟩ : ∃ a9 : Array Value, a9 = ([.ref (ad 40 0), .int (jI t), .int (jI name)] : List Value).toArray := ⟨_, rfl⟩
  rw [← hav9] at hts ⊢
  obtain ⟨Q9, hQ9⟩ : ∃ q : State → Prop, q = MQ below (QI D tc base (fun z u => u = (ad, cnt, X, Y, ln) ∧ -1 ≤ z ∧ z < X 44 0 t ∧ z ≤ 4 ∧ z = nmAt (fun j => X 45 0 (5 * t + j)) name (X 44 0 t).toNat)) av9 s 0 0 (frA base) := ⟨_, rfl⟩
  rw [← hQ9]
  have hi9 : ∀ w ∈ wsX90, w ∈ wsX9_named := fun w h => List.mem_cons_of_mem _ (List.mem_append_right _ h)
  have hf9 : fctx s m _ RX9 wsX9_named D tc RX9 TX9 51 9 := ⟨hts, hi9, hown, hK.1, rfl⟩
  have lk13 := hts (.fieldLink RX9 13 (TX9 3).1 (TX9 3).2.1 (TX9 3).2.2.1) (gj_X9_named_0 _ (gp_h))
  have lk17 := hts (.fieldLink RX9 17 (TX9 4).1 (TX9 4).2.1 (TX9 4).2.2.1) (gj_X9_named_0 _ (gp_1 gp_h))
  have hc40 : cnt 40 = 1 := hFx.at 40 1 (by decide)
  have hc44 : cnt 44 = 1 := hFx.at 44 1 (by decide)
  have hc45 : cnt 45 = 1 := hFx.at 45 1 (by decide)
  have hl : lv_has ls 4 [(0, .ref (ad 40 0)), (1, .int (jI t)), (2, .int (jI name))] := hl
  refine lv_iconst (v := jI 0) hx hb dX9_named_0 rfl ?_
  refine lv_istore_n (lv' := [(3, .int (jI 0)), (0, .ref (ad 40 0)), (1, .int (jI t)), (2, .int (jI name))]) hx hb dX9_named_1 rfl hl (by decide) rfl (fun ls hl => ?_)
  have lp2 : ∀ (nn : Nat) (k : Int) (H : Heap) (locs : List Loc) (ls : Array Slot), (5 - k) < (nn : Int) → (0 ≤ k ∧ k ≤ 5) → (∀ j, 0 ≤ j → j < k → X 45 0 (5 * t + j) ≠ name) → wd D tc base (ad, cnt, X, Y, ln) H → va_S (frA base) s.heap H locs → lv_has ls 4 [(0, .ref (ad 40 0)), (1, .int (jI t)), (2, .int (jI name)), (3, .int (jI k))] → W p l e ({ frames := 0, cells := 0, slots := 0, locals := 0 } : Room) s m av9 below meth c H locs 0 0 Q9 (F0 m 2 ls []) := by
    intro nn
    induction nn with
    | zero => intro k H locs ls hm hk hnn hw hS hl; exfalso; omega
    | succ nn ih2 =>
      intro k H locs ls hm hk hnn hw hS hl
      refine lv_iload_n hx hb dX9_named_2 rfl (lv_at hl 3 rfl) ?_
      refine lv_aload_n hx hb dX9_named_3 rfl (lv_at hl 0 rfl) ?_
      refine x_geto hx hb hf9 hw (by first | exact Int.le_refl 0 | omega) (by first | exact zlt hc40 | omega) sl_40_3 lk13 dX9_named_4 ?_
      refine lv_iload_n hx hb dX9_named_7 rfl (lv_at hl 1 rfl) ?_
      refine x_iald hx hb hK.1 hw (by first | exact Int.le_refl 0 | omega) (by first | exact zlt hc44 | omega) ar_44 (len_E ar_44 (by decide)) (by omega) (by omega) (by omega) dX9_named_8 ?_
      have f1 : 0 ≤ X 44 0 t ∧ X 44 0 t ≤ 5 := hR 44 0 t
      refine x_icmp_ge (tgt := 34) hx hb (by omega) (by omega) dX9_named_9 (by decide) (fun c2 => ?_) (fun c2 => ?_)
      · refine lv_iconst (v := jI (-1)) hx hb dX9_named_34 rfl ?_
        rw [hQ9]
        refine ret_i (mc := 0) (ms := 0) hx hb hr hlocks hw hS (by first | exact Nat.le_of_ble_eq_true rfl | omega) (by first | exact Nat.le_of_ble_eq_true rfl | omega) dX9_named_35 ?_
        exact ⟨rfl, by omega, by omega, by omega, (nmAt_no (f := fun j => X 45 0 (5 * t + j)) (fun j a b => hnn j a (by omega)) (by omega)).symm⟩
      · refine lv_aload_n hx hb dX9_named_12 rfl (lv_at hl 0 rfl) ?_
        refine x_geto hx hb hf9 hw (by first | exact Int.le_refl 0 | omega) (by first | exact zlt hc40 | omega) sl_40_4 lk17 dX9_named_13 ?_
        refine lv_iconst (v := jI 5) hx hb dX9_named_16 rfl ?_
        refine lv_iload_n hx hb dX9_named_17 rfl (lv_at hl 1 rfl) ?_
        refine x_imul hx hb dX9_named_18 ?_
        refine lv_iload_n hx hb dX9_named_19 rfl (lv_at hl 3 rfl) ?_
        refine x_iadd hx hb dX9_named_20 ?_
        refine x_iald hx hb hK.1 hw (by first | exact Int.le_refl 0 | omega) (by first | exact zlt hc45 | omega) ar_45 (len_E ar_45 (by decide)) (by omega) (by omega) (by omega) dX9_named_21 ?_
        have f3 : 0 ≤ X 45 0 ((5 * t) + k) ∧ X 45 0 ((5 * t) + k) ≤ 19 := hR 45 0 ((5 * t) + k)
        refine lv_iload_n hx hb dX9_named_22 rfl (lv_at hl 2 rfl) ?_
        refine x_icmp_ne (tgt := 28) hx hb (by omega) (by omega) dX9_named_23 (by decide) (fun c4 => ?_) (fun c4 => ?_)
        · refine lv_iinc (v := jI (k + 1)) (lv' := [(3, .int (jI (k + 1))), (0, .ref (ad 40 0)), (1, .int (jI t)), (2, .int (jI name))]) hx hb dX9_named_28 hl (k := 3) rfl (jI_add _ _) (by decide) rfl (fun ls hl => ?_)
          refine lv_goto (tgt := 2) hx hb dX9_named_31 (by decide) ?_
          exact ih2 (k + 1) _ _ _ (by omega) (by omega) (fun j a b => if hj : j = k then (by rw [hj]; omega) else hnn j a (by omega)) hw hS (lv_sub hl [1, 2, 3, 0] rfl)
        · refine lv_iload_n hx hb dX9_named_26 rfl (lv_at hl 3 rfl) ?_
          rw [hQ9]
          refine ret_i (mc := 0) (ms := 0) hx hb hr hlocks hw hS (by first | exact Nat.le_of_ble_eq_true rfl | omega) (by first | exact Nat.le_of_ble_eq_true rfl | omega) dX9_named_27 ?_
          exact ⟨rfl, by omega, by omega, by omega, (nmAt_yes (f := fun j => X 45 0 (5 * t + j)) hnn (by omega) (by show X 45 0 (5 * t + k) = name; omega)).symm⟩
  exact lp2 (5 - 0 : Int).toNat.succ 0 _ _ _ (by omega) (by omega) (fun j a b => by omega) hw hS (lv_sub hl [1, 2, 3, 0] rfl)

set_option maxHeartbeats 4000000 in
set_option maxRecDepth 100000 in
theorem c_X9_isField (l : Launch) (D : va_G) (tc : Nat → ClassId) (base : Nat) (ad : Nat → Int → Nat) (cnt : Nat → Int) (X : Nat → Int → Int → Int) (Y : Nat → Int → Int → Option Int) (ln : Int → Int) (hR : Rng X) (hFx : Fx cnt) (x k : Int) (hx : -2147483648 ≤ x ∧ x ≤ 2147483647) (hk : -2147483648 ≤ k ∧ k ≤ 2147483647) : KI l D tc base yX9_isField wsX9_isField ({ frames := 1, cells := 0, slots := 0, locals := 21 } : Room) [.ref (ad 40 0), .int (jI x), .int (jI k)] (ad, cnt, X, Y, ln) 0 0 (fun z u => u = (ad, cnt, X, Y, ln) ∧ ((z = 1 ∧ 0 ≤ x ∧ x < X 40 0 13 ∧ x ≤ 29 ∧ 0 ≤ k ∧ k < X 44 0 (X 55 0 x) ∧ k ≤ 4) ∨ (z = 0 ∧ Hid (¬ (0 ≤ x ∧ x < X 40 0 13 ∧ 0 ≤ k ∧ k < X 44 0 (X 55 0 x)))))) := by
  refine K_of (cc := cX9_isField) (maxL := 3) (ret := (some .boolean)) (by decide) rfl (Nat.le_of_ble_eq_true rfl) ?_
  intro p e s m below meth c ls hx hb hr hml hown hts hlocks hl hK hw hS
  have hown : s.vm.findClass RX9 = some m.cls := hown
  obtain ⟨av9, hav9⟩ : ∃ a9 : Array Value, a9 = ([.ref (ad 40 0), .int (jI x), .int (jI k)] : List Value).toArray := ⟨_, rfl⟩
  rw [← hav9] at hts ⊢
  obtain ⟨Q9, hQ9⟩ : ∃ q : State → Prop, q = MQ below (QI D tc base (fun z u => u = (ad, cnt, X, Y, ln) ∧ ((z = 1 ∧ 0 ≤ x ∧ x < X 40 0 13 ∧ x ≤ 29 ∧ 0 ≤ k ∧ k < X 44 0 (X 55 0 x) ∧ k ≤ 4) ∨ (z = 0 ∧ Hid (¬ (0 ≤ x ∧ x < X 40 0 13 ∧ 0 ≤ k ∧ k < X 44 0 (X 55 0 x))))))) av9 s 0 0 (frA base) := ⟨_, rfl⟩
  rw [← hQ9]
  have hi9 : ∀ w ∈ wsX90, w ∈ wsX9_isField := fun w h => List.mem_cons_of_mem _ (List.mem_append_right _ h)
  have hf9 : fctx s m _ RX9 wsX9_isField D tc RX9 TX9 51 9 := ⟨hts, hi9, hown, hK.1, rfl⟩
  have lk13 := hts (.fieldLink RX9 13 (TX9 3).1 (TX9 3).2.1 (TX9 3).2.2.1) (gj_X9_isField_0 _ (gp_h))
  have lk45 := hts (.fieldLink RX9 45 (TX9 14).1 (TX9 14).2.1 (TX9 14).2.2.1) (gj_X9_isField_0 _ (gp_1 gp_h))
  have hc40 : cnt 40 = 1 := hFx.at 40 1 (by decide)
  have hc44 : cnt 44 = 1 := hFx.at 44 1 (by decide)
  have hc55 : cnt 55 = 1 := hFx.at 55 1 (by decide)
  have hl : lv_has ls 3 [(0, .ref (ad 40 0)), (1, .int (jI x)), (2, .int (jI k))] := hl
  refine lv_aload_n hx hb dX9_isField_0 rfl (lv_at hl 0 rfl) ?_
  refine lv_iload_n hx hb dX9_isField_1 rfl (lv_at hl 1 rfl) ?_
  refine gos_i (run_V (As := [.int (jI x)]) (rest := []) hx hb hml hown hts (c_X9_isThing l D tc base ad cnt X Y ln hR hFx x (by omega)) (cwV 1 hts gX9_isField_X9_isThing rfl rfl rfl (by first | exact hd_X9_isThing | decide +kernel) ⟨Nat.le_of_ble_eq_true rfl, Nat.le_of_ble_eq_true rfl⟩) hK hw (by first | exact Int.le_refl 0 | omega) (by first | exact zlt hc40 | omega) sl_40_0 rfl rfl hl.1 rfl (Nat.le_of_ble_eq_true rfl) dX9_isField_2 ⟨Nat.le_of_ble_eq_true rfl, Nat.le_of_ble_eq_true rfl⟩) hS (fun z1 u2 H locs p3 hw hS => ?_)
  obtain ⟨eu2, p3⟩ := p3
  subst eu2
  rcases p3 with ⟨ez1, p3⟩ | ⟨ez1, p3⟩
  · subst ez1
    refine x_if_eqF (tgt := 31) hx hb (by omega) (by decide) dX9_isField_5 (by decide) ?_
    refine lv_iload_n hx hb dX9_isField_8 rfl (lv_at hl 2 rfl) ?_
    refine x_if_lt (tgt := 31) hx hb (by omega) dX9_isField_9 (by decide) (fun c4 => ?_) (fun c4 => ?_)
    · refine lv_iconst (v := jI 0) hx hb dX9_isField_31 rfl ?_
      rw [hQ9]
      refine ret_z (mc := 0) (ms := 0) hx hb hr hlocks hw hS (by first | exact Nat.le_of_ble_eq_true rfl | omega) (by first | exact Nat.le_of_ble_eq_true rfl | omega) dX9_isField_32 (by omega) ?_
      exact ⟨rfl, Or.inr ⟨rfl, (by first | omega | (intro q; first | omega | (simp only [Hid] at *; omega)))⟩⟩
    · refine lv_iload_n hx hb dX9_isField_12 rfl (lv_at hl 2 rfl) ?_
      refine lv_aload_n hx hb dX9_isField_13 rfl (lv_at hl 0 rfl) ?_
      refine x_geto hx hb hf9 hw (by first | exact Int.le_refl 0 | omega) (by first | exact zlt hc40 | omega) sl_40_3 lk13 dX9_isField_14 ?_
      refine lv_aload_n hx hb dX9_isField_17 rfl (lv_at hl 0 rfl) ?_
      refine x_geto hx hb hf9 hw (by first | exact Int.le_refl 0 | omega) (by first | exact zlt hc40 | omega) sl_40_14 lk45 dX9_isField_18 ?_
      refine lv_iload_n hx hb dX9_isField_21 rfl (lv_at hl 1 rfl) ?_
      refine x_iald hx hb hK.1 hw (by first | exact Int.le_refl 0 | omega) (by first | exact zlt hc55 | omega) ar_55 (len_E ar_55 (by decide)) (by omega) (by omega) (by omega) dX9_isField_22 ?_
      have f5 : 0 ≤ X 55 0 x ∧ X 55 0 x ≤ 7 := hR 55 0 x
      refine x_iald hx hb hK.1 hw (by first | exact Int.le_refl 0 | omega) (by first | exact zlt hc44 | omega) ar_44 (len_E ar_44 (by decide)) (by omega) (by omega) (by omega) dX9_isField_23 ?_
      have f6 : 0 ≤ X 44 0 (X 55 0 x) ∧ X 44 0 (X 55 0 x) ≤ 5 := hR 44 0 (X 55 0 x)
      refine x_icmp_ge (tgt := 31) hx hb (by omega) (by omega) dX9_isField_24 (by decide) (fun c7 => ?_) (fun c7 => ?_)
      · refine lv_iconst (v := jI 0) hx hb dX9_isField_31 rfl ?_
        rw [hQ9]
        refine ret_z (mc := 0) (ms := 0) hx hb hr hlocks hw hS (by first | exact Nat.le_of_ble_eq_true rfl | omega) (by first | exact Nat.le_of_ble_eq_true rfl | omega) dX9_isField_32 (by omega) ?_
        exact ⟨rfl, Or.inr ⟨rfl, (by first | omega | (intro q; first | omega | (simp only [Hid] at *; omega)))⟩⟩
      · refine lv_iconst (v := jI 1) hx hb dX9_isField_27 rfl ?_
        refine lv_goto (tgt := 32) hx hb dX9_isField_28 (by decide) ?_
        rw [hQ9]
        refine ret_z (mc := 0) (ms := 0) hx hb hr hlocks hw hS (by first | exact Nat.le_of_ble_eq_true rfl | omega) (by first | exact Nat.le_of_ble_eq_true rfl | omega) dX9_isField_32 (by omega) ?_
        exact ⟨rfl, Or.inl ⟨rfl, by omega⟩⟩
  · subst ez1
    refine x_if_eqT (tgt := 31) hx hb (by omega) (by decide) dX9_isField_5 (by decide) ?_
    refine lv_iconst (v := jI 0) hx hb dX9_isField_31 rfl ?_
    rw [hQ9]
    refine ret_z (mc := 0) (ms := 0) hx hb hr hlocks hw hS (by first | exact Nat.le_of_ble_eq_true rfl | omega) (by first | exact Nat.le_of_ble_eq_true rfl | omega) dX9_isField_32 (by omega) ?_
    exact ⟨rfl, Or.inr ⟨rfl, (by first | omega | (intro q; first | omega | (simp only [Hid] at *; omega)))⟩⟩

set_option maxHeartbeats 4000000 in
set_option maxRecDepth 100000 in
theorem c_X9_isSave (l : Launch) (D : va_G) (tc : Nat → ClassId) (base : Nat) (ad : Nat → Int → Nat) (cnt : Nat → Int) (X : Nat → Int → Int → Int) (Y : Nat → Int → Int → Option Int) (ln : Int → Int) (hR : Rng X) (hFx : Fx cnt) (x : Int) (hx : -2147483648 ≤ x ∧ x ≤ 2147483647) : KI l D tc base yX9_isSave wsX9_isSave ({ frames := 0, cells := 0, slots := 0, locals := 0 } : Room) [.ref (ad 40 0), .int (jI x)] (ad, cnt, X, Y, ln) 0 0 (fun z u => u = (ad, cnt, X, Y, ln) ∧ ((z = 1 ∧ 0 ≤ x ∧ x < 4) ∨ (z = 0 ∧ Hid (¬ (0 ≤ x ∧ x < 4))))) := by
  refine K_of (cc := cX9_isSave) (maxL := 2) (ret := (some .boolean)) (by decide) rfl (Nat.le_of_ble_eq_true rfl) ?_
  intro p e s m below meth c ls hx hb hr hml hown hts hlocks hl hK hw hS
  have hown : s.vm.findClass RX9 = some m.cls := hown
  obtain ⟨av9, hav9⟩ : ∃ a9 : Array Value, a9 = ([.ref (ad 40 0), .int (jI x)] : List Value).toArray := ⟨_, rfl⟩
  rw [← hav9] at hts ⊢
  obtain ⟨Q9, hQ9⟩ : ∃ q : State → Prop, q = MQ below (QI D tc base (fun z u => u = (ad, cnt, X, Y, ln) ∧ ((z = 1 ∧ 0 ≤ x ∧ x < 4) ∨ (z = 0 ∧ Hid (¬ (0 ≤ x ∧ x < 4)))))) av9 s 0 0 (frA base) := ⟨_, rfl⟩
  rw [← hQ9]
  have hc40 : cnt 40 = 1 := hFx.at 40 1 (by decide)
  have hl : lv_has ls 2 [(0, .ref (ad 40 0)), (1, .int (jI x))] := hl
  refine lv_iload_n hx hb dX9_isSave_0 rfl (lv_at hl 1 rfl) ?_
  refine x_if_lt (tgt := 13) hx hb (by omega) dX9_isSave_1 (by decide) (fun c1 => ?_) (fun c1 => ?_)
  · refine lv_iconst (v := jI 0) hx hb dX9_isSave_13 rfl ?_
    rw [hQ9]
    refine ret_z (mc := 0) (ms := 0) hx hb hr hlocks hw hS (by first | exact Nat.le_of_ble_eq_true rfl | omega) (by first | exact Nat.le_of_ble_eq_true rfl | omega) dX9_isSave_14 (by omega) ?_
    exact ⟨rfl, Or.inr ⟨rfl, (by first | omega | (intro q; first | omega | (simp only [Hid] at *; omega)))⟩⟩
  · refine lv_iload_n hx hb dX9_isSave_4 rfl (lv_at hl 1 rfl) ?_
    refine lv_iconst (v := jI 4) hx hb dX9_isSave_5 rfl ?_
    refine x_icmp_ge (tgt := 13) hx hb (by omega) (by omega) dX9_isSave_6 (by decide) (fun c2 => ?_) (fun c2 => ?_)
    · refine lv_iconst (v := jI 0) hx hb dX9_isSave_13 rfl ?_
      rw [hQ9]
      refine ret_z (mc := 0) (ms := 0) hx hb hr hlocks hw hS (by first | exact Nat.le_of_ble_eq_true rfl | omega) (by first | exact Nat.le_of_ble_eq_true rfl | omega) dX9_isSave_14 (by omega) ?_
      exact ⟨rfl, Or.inr ⟨rfl, (by first | omega | (intro q; first | omega | (simp only [Hid] at *; omega)))⟩⟩
    · refine lv_iconst (v := jI 1) hx hb dX9_isSave_9 rfl ?_
      refine lv_goto (tgt := 14) hx hb dX9_isSave_10 (by decide) ?_
      rw [hQ9]
      refine ret_z (mc := 0) (ms := 0) hx hb hr hlocks hw hS (by first | exact Nat.le_of_ble_eq_true rfl | omega) (by first | exact Nat.le_of_ble_eq_true rfl | omega) dX9_isSave_14 (by omega) ?_
      exact ⟨rfl, Or.inl ⟨rfl, by omega⟩⟩

set_option maxHeartbeats 4000000 in
set_option maxRecDepth 100000 in
theorem c_X9_isFull (l : Launch) (D : va_G) (tc : Nat → ClassId) (base : Nat) (ad : Nat → Int → Nat) (cnt : Nat → Int) (X : Nat → Int → Int → Int) (Y : Nat → Int → Int → Option Int) (ln : Int → Int) (hR : Rng X) (hFx : Fx cnt) : KI l D tc base yX9_isFull wsX9_isFull ({ frames := 0, cells := 0, slots := 0, locals := 0 } : Room) [.ref (ad 40 0)] (ad, cnt, X, Y, ln) 0 0 (fun z u => u = (ad, cnt, X, Y, ln) ∧ ((z = 1 ∧ 0 < X 40 0 20 ∧ X 40 0 22 = 80) ∨ (z = 0 ∧ (0 < X 40 0 20 → X 40 0 22 ≤ 79)))) := by
  refine K_of (cc := cX9_isFull) (maxL := 1) (ret := (some .boolean)) (by decide) rfl (Nat.le_of_ble_eq_true rfl) ?_
  intro p e s m below meth c ls hx hb hr hml hown hts hlocks hl hK hw hS
  have hown : s.vm.findClass RX9 = some m.cls := hown
  obtain ⟨av9, hav9⟩ : ∃ a9 : Array Value, a9 = ([.ref (ad 40 0)] : List Value).toArray := ⟨_, rfl⟩
  rw [← hav9] at hts ⊢
  obtain ⟨Q9, hQ9⟩ : ∃ q : State → Prop, q = MQ below (QI D tc base (fun z u => u = (ad, cnt, X, Y, ln) ∧ ((z = 1 ∧ 0 < X 40 0 20 ∧ X 40 0 22 = 80) ∨ (z = 0 ∧ (0 < X 40 0 20 → X 40 0 22 ≤ 79))))) av9 s 0 0 (frA base) := ⟨_, rfl⟩
  rw [← hQ9]
  have hi9 : ∀ w ∈ wsX90, w ∈ wsX9_isFull := fun w h => List.mem_cons_of_mem _ (List.mem_append_right _ h)
  have hf9 : fctx s m _ RX9 wsX9_isFull D tc RX9 TX9 51 9 := ⟨hts, hi9, hown, hK.1, rfl⟩
  have lk165 := hts (.fieldLink RX9 165 (TX9 20).1 (TX9 20).2.1 (TX9 20).2.2.1) (gj_X9_isFull_0 _ (gp_h))
  have lk173 := hts (.fieldLink RX9 173 (TX9 22).1 (TX9 22).2.1 (TX9 22).2.2.1) (gj_X9_isFull_0 _ (gp_1 gp_h))
  have hc40 : cnt 40 = 1 := hFx.at 40 1 (by decide)
  have hl : lv_has ls 1 [(0, .ref (ad 40 0))] := hl
  have fsmarks : 0 ≤ X 40 0 20 ∧ X 40 0 20 ≤ 4 := hR 40 0 20
  have fsnotes : 0 ≤ X 40 0 22 ∧ X 40 0 22 ≤ 80 := hR 40 0 22
  refine lv_aload_n hx hb dX9_isFull_0 rfl (lv_at hl 0 rfl) ?_
  refine x_geti (jz := 20) hx hb hf9 hw (by first | exact Int.le_refl 0 | omega) (by first | exact zlt hc40 | omega) sl_40_20 rfl lk165 dX9_isFull_1 ?_
  have f1 : 0 ≤ X 40 0 20 ∧ X 40 0 20 ≤ 4 := hR 40 0 20
  refine x_if_le (tgt := 20) hx hb (by omega) dX9_isFull_4 (by decide) (fun c2 => ?_) (fun c2 => ?_)
  · refine lv_iconst (v := jI 0) hx hb dX9_isFull_20 rfl ?_
    rw [hQ9]
    refine ret_z (mc := 0) (ms := 0) hx hb hr hlocks hw hS (by first | exact Nat.le_of_ble_eq_true rfl | omega) (by first | exact Nat.le_of_ble_eq_true rfl | omega) dX9_isFull_21 (by omega) ?_
    exact ⟨rfl, Or.inr ⟨rfl, (by first | omega | (intro q; first | omega | (simp only [Hid] at *; omega)))⟩⟩
  · refine lv_aload_n hx hb dX9_isFull_7 rfl (lv_at hl 0 rfl) ?_
    refine x_geti (jz := 22) hx hb hf9 hw (by first | exact Int.le_refl 0 | omega) (by first | exact zlt hc40 | omega) sl_40_22 rfl lk173 dX9_isFull_8 ?_
    have f3 : 0 ≤ X 40 0 22 ∧ X 40 0 22 ≤ 80 := hR 40 0 22
    refine lv_bipush (v := jI 80) hx hb dX9_isFull_11 (by decide) ?_
    refine x_icmp_ne (tgt := 20) hx hb (by omega) (by omega) dX9_isFull_13 (by decide) (fun c4 => ?_) (fun c4 => ?_)
    · refine lv_iconst (v := jI 0) hx hb dX9_isFull_20 rfl ?_
      rw [hQ9]
      refine ret_z (mc := 0) (ms := 0) hx hb hr hlocks hw hS (by first | exact Nat.le_of_ble_eq_true rfl | omega) (by first | exact Nat.le_of_ble_eq_true rfl | omega) dX9_isFull_21 (by omega) ?_
      exact ⟨rfl, Or.inr ⟨rfl, (by first | omega | (intro q; first | omega | (simp only [Hid] at *; omega)))⟩⟩
    · refine lv_iconst (v := jI 1) hx hb dX9_isFull_16 rfl ?_
      refine lv_goto (tgt := 21) hx hb dX9_isFull_17 (by decide) ?_
      rw [hQ9]
      refine ret_z (mc := 0) (ms := 0) hx hb hr hlocks hw hS (by first | exact Nat.le_of_ble_eq_true rfl | omega) (by first | exact Nat.le_of_ble_eq_true rfl | omega) dX9_isFull_21 (by omega) ?_
      exact ⟨rfl, Or.inl ⟨rfl, by omega⟩⟩

set_option maxHeartbeats 4000000 in
set_option maxRecDepth 100000 in
theorem c_X9_goes (l : Launch) (D : va_G) (tc : Nat → ClassId) (base : Nat) (ad : Nat → Int → Nat) (cnt : Nat → Int) (X : Nat → Int → Int → Int) (Y : Nat → Int → Int → Option Int) (ln : Int → Int) (a b : Int) (ha : 0 ≤ a ∧ a ≤ 5) (hb0 : 0 ≤ b ∧ b ≤ 5) : KI l D tc base yX9_goes wsX9_goes ({ frames := 0, cells := 0, slots := 0, locals := 0 } : Room) [.int (jI a), .int (jI b)] (ad, cnt, X, Y, ln) 0 0 (fun z u => u = (ad, cnt, X, Y, ln) ∧ ((z = 1 ∧ (a = b ∨ (a = 1 ∧ b = 0) ∨ (a = 3 ∧ 3 < b) ∨ (a = 4 ∧ b = 5))) ∨ (z = 0 ∧ Hid (¬ ((a = b ∨ (a = 1 ∧ b = 0) ∨ (a = 3 ∧ 3 < b) ∨ (a = 4 ∧ b = 5))))))) := by
  refine K_of (cc := cX9_goes) (maxL := 2) (ret := (some .boolean)) (by decide) rfl (Nat.le_of_ble_eq_true rfl) ?_
  intro p e s m below meth c ls hx hb hr hml hown hts hlocks hl hK hw hS
  have hown : s.vm.findClass RX9 = some m.cls := hown
  obtain ⟨av9, hav9⟩ : ∃ a9 : Array Value, a9 = ([.int (jI a), .int (jI b)] : List Value).toArray := ⟨_, rfl⟩
  rw [← hav9] at hts ⊢
  obtain ⟨Q9, hQ9⟩ : ∃ q : State → Prop, q = MQ below (QI D tc base (fun z u => u = (ad, cnt, X, Y, ln) ∧ ((z = 1 ∧ (a = b ∨ (a = 1 ∧ b = 0) ∨ (a = 3 ∧ 3 < b) ∨ (a = 4 ∧ b = 5))) ∨ (z = 0 ∧ Hid (¬ ((a = b ∨ (a = 1 ∧ b = 0) ∨ (a = 3 ∧ 3 < b) ∨ (a = 4 ∧ b = 5)))))))) av9 s 0 0 (frA base) := ⟨_, rfl⟩
  rw [← hQ9]
  have hl : lv_has ls 2 [(0, .int (jI a)), (1, .int (jI b))] := hl
  refine lv_iload_n hx hb dX9_goes_0 rfl (lv_at hl 0 rfl) ?_
  refine lv_iload_n hx hb dX9_goes_1 rfl (lv_at hl 1 rfl) ?_
  refine x_icmp_eq (tgt := 34) hx hb (by omega) (by omega) dX9_goes_2 (by decide) (fun c1 => ?_) (fun c1 => ?_)
  · refine lv_iconst (v := jI 1) hx hb dX9_goes_34 rfl ?_
    refine lv_goto (tgt := 39) hx hb dX9_goes_35 (by decide) ?_
    rw [hQ9]
    refine ret_z (mc := 0) (ms := 0) hx hb hr hlocks hw hS (by first | exact Nat.le_of_ble_eq_true rfl | omega) (by first | exact Nat.le_of_ble_eq_true rfl | omega) dX9_goes_39 (by omega) ?_
    exact ⟨rfl, Or.inl ⟨rfl, by omega⟩⟩
  · refine lv_iload_n hx hb dX9_goes_5 rfl (lv_at hl 0 rfl) ?_
    refine lv_iconst (v := jI 1) hx hb dX9_goes_6 rfl ?_
    refine x_icmp_ne (tgt := 14) hx hb (by omega) (by omega) dX9_goes_7 (by decide) (fun c2 => ?_) (fun c2 => ?_)
    · refine lv_iload_n hx hb dX9_goes_14 rfl (lv_at hl 0 rfl) ?_
      refine lv_iconst (v := jI 3) hx hb dX9_goes_15 rfl ?_
      refine x_icmp_ne (tgt := 24) hx hb (by omega) (by omega) dX9_goes_16 (by decide) (fun c3 => ?_) (fun c3 => ?_)
      · refine lv_iload_n hx hb dX9_goes_24 rfl (lv_at hl 0 rfl) ?_
        refine lv_iconst (v := jI 4) hx hb dX9_goes_25 rfl ?_
        refine x_icmp_ne (tgt := 38) hx hb (by omega) (by omega) dX9_goes_26 (by decide) (fun c4 => ?_) (fun c4 => ?_)
        · refine lv_iconst (v := jI 0) hx hb dX9_goes_38 rfl ?_
          rw [hQ9]
          refine ret_z (mc := 0) (ms := 0) hx hb hr hlocks hw hS (by first | exact Nat.le_of_ble_eq_true rfl | omega) (by first | exact Nat.le_of_ble_eq_true rfl | omega) dX9_goes_39 (by omega) ?_
          exact ⟨rfl, Or.inr ⟨rfl, (by first | omega | (intro q; first | omega | (simp only [Hid] at *; omega)))⟩⟩
        · refine lv_iload_n hx hb dX9_goes_29 rfl (lv_at hl 1 rfl) ?_
          refine lv_iconst (v := jI 5) hx hb dX9_goes_30 rfl ?_
          refine x_icmp_ne (tgt := 38) hx hb (by omega) (by omega) dX9_goes_31 (by decide) (fun c5 => ?_) (fun c5 => ?_)
          · refine lv_iconst (v := jI 0) hx hb dX9_goes_38 rfl ?_
            rw [hQ9]
            refine ret_z (mc := 0) (ms := 0) hx hb hr hlocks hw hS (by first | exact Nat.le_of_ble_eq_true rfl | omega) (by first | exact Nat.le_of_ble_eq_true rfl | omega) dX9_goes_39 (by omega) ?_
            exact ⟨rfl, Or.inr ⟨rfl, (by first | omega | (intro q; first | omega | (simp only [Hid] at *; omega)))⟩⟩
          · refine lv_iconst (v := jI 1) hx hb dX9_goes_34 rfl ?_
            refine lv_goto (tgt := 39) hx hb dX9_goes_35 (by decide) ?_
            rw [hQ9]
            refine ret_z (mc := 0) (ms := 0) hx hb hr hlocks hw hS (by first | exact Nat.le_of_ble_eq_true rfl | omega) (by first | exact Nat.le_of_ble_eq_true rfl | omega) dX9_goes_39 (by omega) ?_
            exact ⟨rfl, Or.inl ⟨rfl, by omega⟩⟩
      · refine lv_iload_n hx hb dX9_goes_19 rfl (lv_at hl 1 rfl) ?_
        refine lv_iconst (v := jI 3) hx hb dX9_goes_20 rfl ?_
        refine x_icmp_gt (tgt := 34) hx hb (by omega) (by omega) dX9_goes_21 (by decide) (fun c6 => ?_) (fun c6 => ?_)
        · refine lv_iconst (v := jI 1) hx hb dX9_goes_34 rfl ?_
          refine lv_goto (tgt := 39) hx hb dX9_goes_35 (by decide) ?_
          rw [hQ9]
          refine ret_z (mc := 0) (ms := 0) hx hb hr hlocks hw hS (by first | exact Nat.le_of_ble_eq_true rfl | omega) (by first | exact Nat.le_of_ble_eq_true rfl | omega) dX9_goes_39 (by omega) ?_
          exact ⟨rfl, Or.inl ⟨rfl, by omega⟩⟩
        · refine lv_iload_n hx hb dX9_goes_24 rfl (lv_at hl 0 rfl) ?_
          refine lv_iconst (v := jI 4) hx hb dX9_goes_25 rfl ?_
          refine x_icmp_ne (tgt := 38) hx hb (by omega) (by omega) dX9_goes_26 (by decide) (fun c7 => ?_) (fun c7 => ?_)
          · refine lv_iconst (v := jI 0) hx hb dX9_goes_38 rfl ?_
            rw [hQ9]
            refine ret_z (mc := 0) (ms := 0) hx hb hr hlocks hw hS (by first | exact Nat.le_of_ble_eq_true rfl | omega) (by first | exact Nat.le_of_ble_eq_true rfl | omega) dX9_goes_39 (by omega) ?_
            exact ⟨rfl, Or.inr ⟨rfl, (by first | omega | (intro q; first | omega | (simp only [Hid] at *; omega)))⟩⟩
          · refine lv_iload_n hx hb dX9_goes_29 rfl (lv_at hl 1 rfl) ?_
            refine lv_iconst (v := jI 5) hx hb dX9_goes_30 rfl ?_
            refine x_icmp_ne (tgt := 38) hx hb (by omega) (by omega) dX9_goes_31 (by decide) (fun c8 => ?_) (fun c8 => ?_)
            · refine lv_iconst (v := jI 0) hx hb dX9_goes_38 rfl ?_
              rw [hQ9]
              refine ret_z (mc := 0) (ms := 0) hx hb hr hlocks hw hS (by first | exact Nat.le_of_ble_eq_true rfl | omega) (by first | exact Nat.le_of_ble_eq_true rfl | omega) dX9_goes_39 (by omega) ?_
              exact ⟨rfl, Or.inr ⟨rfl, (by first | omega | (intro q; first | omega | (simp only [Hid] at *; omega)))⟩⟩
            · refine lv_iconst (v := jI 1) hx hb dX9_goes_34 rfl ?_
              refine lv_goto (tgt := 39) hx hb dX9_goes_35 (by decide) ?_
              rw [hQ9]
              refine ret_z (mc := 0) (ms := 0) hx hb hr hlocks hw hS (by first | exact Nat.le_of_ble_eq_true rfl | omega) (by first | exact Nat.le_of_ble_eq_true rfl | omega) dX9_goes_39 (by omega) ?_
              exact ⟨rfl, Or.inl ⟨rfl, by omega⟩⟩
    · refine lv_iload_n hx hb dX9_goes_10 rfl (lv_at hl 1 rfl) ?_
      refine x_if_eq (tgt := 34) hx hb (by omega) dX9_goes_11 (by decide) (fun c9 => ?_) (fun c9 => ?_)
      · refine lv_iconst (v := jI 1) hx hb dX9_goes_34 rfl ?_
        refine lv_goto (tgt := 39) hx hb dX9_goes_35 (by decide) ?_
        rw [hQ9]
        refine ret_z (mc := 0) (ms := 0) hx hb hr hlocks hw hS (by first | exact Nat.le_of_ble_eq_true rfl | omega) (by first | exact Nat.le_of_ble_eq_true rfl | omega) dX9_goes_39 (by omega) ?_
        exact ⟨rfl, Or.inl ⟨rfl, by omega⟩⟩
      · refine lv_iload_n hx hb dX9_goes_14 rfl (lv_at hl 0 rfl) ?_
        refine lv_iconst (v := jI 3) hx hb dX9_goes_15 rfl ?_
        refine x_icmp_ne (tgt := 24) hx hb (by omega) (by omega) dX9_goes_16 (by decide) (fun c10 => ?_) (fun c10 => ?_)
        · refine lv_iload_n hx hb dX9_goes_24 rfl (lv_at hl 0 rfl) ?_
          refine lv_iconst (v := jI 4) hx hb dX9_goes_25 rfl ?_
          refine x_icmp_ne (tgt := 38) hx hb (by omega) (by omega) dX9_goes_26 (by decide) (fun c11 => ?_) (fun c11 => ?_)
          · refine lv_iconst (v := jI 0) hx hb dX9_goes_38 rfl ?_
            rw [hQ9]
            refine ret_z (mc := 0) (ms := 0) hx hb hr hlocks hw hS (by first | exact Nat.le_of_ble_eq_true rfl | omega) (by first | exact Nat.le_of_ble_eq_true rfl | omega) dX9_goes_39 (by omega) ?_
            exact ⟨rfl, Or.inr ⟨rfl, (by first | omega | (intro q; first | omega | (simp only [Hid] at *; omega)))⟩⟩
          · refine lv_iload_n hx hb dX9_goes_29 rfl (lv_at hl 1 rfl) ?_
            refine lv_iconst (v := jI 5) hx hb dX9_goes_30 rfl ?_
            refine x_icmp_ne (tgt := 38) hx hb (by omega) (by omega) dX9_goes_31 (by decide) (fun c12 => ?_) (fun c12 => ?_)
            · refine lv_iconst (v := jI 0) hx hb dX9_goes_38 rfl ?_
              rw [hQ9]
              refine ret_z (mc := 0) (ms := 0) hx hb hr hlocks hw hS (by first | exact Nat.le_of_ble_eq_true rfl | omega) (by first | exact Nat.le_of_ble_eq_true rfl | omega) dX9_goes_39 (by omega) ?_
              exact ⟨rfl, Or.inr ⟨rfl, (by first | omega | (intro q; first | omega | (simp only [Hid] at *; omega)))⟩⟩
            · refine lv_iconst (v := jI 1) hx hb dX9_goes_34 rfl ?_
              refine lv_goto (tgt := 39) hx hb dX9_goes_35 (by decide) ?_
              rw [hQ9]
              refine ret_z (mc := 0) (ms := 0) hx hb hr hlocks hw hS (by first | exact Nat.le_of_ble_eq_true rfl | omega) (by first | exact Nat.le_of_ble_eq_true rfl | omega) dX9_goes_39 (by omega) ?_
              exact ⟨rfl, Or.inl ⟨rfl, by omega⟩⟩
        · refine lv_iload_n hx hb dX9_goes_19 rfl (lv_at hl 1 rfl) ?_
          refine lv_iconst (v := jI 3) hx hb dX9_goes_20 rfl ?_
          refine x_icmp_gt (tgt := 34) hx hb (by omega) (by omega) dX9_goes_21 (by decide) (fun c13 => ?_) (fun c13 => ?_)
          · refine lv_iconst (v := jI 1) hx hb dX9_goes_34 rfl ?_
            refine lv_goto (tgt := 39) hx hb dX9_goes_35 (by decide) ?_
            rw [hQ9]
            refine ret_z (mc := 0) (ms := 0) hx hb hr hlocks hw hS (by first | exact Nat.le_of_ble_eq_true rfl | omega) (by first | exact Nat.le_of_ble_eq_true rfl | omega) dX9_goes_39 (by omega) ?_
            exact ⟨rfl, Or.inl ⟨rfl, by omega⟩⟩
          · refine lv_iload_n hx hb dX9_goes_24 rfl (lv_at hl 0 rfl) ?_
            refine lv_iconst (v := jI 4) hx hb dX9_goes_25 rfl ?_
            refine x_icmp_ne (tgt := 38) hx hb (by omega) (by omega) dX9_goes_26 (by decide) (fun c14 => ?_) (fun c14 => ?_)
            · refine lv_iconst (v := jI 0) hx hb dX9_goes_38 rfl ?_
              rw [hQ9]
              refine ret_z (mc := 0) (ms := 0) hx hb hr hlocks hw hS (by first | exact Nat.le_of_ble_eq_true rfl | omega) (by first | exact Nat.le_of_ble_eq_true rfl | omega) dX9_goes_39 (by omega) ?_
              exact ⟨rfl, Or.inr ⟨rfl, (by first | omega | (intro q; first | omega | (simp only [Hid] at *; omega)))⟩⟩
            · refine lv_iload_n hx hb dX9_goes_29 rfl (lv_at hl 1 rfl) ?_
              refine lv_iconst (v := jI 5) hx hb dX9_goes_30 rfl ?_
              refine x_icmp_ne (tgt := 38) hx hb (by omega) (by omega) dX9_goes_31 (by decide) (fun c15 => ?_) (fun c15 => ?_)
              · refine lv_iconst (v := jI 0) hx hb dX9_goes_38 rfl ?_
                rw [hQ9]
                refine ret_z (mc := 0) (ms := 0) hx hb hr hlocks hw hS (by first | exact Nat.le_of_ble_eq_true rfl | omega) (by first | exact Nat.le_of_ble_eq_true rfl | omega) dX9_goes_39 (by omega) ?_
                exact ⟨rfl, Or.inr ⟨rfl, (by first | omega | (intro q; first | omega | (simp only [Hid] at *; omega)))⟩⟩
              · refine lv_iconst (v := jI 1) hx hb dX9_goes_34 rfl ?_
                refine lv_goto (tgt := 39) hx hb dX9_goes_35 (by decide) ?_
                rw [hQ9]
                refine ret_z (mc := 0) (ms := 0) hx hb hr hlocks hw hS (by first | exact Nat.le_of_ble_eq_true rfl | omega) (by first | exact Nat.le_of_ble_eq_true rfl | omega) dX9_goes_39 (by omega) ?_
                exact ⟨rfl, Or.inl ⟨rfl, by omega⟩⟩

set_option maxHeartbeats 4000000 in
set_option maxRecDepth 100000 in
theorem c_X9_isLane (l : Launch) (D : va_G) (tc : Nat → ClassId) (base : Nat) (ad : Nat → Int → Nat) (cnt : Nat → Int) (X : Nat → Int → Int → Int) (Y : Nat → Int → Int → Option Int) (ln : Int → Int) (hR : Rng X) (hFx : Fx cnt) (x k a b : Int) (hx0 : 0 ≤ x ∧ x ≤ 29) (hk0 : 0 ≤ k ∧ k ≤ 4) (ha0 : 0 ≤ a ∧ a ≤ 5) (hb0 : 0 ≤ b ∧ b ≤ 5) : KI l D tc base yX9_isLane wsX9_isLane ({ frames := 1, cells := 0, slots := 0, locals := 22 } : Room) [.ref (ad 40 0), .int (jI x), .int (jI k), .int (jI a), .int (jI b)] (ad, cnt, X, Y, ln) 0 0 (fun z u => u = (ad, cnt, X, Y, ln) ∧ ((z = 1 ∧ k < X 44 0 (X 55 0 x) ∧ a ≤ X 46 0 (5 * X 55 0 x + k) ∧ X 46 0 (5 * X 55 0 x + k) ≤ b) ∨ (z = 0 ∧ Hid (¬ (k < X 44 0 (X 55 0 x) ∧ a ≤ X 46 0 (5 * X 55 0 x + k) ∧ X 46 0 (5 * X 55 0 x + k) ≤ b))))) := by
  refine K_of (cc := cX9_isLane) (maxL := 5) (ret := (some .boolean)) (by decide) rfl (Nat.le_of_ble_eq_true rfl) ?_
  intro p e s m below meth c ls hx hb hr hml hown hts hlocks hl hK hw hS
  have hown : s.vm.findClass RX9 = some m.cls := hown
  obtain ⟨av9, hav9⟩ : ∃ a9 : Array Value, a9 = ([.ref (ad 40 0), .int (jI x), .int (jI k), .int (jI a), .int (jI b)] : List Value).toArray := ⟨_, rfl⟩
  rw [← hav9] at hts ⊢
  obtain ⟨Q9, hQ9⟩ : ∃ q : State → Prop, q = MQ below (QI D tc base (fun z u => u = (ad, cnt, X, Y, ln) ∧ ((z = 1 ∧ k < X 44 0 (X 55 0 x) ∧ a ≤ X 46 0 (5 * X 55 0 x + k) ∧ X 46 0 (5 * X 55 0 x + k) ≤ b) ∨ (z = 0 ∧ Hid (¬ (k < X 44 0 (X 55 0 x) ∧ a ≤ X 46 0 (5 * X 55 0 x + k) ∧ X 46 0 (5 * X 55 0 x + k) ≤ b)))))) av9 s 0 0 (frA base) := ⟨_, rfl⟩
  rw [← hQ9]
  have hi9 : ∀ w ∈ wsX90, w ∈ wsX9_isLane := fun w h => List.mem_cons_of_mem _ (List.mem_append_right _ h)
  have hf9 : fctx s m _ RX9 wsX9_isLane D tc RX9 TX9 51 9 := ⟨hts, hi9, hown, hK.1, rfl⟩
  have lk13 := hts (.fieldLink RX9 13 (TX9 3).1 (TX9 3).2.1 (TX9 3).2.2.1) (gj_X9_isLane_0 _ (gp_h))
  have lk45 := hts (.fieldLink RX9 45 (TX9 14).1 (TX9 14).2.1 (TX9 14).2.2.1) (gj_X9_isLane_0 _ (gp_1 gp_h))
  have hc40 : cnt 40 = 1 := hFx.at 40 1 (by decide)
  have hc44 : cnt 44 = 1 := hFx.at 44 1 (by decide)
  have hc55 : cnt 55 = 1 := hFx.at 55 1 (by decide)
  have hl : lv_has ls 5 [(0, .ref (ad 40 0)), (1, .int (jI x)), (2, .int (jI k)), (3, .int (jI a)), (4, .int (jI b))] := hl
  refine lv_iload_n hx hb dX9_isLane_0 rfl (lv_at hl 2 rfl) ?_
  refine lv_aload_n hx hb dX9_isLane_1 rfl (lv_at hl 0 rfl) ?_
  refine x_geto hx hb hf9 hw (by first | exact Int.le_refl 0 | omega) (by first | exact zlt hc40 | omega) sl_40_3 lk13 dX9_isLane_2 ?_
  refine lv_aload_n hx hb dX9_isLane_5 rfl (lv_at hl 0 rfl) ?_
  refine x_geto hx hb hf9 hw (by first | exact Int.le_refl 0 | omega) (by first | exact zlt hc40 | omega) sl_40_14 lk45 dX9_isLane_6 ?_
  refine lv_iload_n hx hb dX9_isLane_9 rfl (lv_at hl 1 rfl) ?_
  refine x_iald hx hb hK.1 hw (by first | exact Int.le_refl 0 | omega) (by first | exact zlt hc55 | omega) ar_55 (len_E ar_55 (by decide)) (by omega) (by omega) (by omega) dX9_isLane_10 ?_
  have f1 : 0 ≤ X 55 0 x ∧ X 55 0 x ≤ 7 := hR 55 0 x
  refine x_iald hx hb hK.1 hw (by first | exact Int.le_refl 0 | omega) (by first | exact zlt hc44 | omega) ar_44 (len_E ar_44 (by decide)) (by omega) (by omega) (by omega) dX9_isLane_11 ?_
  have f2 : 0 ≤ X 44 0 (X 55 0 x) ∧ X 44 0 (X 55 0 x) ≤ 5 := hR 44 0 (X 55 0 x)
  refine x_icmp_ge (tgt := 40) hx hb (by omega) (by omega) dX9_isLane_12 (by decide) (fun c3 => ?_) (fun c3 => ?_)
  · refine lv_iconst (v := jI 0) hx hb dX9_isLane_40 rfl ?_
    rw [hQ9]
    refine ret_z (mc := 0) (ms := 0) hx hb hr hlocks hw hS (by first | exact Nat.le_of_ble_eq_true rfl | omega) (by first | exact Nat.le_of_ble_eq_true rfl | omega) dX9_isLane_41 (by omega) ?_
    exact ⟨rfl, Or.inr ⟨rfl, (by first | omega | (intro q; first | omega | (simp only [Hid] at *; omega)))⟩⟩
  · refine lv_aload_n hx hb dX9_isLane_15 rfl (lv_at hl 0 rfl) ?_
    refine lv_iload_n hx hb dX9_isLane_16 rfl (lv_at hl 1 rfl) ?_
    refine lv_iload_n hx hb dX9_isLane_17 rfl (lv_at hl 2 rfl) ?_
    refine gos_i (run_V (As := [.int (jI x), .int (jI k)]) (rest := []) hx hb hml hown hts (c_X9_lane l D tc base ad cnt X Y ln hR hFx x k (by omega) (by omega)) (cwV 2 hts gX9_isLane_X9_lane rfl rfl rfl (by first | exact hd_X9_lane | decide +kernel) ⟨Nat.le_of_ble_eq_true rfl, Nat.le_of_ble_eq_true rfl⟩) hK hw (by first | exact Int.le_refl 0 | omega) (by first | exact zlt hc40 | omega) sl_40_0 rfl rfl hl.1 rfl (Nat.le_of_ble_eq_true rfl) dX9_isLane_18 ⟨Nat.le_of_ble_eq_true rfl, Nat.le_of_ble_eq_true rfl⟩) hS (fun z4 u5 H locs p6 hw hS => ?_)
    obtain ⟨eu5, p6⟩ := p6
    subst eu5
    refine lv_iload_n hx hb dX9_isLane_21 rfl (lv_at hl 3 rfl) ?_
    refine x_icmp_lt (tgt := 40) hx hb (by omega) (by omega) dX9_isLane_22 (by decide) (fun c7 => ?_) (fun c7 => ?_)
    · refine lv_iconst (v := jI 0) hx hb dX9_isLane_40 rfl ?_
      rw [hQ9]
      refine ret_z (mc := 0) (ms := 0) hx hb hr hlocks hw hS (by first | exact Nat.le_of_ble_eq_true rfl | omega) (by first | exact Nat.le_of_ble_eq_true rfl | omega) dX9_isLane_41 (by omega) ?_
      exact ⟨rfl, Or.inr ⟨rfl, (by first | omega | (intro q; first | omega | (simp only [Hid] at *; omega)))⟩⟩
    · refine lv_aload_n hx hb dX9_isLane_25 rfl (lv_at hl 0 rfl) ?_
      refine lv_iload_n hx hb dX9_isLane_26 rfl (lv_at hl 1 rfl) ?_
      refine lv_iload_n hx hb dX9_isLane_27 rfl (lv_at hl 2 rfl) ?_
      refine gos_i (run_V (As := [.int (jI x), .int (jI k)]) (rest := []) hx hb hml hown hts (c_X9_lane l D tc base ad cnt X Y ln hR hFx x k (by omega) (by omega)) (cwV 2 hts gX9_isLane_X9_lane rfl rfl rfl (by first | exact hd_X9_lane | decide +kernel) ⟨Nat.le_of_ble_eq_true rfl, Nat.le_of_ble_eq_true rfl⟩) hK hw (by first | exact Int.le_refl 0 | omega) (by first | exact zlt hc40 | omega) sl_40_0 rfl rfl hl.1 rfl (Nat.le_of_ble_eq_true rfl) dX9_isLane_28 ⟨Nat.le_of_ble_eq_true rfl, Nat.le_of_ble_eq_true rfl⟩) hS (fun z8 u9 H locs p10 hw hS => ?_)
      obtain ⟨eu9, p10⟩ := p10
      subst eu9
      refine lv_iload hx hb dX9_isLane_31 (lv_at hl 4 rfl) ?_
      refine x_icmp_gt (tgt := 40) hx hb (by omega) (by omega) dX9_isLane_33 (by decide) (fun c11 => ?_) (fun c11 => ?_)
      · refine lv_iconst (v := jI 0) hx hb dX9_isLane_40 rfl ?_
        rw [hQ9]
        refine ret_z (mc := 0) (ms := 0) hx hb hr hlocks hw hS (by first | exact Nat.le_of_ble_eq_true rfl | omega) (by first | exact Nat.le_of_ble_eq_true rfl | omega) dX9_isLane_41 (by omega) ?_
        exact ⟨rfl, Or.inr ⟨rfl, (by first | omega | (intro q; first | omega | (simp only [Hid] at *; omega)))⟩⟩
      · refine lv_iconst (v := jI 1) hx hb dX9_isLane_36 rfl ?_
        refine lv_goto (tgt := 41) hx hb dX9_isLane_37 (by decide) ?_
        rw [hQ9]
        refine ret_z (mc := 0) (ms := 0) hx hb hr hlocks hw hS (by first | exact Nat.le_of_ble_eq_true rfl | omega) (by first | exact Nat.le_of_ble_eq_true rfl | omega) dX9_isLane_41 (by omega) ?_
        exact ⟨rfl, Or.inl ⟨rfl, by omega⟩⟩

