set_option maxHeartbeats 4000000 in
set_option maxRecDepth 100000 in
theorem c_X9_cut (l : Launch) (D : va_G) (tc : Nat → ClassId) (base : Nat) (ad : Nat → Int → Nat) (cnt : Nat → Int) (X : Nat → Int → Int → Int) (Y : Nat → Int → Int → Option Int) (ln : Int → Int) (lane v : Int) (hlane : 0 ≤ lane ∧ lane ≤ 5) (hv : -9223372036854775808 ≤ v ∧ v ≤ 9223372036854775807) : KL l D tc base yX9_cut wsX9_cut ({ frames := 0, cells := 0, slots := 0, locals := 0 } : Room) [.int (jI lane), .long (jL v)] (ad, cnt, X, Y, ln) 0 0 (fun z u => u = (ad, cnt, X, Y, ln) ∧ (-9223372036854775808 ≤ z ∧ z ≤ 9223372036854775807) ∧ z = cutZ lane v) := by
  refine K_of (cc := cX9_cut) (maxL := 3) (ret := (some .long)) (by decide) rfl (Nat.le_of_ble_eq_true rfl) ?_
  intro p e s m below meth c ls hx hb hr hml hown hts hlocks hl hK hw hS
  have hown : s.vm.findClass RX9 = some m.cls := hown
  obtain ⟨av9, hav9⟩ : ∃ a9 : Array Value, a9 = ([.int (jI lane), .long (jL v)] : List Value).toArray := ⟨_, rfl⟩
  rw [← hav9] at hts ⊢
  obtain ⟨Q9, hQ9⟩ : ∃ q9Q : State → Prop, q9Q = MQ below (QL D tc base (fun z u => u = (ad, cnt, X, Y, ln) ∧ (-9223372036854775808 ≤ z ∧ z ≤ 9223372036854775807) ∧ z = cutZ lane v)) av9 s 0 0 (frA base) := ⟨_, rfl⟩
  rw [← hQ9]
  have hl : lv_has ls 3 [(0, .int (jI lane)), (1, .long (jL v))] := hl
  refine lv_iload_n hx hb dX9_cut_0 rfl (lv_at hl 0 rfl) ?_
  refine lv_iconst (v := jI 3) hx hb dX9_cut_1 rfl ?_
  refine x_icmp_ne (tgt := 12) hx hb (by omega) (by omega) dX9_cut_2 (by decide) (fun c1 => ?_) (fun c1 => ?_)
  · refine lv_iload_n hx hb dX9_cut_12 rfl (lv_at hl 0 rfl) ?_
    refine lv_iconst (v := jI 4) hx hb dX9_cut_13 rfl ?_
    refine x_icmp_ne (tgt := 23) hx hb (by omega) (by omega) dX9_cut_14 (by decide) (fun c2 => ?_) (fun c2 => ?_)
    · refine lv_lload_n hx hb dX9_cut_23 rfl (lv_at hl 1 rfl) ?_
      rw [hQ9]
      refine ret_l (mc := 0) (ms := 0) hx hb hr hlocks hw hS (by first | exact Nat.le_of_ble_eq_true rfl | omega) (by first | exact Nat.le_of_ble_eq_true rfl | omega) dX9_cut_24 ?_
      exact ⟨rfl, by omega, by first | (unfold cutZ; rw [if_pos (by omega)]; assumption) | (unfold cutZ; rw [if_neg (by omega), if_pos (by omega)]; assumption) | (unfold cutZ; rw [if_neg (by omega), if_neg (by omega)])⟩
    · refine lv_lload_n hx hb dX9_cut_17 rfl (lv_at hl 1 rfl) ?_
      refine x_l2i hx hb dX9_cut_18 ?_
      refine x_eqi (fun z3 hz3 ez3 => ?_)
      refine x_i2l hx hb (by omega) dX9_cut_19 ?_
      refine lv_goto (tgt := 24) hx hb dX9_cut_20 (by decide) ?_
      rw [hQ9]
      refine ret_l (mc := 0) (ms := 0) hx hb hr hlocks hw hS (by first | exact Nat.le_of_ble_eq_true rfl | omega) (by first | exact Nat.le_of_ble_eq_true rfl | omega) dX9_cut_24 ?_
      exact ⟨rfl, by omega, by first | (unfold cutZ; rw [if_pos (by omega)]; assumption) | (unfold cutZ; rw [if_neg (by omega), if_pos (by omega)]; assumption) | (unfold cutZ; rw [if_neg (by omega), if_neg (by omega)])⟩
  · refine lv_lload_n hx hb dX9_cut_5 rfl (lv_at hl 1 rfl) ?_
    refine x_l2i hx hb dX9_cut_6 ?_
    refine lv_i2b hx hb dX9_cut_7 rfl ?_
    refine x_eqi (fun z4 hz4 ez4 => ?_)
    refine x_i2l hx hb (by omega) dX9_cut_8 ?_
    refine lv_goto (tgt := 24) hx hb dX9_cut_9 (by decide) ?_
    rw [hQ9]
    refine ret_l (mc := 0) (ms := 0) hx hb hr hlocks hw hS (by first | exact Nat.le_of_ble_eq_true rfl | omega) (by first | exact Nat.le_of_ble_eq_true rfl | omega) dX9_cut_24 ?_
    exact ⟨rfl, by omega, by first | (unfold cutZ; rw [if_pos (by omega)]; assumption) | (unfold cutZ; rw [if_neg (by omega), if_pos (by omega)]; assumption) | (unfold cutZ; rw [if_neg (by omega), if_neg (by omega)])⟩
