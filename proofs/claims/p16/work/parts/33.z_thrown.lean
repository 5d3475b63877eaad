set_option maxHeartbeats 4000000 in
set_option maxRecDepth 100000 in
theorem c_X9_thrown (l : Launch) (D : va_G) (tc : Nat → ClassId) (base : Nat) (ad : Nat → Int → Nat) (cnt : Nat → Int) (X : Nat → Int → Int → Int) (Y : Nat → Int → Int → Option Int) (ln : Int → Int) (hR : Rng X) (hFx : Fx cnt) (hLn : LnOK ln) : KI l D tc base yX9_thrown wsX9_thrown ({ frames := 0, cells := 0, slots := 0, locals := 0 } : Room) [.ref (ad 40 0)] (ad, cnt, X, Y, ln) 0 0 (fun z u => u = (ad, cnt, X, Y, ln) ∧ z = X 40 0 0) := by
  refine K_of (cc := cX9_thrown) (maxL := 1) (ret := (some .int)) (by decide) rfl (Nat.le_of_ble_eq_true rfl) ?_
  intro p e s m below meth c ls hx hb hr hml hown hts hlocks hl hK hw hS
  have hown : s.vm.findClass RX9 = some m.cls := hown
  obtain ⟨av9, hav9⟩ : ∃ a9 : Array Value, a9 = ([.ref (ad 40 0)] : List Value).toArray := ⟨_, rfl⟩
  rw [← hav9] at hts ⊢
  obtain ⟨Q9, hQ9⟩ : ∃ q9Q : State → Prop, q9Q = MQ below (QI D tc base (fun z u => u = (ad, cnt, X, Y, ln) ∧ z = X 40 0 0)) av9 s 0 0 (frA base) := ⟨_, rfl⟩
  rw [← hQ9]
  have hi9 : ∀ w ∈ wsX90, w ∈ wsX9_thrown := fun w h => List.mem_cons_of_mem _ (List.mem_append_right _ h)
  have hf9 : fctx s m _ RX9 wsX9_thrown D tc RX9 TX9 51 9 := ⟨hts, hi9, hown, hK.1, rfl⟩
  have lk145 := hts (.fieldLink RX9 145 (TX9 0).1 (TX9 0).2.1 (TX9 0).2.2.1) (gj_X9_thrown_0 _ (gp_h))
  have hc40 : cnt 40 = 1 := hFx.at 40 1 (by decide)
  have hl : lv_has ls 1 [(0, .ref (ad 40 0))] := hl
  refine lv_aload_n hx hb dX9_thrown_0 rfl (lv_at hl 0 rfl) ?_
  refine x_geti (jz := 0) hx hb hf9 hw (by first | exact Int.le_refl 0 | omega) (by first | exact zlt hc40 | omega) sl_40_0 rfl lk145 dX9_thrown_1 ?_
  have f1 : (-2147483648) ≤ X 40 0 0 ∧ X 40 0 0 ≤ 2147483647 := hR 40 0 0
  rw [hQ9]
  refine ret_i (mc := 0) (ms := 0) hx hb hr hlocks hw hS (by first | exact Nat.le_of_ble_eq_true rfl | omega) (by first | exact Nat.le_of_ble_eq_true rfl | omega) dX9_thrown_4 ?_
  exact ⟨rfl, rfl⟩

