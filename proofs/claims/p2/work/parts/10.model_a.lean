set_option maxHeartbeats 4000000 in
set_option maxRecDepth 100000 in
theorem c_X9_isType (l : Launch) (D : va_G) (tc : Nat → ClassId) (base : Nat) (ad : Nat → Int → Nat) (cnt : Nat → Int) (X : Nat → Int → Int → Int) (Y : Nat → Int → Int → Option Int) (ln : Int → Int) (hR : Rng X) (hFx : Fx cnt) (t : Int) (ht : -2147483648 ≤ t ∧ t ≤ 2147483647) : KI l D tc base yX9_isType wsX9_isType ({ frames := 0, cells := 0, slots := 0, locals := 0 } : Room) [.ref (ad 40 0), .int (jI t)] (ad, cnt, X, Y, ln) 0 0 (fun z u => u = (ad, cnt, X, Y, ln) ∧ ((z = 1 ∧ 0 ≤ t ∧ t < X 40 0 2 ∧ t ≤ 7) ∨ (z = 0 ∧ Hid (¬ (0 ≤ t ∧ t < X 40 0 2))))) := by
  refine K_of (cc := cX9_isType) (maxL := 2) (ret := (some .boolean)) (by decide) rfl (Nat.le_of_ble_eq_true rfl) ?_
  intro p e s m below meth c ls hx hb hr hml hown hts hlocks hl hK hw hS
  have hown : s.vm.findClass RX9 = some m.cls := hown
  have hi9 : ∀ w ∈ wsX90, w ∈ wsX9_isType := fun w h => List.mem_cons_of_mem _ (List.mem_append_right _ h)
  have hf9 : fctx s m _ RX9 wsX9_isType D tc RX9 TX9 51 9 := ⟨hts, hi9, hown, hK.1, rfl⟩
  have lk148 := hts (.fieldLink RX9 148 "StateRecordsModel" "types" "I") (by decide +kernel)
  have hc40 : cnt 40 = 1 := hFx.at 40 1 (by decide)
  have hl : lv_has ls 2 [(0, .ref (ad 40 0)), (1, .int (jI t))] := hl
  have fty : 0 ≤ X 40 0 2 ∧ X 40 0 2 ≤ 8 := hR 40 0 2
  refine lv_iload_n hx hb dX9_isType_0 rfl (lv_at hl 1 rfl) ?_
  refine x_if_lt (tgt := 16) hx hb (by omega) dX9_isType_1 (by decide) (fun c1 => ?_) (fun c1 => ?_)
  · refine lv_iconst (v := jI 0) hx hb dX9_isType_16 rfl ?_
    refine ret_z (mc := 0) (ms := 0) hx hb hr hlocks hw hS (by omega) (by omega) dX9_isType_17 (by omega) ?_
    exact ⟨rfl, Or.inr ⟨rfl, fun q => by omega⟩⟩
  · refine lv_iload_n hx hb dX9_isType_4 rfl (lv_at hl 1 rfl) ?_
    refine lv_aload_n hx hb dX9_isType_5 rfl (lv_at hl 0 rfl) ?_
    refine x_geti (jz := 2) hx hb hf9 hw (by omega) (by omega) sl_40_2 rfl lk148 dX9_isType_6 ?_
    have f2 : 0 ≤ X 40 0 2 ∧ X 40 0 2 ≤ 8 := hR 40 0 2
    refine x_icmp_ge (tgt := 16) hx hb (by omega) (by omega) dX9_isType_9 (by decide) (fun c3 => ?_) (fun c3 => ?_)
    · refine lv_iconst (v := jI 0) hx hb dX9_isType_16 rfl ?_
      refine ret_z (mc := 0) (ms := 0) hx hb hr hlocks hw hS (by omega) (by omega) dX9_isType_17 (by omega) ?_
      exact ⟨rfl, Or.inr ⟨rfl, fun q => by omega⟩⟩
    · refine lv_iconst (v := jI 1) hx hb dX9_isType_12 rfl ?_
      refine lv_goto (tgt := 17) hx hb dX9_isType_13 (by decide) ?_
      refine ret_z (mc := 0) (ms := 0) hx hb hr hlocks hw hS (by omega) (by omega) dX9_isType_17 (by omega) ?_
      exact ⟨rfl, Or.inl ⟨rfl, by omega⟩⟩

