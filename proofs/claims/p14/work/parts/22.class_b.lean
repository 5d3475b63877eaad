set_option maxHeartbeats 4000000 in
set_option maxRecDepth 100000 in
theorem c_X8_thingWithField (l : Launch) (D : va_G) (tc : Nat → ClassId) (base : Nat) (ad : Nat → Int → Nat) (cnt : Nat → Int) (X : Nat → Int → Int → Int) (Y : Nat → Int → Int → Option Int) (ln : Int → Int) (hR : Rng X) (hFx : Fx cnt) (hLn : LnOK ln) (hCI : CInv cnt X Y ln) (x k : Int) (hx : -2147483648 ≤ x ∧ x ≤ 2147483647) (hk : -2147483648 ≤ k ∧ k ≤ 2147483647) : KR l D tc base 15 yX8_thingWithField wsX8_thingWithField ({ frames := 2, cells := 0, slots := 0, locals := 42 } : Room) [.ref (ad 0 0), .int (jI x), .int (jI k)] (ad, cnt, X, Y, ln) 0 0 (fun o u => u = (ad, cnt, X, Y, ln) ∧ (∀ q, o = some q → q = x ∧ 0 ≤ x ∧ x < X 0 0 3 ∧ x ≤ 29 ∧ 0 ≤ k ∧ k ≤ 4 ∧ ∀ t, Y 15 x 0 = some t → k < X 19 t 1) ∧ (o = none → Hid (¬ (0 ≤ x ∧ x < X 0 0 3 ∧ 0 ≤ k ∧ k < X 19 (tyo (Y 15 x 0)) 1)))) := by
  refine K_of (cc := cX8_thingWithField) (maxL := 4) (ret := (some (.object "StateRecords$Thing"))) (by decide) rfl (Nat.le_of_ble_eq_true rfl) ?_
  intro p e s m below meth c ls hx hb hr hml hown hts hlocks hl hK hw hS
  have hown : s.vm.findClass RX8 = some m.cls := hown
  obtain ⟨av9, hav9⟩ : ∃ a9 : Array Value, a9 = ([.ref (ad 0 0), .int (jI x), .int (jI k)] : List Value).toArray := ⟨_, rfl⟩
  rw [← hav9] at hts ⊢
  obtain ⟨Q9, hQ9⟩ : ∃ q9Q : State → Prop, q9Q = MQ below (QR D tc base 15 (fun o u => u = (ad, cnt, X, Y, ln) ∧ (∀ q, o = some q → q = x ∧ 0 ≤ x ∧ x < X 0 0 3 ∧ x ≤ 29 ∧ 0 ≤ k ∧ k ≤ 4 ∧ ∀ t, Y 15 x 0 = some t → k < X 19 t 1) ∧ (o = none → Hid (¬ (0 ≤ x ∧ x < X 0 0 3 ∧ 0 ≤ k ∧ k < X 19 (tyo (Y 15 x 0)) 1))))) av9 s 0 0 (frA base) := ⟨_, rfl⟩
  rw [← hQ9]
  have hi6 : ∀ w ∈ wsX60, w ∈ wsX8_thingWithField := fun w h => List.mem_cons_of_mem _ (List.mem_append_left _ (List.mem_append_left _ (List.mem_append_right _ h)))
  have hf6 : fctx s m _ RX8 wsX8_thingWithField D tc RX6 TX6 4 6 := ⟨hts, hi6, hown, hK.1, rfl⟩
  have lk97 := hts (.fieldLink RX8 97 (TX6 0).1 (TX6 0).2.1 (TX6 0).2.2.1) (gj_X8_thingWithField_0 _ (gp_h))
  have hc0 : cnt 0 = 1 := hFx.at 0 1 (by decide)
  have hc15 : cnt 15 = 30 := hFx.at 15 30 (by decide)
  have hl : lv_has ls 4 [(0, .ref (ad 0 0)), (1, .int (jI x)), (2, .int (jI k))] := hl
  have ftc : 0 ≤ X 0 0 3 ∧ X 0 0 3 ≤ 30 := hR 0 0 3
  have fty : 0 ≤ X 0 0 1 ∧ X 0 0 1 ≤ 8 := hR 0 0 1
  have hct : cnt 19 = X 0 0 1 := hCI.2.2.2.1.1
  have hfj : 0 ≤ X 29 0 3 ∧ X 29 0 3 ≤ 4 := hR 29 0 3
  have hfn : 0 ≤ X 29 0 1 ∧ X 29 0 1 ≤ 80 := hR 29 0 1
  refine lv_aload_n hx hb dX8_thingWithField_0 rfl (lv_at hl 0 rfl) ?_
  refine lv_iload_n hx hb dX8_thingWithField_1 rfl (lv_at hl 1 rfl) ?_
  refine x_i2l hx hb (by omega) dX8_thingWithField_2 ?_
  refine gos_r (run_V (As := [.long (jL x)]) (rest := []) hx hb hml hown hts (c_X8_thingNumbered l D tc base ad cnt X Y ln hR hFx hLn hCI x (by omega)) (cwV 1 hts gX8_thingWithField_X8_thingNumbered rfl rfl rfl (by decide +kernel) ⟨Nat.le_of_ble_eq_true rfl, Nat.le_of_ble_eq_true rfl⟩) hK hw (by omega) (by omega) sl_0_0 rfl rfl hl.1 rfl (Nat.le_of_ble_eq_true rfl) dX8_thingWithField_3 ⟨Nat.le_of_ble_eq_true rfl, Nat.le_of_ble_eq_true rfl⟩) hS (fun u2 H locs p3 hw hS => ?_) (fun z1 u2 H locs p3 hw hS => ?_)
  · obtain ⟨eu2, hsp3, hnp3⟩ := p3
    subst eu2
    refine lv_astore_nN (lv' := [(3, .null), (0, .ref (ad 0 0)), (1, .int (jI x)), (2, .int (jI k))]) hx hb dX8_thingWithField_6 rfl hl (by decide) rfl (fun ls hl => ?_)
    refine lv_aload_nN hx hb dX8_thingWithField_7 rfl (lv_at hl 0 rfl) ?_
    refine lv_ifnullN (tgt := 26) hx hb dX8_thingWithField_8 (by decide) ?_
    refine lv_null hx hb dX8_thingWithField_26 ?_
    rw [hQ9]
    refine ret_n (mc := 0) (ms := 0) hx hb hr hlocks hw hS (by omega) (by omega) dX8_thingWithField_27 ?_
    exact ⟨rfl, fun q e => (by cases e), fun _ q => (by have h9n : ¬ (0 ≤ x ∧ x < X 0 0 3) := hnp3 rfl; omega)⟩
  · obtain ⟨eu2, hsp3, hnp3⟩ := p3
    subst eu2
    obtain ⟨ezz1, p3⟩ := hsp3 z1 rfl
    refine lv_astore_n (lv' := [(3, .ref (ad 15 z1)), (0, .ref (ad 0 0)), (1, .int (jI x)), (2, .int (jI k))]) hx hb dX8_thingWithField_6 rfl hl (by decide) rfl (fun ls hl => ?_)
    refine lv_aload_n hx hb dX8_thingWithField_7 rfl (lv_at hl 0 rfl) ?_
    refine lv_ifnull hx hb dX8_thingWithField_8 ?_
    refine lv_aload_n hx hb dX8_thingWithField_11 rfl (lv_at hl 0 rfl) ?_
    refine x_getr (jz := 0) hx hb hf6 hw (by omega) (by omega) sl_15_0 rfl lk97 dX8_thingWithField_12 (fun y4 => ?_) (fun r5 y4 gr5 lr5 => ?_)
    · exfalso
      exact absurd y4 (hCI.2.2.2.2.1 z1 (by omega) (by omega))
    · refine lv_iload_n hx hb dX8_thingWithField_15 rfl (lv_at hl 3 rfl) ?_
      refine gos_i (run_V (As := [.int (jI k)]) (rest := []) hx hb hml hown hts (c_X7_hasField l D tc base ad cnt X Y ln hR hFx hLn r5 k (by omega) (by omega)) (cwV 1 hts gX8_thingWithField_X7_hasField rfl rfl rfl (by decide +kernel) ⟨Nat.le_of_ble_eq_true rfl, Nat.le_of_ble_eq_true rfl⟩) hK hw (by omega) (by omega) sl_19_0 rfl rfl hl.1 rfl (Nat.le_of_ble_eq_true rfl) dX8_thingWithField_16 ⟨Nat.le_of_ble_eq_true rfl, Nat.le_of_ble_eq_true rfl⟩) hS (fun z6 u7 H locs p8 hw hS => ?_)
      obtain ⟨eu7, p8⟩ := p8
      subst eu7
      rcases p8 with ⟨ez6, p8⟩ | ⟨ez6, p8⟩
      · subst ez6
        refine x_if_eqF (tgt := 26) hx hb (by omega) (by decide) dX8_thingWithField_19 (by decide) ?_
        refine lv_aload_n hx hb dX8_thingWithField_22 rfl (lv_at hl 0 rfl) ?_
        refine lv_goto (tgt := 27) hx hb dX8_thingWithField_23 (by decide) ?_
        rw [hQ9]
        refine ret_r (mc := 0) (ms := 0) (k := 15) (i := z1) hx hb hr hlocks hw hS (by omega) (by omega) dX8_thingWithField_27 ?_
        exact ⟨rfl, fun q e => by cases e; exact ⟨by omega, by omega, by omega, by omega, by omega, by omega, fun t ht => by rw [← ezz1, y4] at ht; cases ht; omega⟩, fun e => by cases e⟩
      · subst ez6
        refine x_if_eqT (tgt := 26) hx hb (by omega) (by decide) dX8_thingWithField_19 (by decide) ?_
        refine lv_null hx hb dX8_thingWithField_26 ?_
        rw [hQ9]
        refine ret_n (mc := 0) (ms := 0) hx hb hr hlocks hw hS (by omega) (by omega) dX8_thingWithField_27 ?_
        exact ⟨rfl, fun q e => (by cases e), fun _ q => (by have q4 := q.2.2.2; rw [← ezz1, tyo_some y4] at q4; (try delta Hid at *); omega)⟩

set_option maxHeartbeats 4000000 in
set_option maxRecDepth 100000 in
theorem c_X8_failureOfDivides (l : Launch) (D : va_G) (tc : Nat → ClassId) (base : Nat) (ad : Nat → Int → Nat) (cnt : Nat → Int) (X : Nat → Int → Int → Int) (Y : Nat → Int → Int → Option Int) (ln : Int → Int) (hR : Rng X) (hFx : Fx cnt) (hLn : LnOK ln) (hCI : CInv cnt X Y ln) (x g : Int) (hx0 : 0 ≤ x ∧ x ≤ 29) (hxt : x < X 0 0 3) (hg : 0 ≤ g ∧ g < cnt 25) : KI l D tc base yX8_failureOfDivides wsX8_failureOfDivides ({ frames := 3, cells := 0, slots := 0, locals := 64 } : Room) [.ref (ad 15 x), .ref (ad 25 g)] (ad, cnt, X, Y, ln) 0 0 (fun z u => u = (ad, cnt, X, Y, ln) ∧ (0 ≤ z ∧ z ≤ 10) ∧ (X 25 g 0 = 0 → z = ckC X Y ln x g)) := by
  refine K_of (cc := cX8_failureOfDivides) (maxL := 2) (ret := (some .int)) (by decide) rfl (Nat.le_of_ble_eq_true rfl) ?_
  intro p e s m below meth c ls hx hb hr hml hown hts hlocks hl hK hw hS
  have hown : s.vm.findClass RX8 = some m.cls := hown
  obtain ⟨av9, hav9⟩ : ∃ a9 : Array Value, a9 = ([.ref (ad 15 x), .ref (ad 25 g)] : List Value).toArray := ⟨_, rfl⟩
  rw [← hav9] at hts ⊢
  obtain ⟨Q9, hQ9⟩ : ∃ q9Q : State → Prop, q9Q = MQ below (QI D tc base (fun z u => u = (ad, cnt, X, Y, ln) ∧ (0 ≤ z ∧ z ≤ 10) ∧ (X 25 g 0 = 0 → z = ckC X Y ln x g))) av9 s 0 0 (frA base) := ⟨_, rfl⟩
  rw [← hQ9]
  have hi0 : ∀ w ∈ wsX00, w ∈ wsX8_failureOfDivides := fun w h => List.mem_cons_of_mem _ (List.mem_append_left _ (List.mem_append_right _ h))
  have hf0 : fctx s m _ RX8 wsX8_failureOfDivides D tc RX0 TX0 4 0 := ⟨hts, hi0, hown, hK.1, rfl⟩
  have hi6 : ∀ w ∈ wsX60, w ∈ wsX8_failureOfDivides := fun w h => List.mem_cons_of_mem _ (List.mem_append_left _ (List.mem_append_left _ (List.mem_append_right _ h)))
  have hf6 : fctx s m _ RX8 wsX8_failureOfDivides D tc RX6 TX6 4 6 := ⟨hts, hi6, hown, hK.1, rfl⟩
  have lk97 := hts (.fieldLink RX8 97 (TX6 0).1 (TX6 0).2.1 (TX6 0).2.2.1) (gj_X8_failureOfDivides_0 _ (gp_h))
  have lk193 := hts (.fieldLink RX8 193 (TX6 1).1 (TX6 1).2.1 (TX6 1).2.2.1) (gj_X8_failureOfDivides_0 _ (gp_1 (gp_1 (gp_1 gp_h))))
  have lk302 := hts (.fieldLink RX8 302 (TX0 1).1 (TX0 1).2.1 (TX0 1).2.2.1) (gj_X8_failureOfDivides_0 _ (gp_1 gp_h))
  have lk308 := hts (.fieldLink RX8 308 (TX0 2).1 (TX0 2).2.1 (TX0 2).2.2.1) (gj_X8_failureOfDivides_0 _ (gp_1 (gp_1 gp_h)))
  have hc15 : cnt 15 = 30 := hFx.at 15 30 (by decide)
  have hc16 : cnt 16 = 30 := hFx.at 16 30 (by decide)
  have hc27 : cnt 27 = cnt 26 := hFx.2.2
  have hl : lv_has ls 2 [(0, .ref (ad 15 x)), (1, .ref (ad 25 g))] := hl
  have ftc : 0 ≤ X 0 0 3 ∧ X 0 0 3 ≤ 30 := hR 0 0 3
  have fty : 0 ≤ X 0 0 1 ∧ X 0 0 1 ≤ 8 := hR 0 0 1
  have hct : cnt 19 = X 0 0 1 := hCI.2.2.2.1.1
  have hfj : 0 ≤ X 29 0 3 ∧ X 29 0 3 ≤ 4 := hR 29 0 3
  have hfn : 0 ≤ X 29 0 1 ∧ X 29 0 1 ≤ 80 := hR 29 0 1
  have fka : 0 ≤ X 25 g 1 ∧ X 25 g 1 ≤ 4 := hR 25 g 1
  have fkb : 0 ≤ X 25 g 2 ∧ X 25 g 2 ≤ 4 := hR 25 g 2
  have fkk : 0 ≤ X 25 g 0 ∧ X 25 g 0 ≤ 5 := hR 25 g 0
  refine lv_aload_n hx hb dX8_failureOfDivides_0 rfl (lv_at hl 0 rfl) ?_
  refine x_getr (jz := 0) hx hb hf6 hw (by omega) (by omega) sl_15_0 rfl lk97 dX8_failureOfDivides_1 (fun y1 => ?_) (fun r2 y1 gr2 lr2 => ?_)
  · exfalso
    exact absurd y1 (hCI.2.2.2.2.1 x (by omega) (by omega))
  · refine lv_aload_n hx hb dX8_failureOfDivides_4 rfl (lv_at hl 1 rfl) ?_
    refine x_geti (jz := 1) hx hb hf0 hw (by omega) (by omega) sl_25_1 rfl lk302 dX8_failureOfDivides_5 ?_
    have f3 : 0 ≤ X 25 g 1 ∧ X 25 g 1 ≤ 4 := hR 25 g 1
    refine lv_iconst (v := jI 0) hx hb dX8_failureOfDivides_8 rfl ?_
    refine gos_i (run_V (As := [.int (jI (X 25 g 1)), .int (jI 0)]) (rest := []) hx hb hml hown hts (c_X7_hasLane l D tc base ad cnt X Y ln hR hFx hLn r2 (X 25 g 1) 0 (by omega) (by omega) (by omega)) (cwV 2 hts gX8_failureOfDivides_X7_hasLane rfl rfl rfl (by decide +kernel) ⟨Nat.le_of_ble_eq_true rfl, Nat.le_of_ble_eq_true rfl⟩) hK hw (by omega) (by omega) sl_19_0 rfl rfl hl.1 rfl (Nat.le_of_ble_eq_true rfl) dX8_failureOfDivides_9 ⟨Nat.le_of_ble_eq_true rfl, Nat.le_of_ble_eq_true rfl⟩) hS (fun z4 u5 H locs p6 hw hS => ?_)
    obtain ⟨eu5, p6⟩ := p6
    subst eu5
    rcases p6 with ⟨ez4, p6⟩ | ⟨ez4, p6⟩
    · subst ez4
      refine x_if_eqF (tgt := 30) hx hb (by omega) (by decide) dX8_failureOfDivides_12 (by decide) ?_
      refine lv_aload_n hx hb dX8_failureOfDivides_15 rfl (lv_at hl 0 rfl) ?_
      refine x_getr (jz := 0) hx hb hf6 hw (by omega) (by omega) sl_15_0 rfl lk97 dX8_failureOfDivides_16 (fun y7 => ?_) (fun r8 y7 gr8 lr8 => ?_)
      · exfalso
        rw [y1] at y7; cases y7
      · have er8 : r8 = r2 := by rw [y1] at y7; cases y7; rfl
        rw [er8]
        refine lv_aload_n hx hb dX8_failureOfDivides_19 rfl (lv_at hl 1 rfl) ?_
        refine x_geti (jz := 2) hx hb hf0 hw (by omega) (by omega) sl_25_2 rfl lk308 dX8_failureOfDivides_20 ?_
        have f9 : 0 ≤ X 25 g 2 ∧ X 25 g 2 ≤ 4 := hR 25 g 2
        refine lv_iconst (v := jI 0) hx hb dX8_failureOfDivides_23 rfl ?_
        refine gos_i (run_V (As := [.int (jI (X 25 g 2)), .int (jI 0)]) (rest := []) hx hb hml hown hts (c_X7_hasLane l D tc base ad cnt X Y ln hR hFx hLn r2 (X 25 g 2) 0 (by omega) (by omega) (by omega)) (cwV 2 hts gX8_failureOfDivides_X7_hasLane rfl rfl rfl (by decide +kernel) ⟨Nat.le_of_ble_eq_true rfl, Nat.le_of_ble_eq_true rfl⟩) hK hw (by omega) (by omega) sl_19_0 rfl rfl hl.1 rfl (Nat.le_of_ble_eq_true rfl) dX8_failureOfDivides_24 ⟨Nat.le_of_ble_eq_true rfl, Nat.le_of_ble_eq_true rfl⟩) hS (fun z10 u11 H locs p12 hw hS => ?_)
        obtain ⟨eu11, p12⟩ := p12
        subst eu11
        rcases p12 with ⟨ez10, p12⟩ | ⟨ez10, p12⟩
        · subst ez10
          refine x_if_neT (tgt := 32) hx hb (by omega) (by decide) dX8_failureOfDivides_27 (by decide) ?_
          refine lv_aload_n hx hb dX8_failureOfDivides_32 rfl (lv_at hl 0 rfl) ?_
          refine x_geto hx hb hf6 hw (by omega) (by omega) sl_15_1 lk193 dX8_failureOfDivides_33 ?_
          refine lv_aload_n hx hb dX8_failureOfDivides_36 rfl (lv_at hl 1 rfl) ?_
          refine x_geti (jz := 2) hx hb hf0 hw (by omega) (by omega) sl_25_2 rfl lk308 dX8_failureOfDivides_37 ?_
          have f13 : 0 ≤ X 25 g 2 ∧ X 25 g 2 ≤ 4 := hR 25 g 2
          refine x_lald hx hb hK.1 hw (by omega) (by omega) ar_16 (len_E ar_16 (by decide)) (by omega) (by omega) (by omega) dX8_failureOfDivides_40 ?_
          have f14 : (-9223372036854775808) ≤ X 16 x (X 25 g 2) ∧ X 16 x (X 25 g 2) ≤ 9223372036854775807 := hR 16 x (X 25 g 2)
          refine lv_lconst (v := jL 0) hx hb dX8_failureOfDivides_41 (by decide) ?_
          refine x_lcmp hx hb (by omega) (by omega) dX8_failureOfDivides_42 ?_
          obtain ⟨z15, ez15⟩ : ∃ y : Int, y = cmpZ (X 16 x (X 25 g 2)) 0 := ⟨_, rfl⟩
          rw [← ez15]
          have gz15 : (z15 < 0 ↔ ((X 16 x (X 25 g 2)) : Int) < 0) ∧ (z15 = 0 ↔ ((X 16 x (X 25 g 2)) : Int) = 0) ∧ -1 ≤ z15 ∧ z15 ≤ 1 := by rw [ez15]; exact ⟨cmpZ_lt, cmpZ_eq, (cmpZ_r _ _).1, (cmpZ_r _ _).2⟩
          clear ez15
          refine x_if_ne (tgt := 50) hx hb (by omega) dX8_failureOfDivides_43 (by decide) (fun c16 => ?_) (fun c16 => ?_)
          · refine lv_iconst (v := jI 0) hx hb dX8_failureOfDivides_50 rfl ?_
            rw [hQ9]
            refine ret_i (mc := 0) (ms := 0) hx hb hr hlocks hw hS (by omega) (by omega) dX8_failureOfDivides_51 ?_
            exact ⟨rfl, by omega, fun hk9 => (by unfold ckC; rw [tyo_some y1]; rw [ckF_0 (by omega) (by (try delta Hid at *); omega)]; (repeat' split) <;> omega)⟩
          · refine lv_iconst (v := jI 5) hx hb dX8_failureOfDivides_46 rfl ?_
            refine lv_goto (tgt := 51) hx hb dX8_failureOfDivides_47 (by decide) ?_
            rw [hQ9]
            refine ret_i (mc := 0) (ms := 0) hx hb hr hlocks hw hS (by omega) (by omega) dX8_failureOfDivides_51 ?_
            exact ⟨rfl, by omega, fun hk9 => (by unfold ckC; rw [tyo_some y1]; rw [ckF_0 (by omega) (by (try delta Hid at *); omega)]; (repeat' split) <;> omega)⟩
        · subst ez10
          refine x_if_neF (tgt := 32) hx hb (by omega) (by decide) dX8_failureOfDivides_27 (by decide) ?_
          refine lv_iconst (v := jI 4) hx hb dX8_failureOfDivides_30 rfl ?_
          rw [hQ9]
          refine ret_i (mc := 0) (ms := 0) hx hb hr hlocks hw hS (by omega) (by omega) dX8_failureOfDivides_31 ?_
          exact ⟨rfl, by omega, fun hk9 => (by unfold ckC; rw [tyo_some y1]; rw [ckF_c ⟨by omega, by omega⟩ (by (try delta Hid at *); omega)])⟩
    · subst ez4
      refine x_if_eqT (tgt := 30) hx hb (by omega) (by decide) dX8_failureOfDivides_12 (by decide) ?_
      refine lv_iconst (v := jI 4) hx hb dX8_failureOfDivides_30 rfl ?_
      rw [hQ9]
      refine ret_i (mc := 0) (ms := 0) hx hb hr hlocks hw hS (by omega) (by omega) dX8_failureOfDivides_31 ?_
      exact ⟨rfl, by omega, fun hk9 => (by unfold ckC; rw [tyo_some y1]; rw [ckF_c ⟨by omega, by omega⟩ (by (try delta Hid at *); omega)])⟩

set_option maxHeartbeats 4000000 in
set_option maxRecDepth 100000 in
theorem c_X8_failureOfMeets (l : Launch) (D : va_G) (tc : Nat → ClassId) (base : Nat) (ad : Nat → Int → Nat) (cnt : Nat → Int) (X : Nat → Int → Int → Int) (Y : Nat → Int → Int → Option Int) (ln : Int → Int) (hR : Rng X) (hFx : Fx cnt) (hLn : LnOK ln) (hCI : CInv cnt X Y ln) (x g : Int) (hx0 : 0 ≤ x ∧ x ≤ 29) (hxt : x < X 0 0 3) (hg : 0 ≤ g ∧ g < cnt 25) : KI l D tc base yX8_failureOfMeets wsX8_failureOfMeets ({ frames := 3, cells := 0, slots := 0, locals := 64 } : Room) [.ref (ad 0 0), .ref (ad 15 x), .ref (ad 25 g)] (ad, cnt, X, Y, ln) 0 0 (fun z u => u = (ad, cnt, X, Y, ln) ∧ (0 ≤ z ∧ z ≤ 10) ∧ (X 25 g 0 = 1 → z = ckC X Y ln x g)) := by
  refine K_of (cc := cX8_failureOfMeets) (maxL := 4) (ret := (some .int)) (by decide) rfl (Nat.le_of_ble_eq_true rfl) ?_
  intro p e s m below meth c ls hx hb hr hml hown hts hlocks hl hK hw hS
  have hown : s.vm.findClass RX8 = some m.cls := hown
  obtain ⟨av9, hav9⟩ : ∃ a9 : Array Value, a9 = ([.ref (ad 0 0), .ref (ad 15 x), .ref (ad 25 g)] : List Value).toArray := ⟨_, rfl⟩
  rw [← hav9] at hts ⊢
  obtain ⟨Q9, hQ9⟩ : ∃ q9Q : State → Prop, q9Q = MQ below (QI D tc base (fun z u => u = (ad, cnt, X, Y, ln) ∧ (0 ≤ z ∧ z ≤ 10) ∧ (X 25 g 0 = 1 → z = ckC X Y ln x g))) av9 s 0 0 (frA base) := ⟨_, rfl⟩
  rw [← hQ9]
  have hi0 : ∀ w ∈ wsX00, w ∈ wsX8_failureOfMeets := fun w h => List.mem_cons_of_mem _ (List.mem_append_left _ (List.mem_append_left _ (List.mem_append_right _ h)))
  have hf0 : fctx s m _ RX8 wsX8_failureOfMeets D tc RX0 TX0 4 0 := ⟨hts, hi0, hown, hK.1, rfl⟩
  have hi6 : ∀ w ∈ wsX60, w ∈ wsX8_failureOfMeets := fun w h => List.mem_cons_of_mem _ (List.mem_append_left _ (List.mem_append_left _ (List.mem_append_left _ (List.mem_append_right _ h))))
  have hf6 : fctx s m _ RX8 wsX8_failureOfMeets D tc RX6 TX6 4 6 := ⟨hts, hi6, hown, hK.1, rfl⟩
  have hi7 : ∀ w ∈ wsX70, w ∈ wsX8_failureOfMeets := fun w h => List.mem_cons_of_mem _ (List.mem_append_left _ (List.mem_append_right _ h))
  have hf7 : fctx s m _ RX8 wsX8_failureOfMeets D tc RX7 TX7 8 7 := ⟨hts, hi7, hown, hK.1, rfl⟩
  have lk97 := hts (.fieldLink RX8 97 (TX6 0).1 (TX6 0).2.1 (TX6 0).2.2.1) (gj_X8_failureOfMeets_0 _ (gp_h))
  have lk193 := hts (.fieldLink RX8 193 (TX6 1).1 (TX6 1).2.1 (TX6 1).2.2.1) (gj_X8_failureOfMeets_0 _ (gp_1 (gp_1 gp_h)))
  have lk205 := hts (.fieldLink RX8 205 (TX7 0).1 (TX7 0).2.1 (TX7 0).2.2.1) (gj_X8_failureOfMeets_0 _ (gp_1 (gp_1 (gp_1 gp_h))))
  have lk302 := hts (.fieldLink RX8 302 (TX0 1).1 (TX0 1).2.1 (TX0 1).2.2.1) (gj_X8_failureOfMeets_0 _ (gp_1 gp_h))
  have lk311 := hts (.fieldLink RX8 311 (TX0 3).1 (TX0 3).2.1 (TX0 3).2.2.1) (gj_X8_failureOfMeets_0 _ (gp_4 gp_h))
  have hc0 : cnt 0 = 1 := hFx.at 0 1 (by decide)
  have hc15 : cnt 15 = 30 := hFx.at 15 30 (by decide)
  have hc16 : cnt 16 = 30 := hFx.at 16 30 (by decide)
  have hc27 : cnt 27 = cnt 26 := hFx.2.2
  have hl : lv_has ls 4 [(0, .ref (ad 0 0)), (1, .ref (ad 15 x)), (2, .ref (ad 25 g))] := hl
  have ftc : 0 ≤ X 0 0 3 ∧ X 0 0 3 ≤ 30 := hR 0 0 3
  have fty : 0 ≤ X 0 0 1 ∧ X 0 0 1 ≤ 8 := hR 0 0 1
  have hct : cnt 19 = X 0 0 1 := hCI.2.2.2.1.1
  have hfj : 0 ≤ X 29 0 3 ∧ X 29 0 3 ≤ 4 := hR 29 0 3
  have hfn : 0 ≤ X 29 0 1 ∧ X 29 0 1 ≤ 80 := hR 29 0 1
  have fka : 0 ≤ X 25 g 1 ∧ X 25 g 1 ≤ 4 := hR 25 g 1
  have fkb : 0 ≤ X 25 g 2 ∧ X 25 g 2 ≤ 4 := hR 25 g 2
  have fkk : 0 ≤ X 25 g 0 ∧ X 25 g 0 ≤ 5 := hR 25 g 0
  refine lv_aload_n hx hb dX8_failureOfMeets_0 rfl (lv_at hl 1 rfl) ?_
  refine x_getr (jz := 0) hx hb hf6 hw (by omega) (by omega) sl_15_0 rfl lk97 dX8_failureOfMeets_1 (fun y1 => ?_) (fun r2 y1 gr2 lr2 => ?_)
  · exfalso
    exact absurd y1 (hCI.2.2.2.2.1 x (by omega) (by omega))
  · refine lv_aload_n hx hb dX8_failureOfMeets_4 rfl (lv_at hl 2 rfl) ?_
    refine x_geti (jz := 1) hx hb hf0 hw (by omega) (by omega) sl_25_1 rfl lk302 dX8_failureOfMeets_5 ?_
    have f3 : 0 ≤ X 25 g 1 ∧ X 25 g 1 ≤ 4 := hR 25 g 1
    refine lv_iconst (v := jI 2) hx hb dX8_failureOfMeets_8 rfl ?_
    refine gos_i (run_V (As := [.int (jI (X 25 g 1)), .int (jI 2)]) (rest := []) hx hb hml hown hts (c_X7_hasLane l D tc base ad cnt X Y ln hR hFx hLn r2 (X 25 g 1) 2 (by omega) (by omega) (by omega)) (cwV 2 hts gX8_failureOfMeets_X7_hasLane rfl rfl rfl (by decide +kernel) ⟨Nat.le_of_ble_eq_true rfl, Nat.le_of_ble_eq_true rfl⟩) hK hw (by omega) (by omega) sl_19_0 rfl rfl hl.1 rfl (Nat.le_of_ble_eq_true rfl) dX8_failureOfMeets_9 ⟨Nat.le_of_ble_eq_true rfl, Nat.le_of_ble_eq_true rfl⟩) hS (fun z4 u5 H locs p6 hw hS => ?_)
    obtain ⟨eu5, p6⟩ := p6
    subst eu5
    rcases p6 with ⟨ez4, p6⟩ | ⟨ez4, p6⟩
    · subst ez4
      refine x_if_neT (tgt := 17) hx hb (by omega) (by decide) dX8_failureOfMeets_12 (by decide) ?_
      refine lv_aload_n hx hb dX8_failureOfMeets_17 rfl (lv_at hl 0 rfl) ?_
      refine lv_aload_n hx hb dX8_failureOfMeets_18 rfl (lv_at hl 1 rfl) ?_
      refine x_geto hx hb hf6 hw (by omega) (by omega) sl_15_1 lk193 dX8_failureOfMeets_19 ?_
      refine lv_aload_n hx hb dX8_failureOfMeets_22 rfl (lv_at hl 2 rfl) ?_
      refine x_geti (jz := 1) hx hb hf0 hw (by omega) (by omega) sl_25_1 rfl lk302 dX8_failureOfMeets_23 ?_
      have f7 : 0 ≤ X 25 g 1 ∧ X 25 g 1 ≤ 4 := hR 25 g 1
      refine x_lald hx hb hK.1 hw (by omega) (by omega) ar_16 (len_E ar_16 (by decide)) (by omega) (by omega) (by omega) dX8_failureOfMeets_26 ?_
      have f8 : (-9223372036854775808) ≤ X 16 x (X 25 g 1) ∧ X 16 x (X 25 g 1) ≤ 9223372036854775807 := hR 16 x (X 25 g 1)
      refine gos_r (run_V (As := [.long (jL (X 16 x (X 25 g 1)))]) (rest := []) hx hb hml hown hts (c_X8_thingNumbered l D tc base ad cnt X Y ln hR hFx hLn hCI (X 16 x (X 25 g 1)) (by omega)) (cwV 1 hts gX8_failureOfMeets_X8_thingNumbered rfl rfl rfl (by decide +kernel) ⟨Nat.le_of_ble_eq_true rfl, Nat.le_of_ble_eq_true rfl⟩) hK hw (by omega) (by omega) sl_0_0 rfl rfl hl.1 rfl (Nat.le_of_ble_eq_true rfl) dX8_failureOfMeets_27 ⟨Nat.le_of_ble_eq_true rfl, Nat.le_of_ble_eq_true rfl⟩) hS (fun u10 H locs p11 hw hS => ?_) (fun z9 u10 H locs p11 hw hS => ?_)
      · obtain ⟨eu10, hsp11, hnp11⟩ := p11
        subst eu10
        refine lv_astore_nN (lv' := [(3, .null), (0, .ref (ad 0 0)), (1, .ref (ad 15 x)), (2, .ref (ad 25 g))]) hx hb dX8_failureOfMeets_30 rfl hl (by decide) rfl (fun ls hl => ?_)
        refine lv_aload_nN hx hb dX8_failureOfMeets_31 rfl (lv_at hl 0 rfl) ?_
        refine lv_ifnonnullN hx hb dX8_failureOfMeets_32 ?_
        refine lv_iconst (v := jI 1) hx hb dX8_failureOfMeets_35 rfl ?_
        rw [hQ9]
        refine ret_i (mc := 0) (ms := 0) hx hb hr hlocks hw hS (by omega) (by omega) dX8_failureOfMeets_36 ?_
        exact ⟨rfl, by omega, fun hk9 => (by unfold ckC; rw [tyo_some y1]; rw [ckF_1 (by omega) (by (try delta Hid at *); omega)]; rw [if_neg (show ¬ (0 ≤ X 16 x (X 25 g 1) ∧ X 16 x (X 25 g 1) < X 0 0 3) from hnp11 rfl), if_pos (by omega)])⟩
      · obtain ⟨eu10, hsp11, hnp11⟩ := p11
        subst eu10
        obtain ⟨ezz9, p11⟩ := hsp11 z9 rfl
        refine lv_astore_n (lv' := [(3, .ref (ad 15 z9)), (0, .ref (ad 0 0)), (1, .ref (ad 15 x)), (2, .ref (ad 25 g))]) hx hb dX8_failureOfMeets_30 rfl hl (by decide) rfl (fun ls hl => ?_)
        refine lv_aload_n hx hb dX8_failureOfMeets_31 rfl (lv_at hl 0 rfl) ?_
        refine lv_ifnonnull (tgt := 37) hx hb dX8_failureOfMeets_32 (by decide) ?_
        refine lv_aload_n hx hb dX8_failureOfMeets_37 rfl (lv_at hl 0 rfl) ?_
        refine x_getr (jz := 0) hx hb hf6 hw (by omega) (by omega) sl_15_0 rfl lk97 dX8_failureOfMeets_38 (fun y12 => ?_) (fun r13 y12 gr13 lr13 => ?_)
        · exfalso
          exact absurd y12 (hCI.2.2.2.2.1 z9 (by omega) (by omega))
        · refine x_geti (jz := 0) hx hb hf7 hw (by omega) (by omega) sl_19_0 rfl lk205 dX8_failureOfMeets_41 ?_
          have f14 : 0 ≤ X 19 r13 0 ∧ X 19 r13 0 ≤ 7 := hR 19 r13 0
          refine x_i2l hx hb (by omega) dX8_failureOfMeets_44 ?_
          refine lv_aload_n hx hb dX8_failureOfMeets_45 rfl (lv_at hl 3 rfl) ?_
          refine x_getl (jz := 3) hx hb hf0 hw (by omega) (by omega) sl_25_3 rfl lk311 dX8_failureOfMeets_46 ?_
          have f15 : (-9223372036854775808) ≤ X 25 g 3 ∧ X 25 g 3 ≤ 9223372036854775807 := hR 25 g 3
          refine x_lcmp hx hb (by omega) (by omega) dX8_failureOfMeets_49 ?_
          obtain ⟨z16, ez16⟩ : ∃ y : Int, y = cmpZ (X 19 r13 0) (X 25 g 3) := ⟨_, rfl⟩
          rw [← ez16]
          have gz16 : (z16 < 0 ↔ ((X 19 r13 0) : Int) < (X 25 g 3)) ∧ (z16 = 0 ↔ ((X 19 r13 0) : Int) = (X 25 g 3)) ∧ -1 ≤ z16 ∧ z16 ≤ 1 := by rw [ez16]; exact ⟨cmpZ_lt, cmpZ_eq, (cmpZ_r _ _).1, (cmpZ_r _ _).2⟩
          clear ez16
          refine x_if_ne (tgt := 57) hx hb (by omega) dX8_failureOfMeets_50 (by decide) (fun c17 => ?_) (fun c17 => ?_)
          · refine lv_iconst (v := jI 4) hx hb dX8_failureOfMeets_57 rfl ?_
            rw [hQ9]
            refine ret_i (mc := 0) (ms := 0) hx hb hr hlocks hw hS (by omega) (by omega) dX8_failureOfMeets_58 ?_
            exact ⟨rfl, by omega, fun hk9 => (by unfold ckC; rw [tyo_some y1]; rw [ckF_1 (by omega) (by (try delta Hid at *); omega)]; have hmt : (if 0 ≤ X 16 x (X 25 g 1) ∧ X 16 x (X 25 g 1) < X 0 0 3 then X 19 (tyo (Y 15 (X 16 x (X 25 g 1)) 0)) 0 else -1) = X 19 r13 0 := (by rw [if_pos ⟨by omega, by omega⟩, ← ezz9, tyo_some y12]); rw [hmt]; (repeat' split) <;> omega)⟩
          · refine lv_iconst (v := jI 0) hx hb dX8_failureOfMeets_53 rfl ?_
            refine lv_goto (tgt := 58) hx hb dX8_failureOfMeets_54 (by decide) ?_
            rw [hQ9]
            refine ret_i (mc := 0) (ms := 0) hx hb hr hlocks hw hS (by omega) (by omega) dX8_failureOfMeets_58 ?_
            exact ⟨rfl, by omega, fun hk9 => (by unfold ckC; rw [tyo_some y1]; rw [ckF_1 (by omega) (by (try delta Hid at *); omega)]; have hmt : (if 0 ≤ X 16 x (X 25 g 1) ∧ X 16 x (X 25 g 1) < X 0 0 3 then X 19 (tyo (Y 15 (X 16 x (X 25 g 1)) 0)) 0 else -1) = X 19 r13 0 := (by rw [if_pos ⟨by omega, by omega⟩, ← ezz9, tyo_some y12]); rw [hmt]; (repeat' split) <;> omega)⟩
    · subst ez4
      refine x_if_neF (tgt := 17) hx hb (by omega) (by decide) dX8_failureOfMeets_12 (by decide) ?_
      refine lv_iconst (v := jI 4) hx hb dX8_failureOfMeets_15 rfl ?_
      rw [hQ9]
      refine ret_i (mc := 0) (ms := 0) hx hb hr hlocks hw hS (by omega) (by omega) dX8_failureOfMeets_16 ?_
      exact ⟨rfl, by omega, fun hk9 => (by unfold ckC; rw [tyo_some y1]; rw [ckF_c ⟨by omega, by omega⟩ (by (try delta Hid at *); omega)])⟩

set_option maxHeartbeats 4000000 in
set_option maxRecDepth 100000 in
theorem c_X8_failureOfHas (l : Launch) (D : va_G) (tc : Nat → ClassId) (base : Nat) (ad : Nat → Int → Nat) (cnt : Nat → Int) (X : Nat → Int → Int → Int) (Y : Nat → Int → Int → Option Int) (ln : Int → Int) (hR : Rng X) (hFx : Fx cnt) (hLn : LnOK ln) (hCI : CInv cnt X Y ln) (x g : Int) (hx0 : 0 ≤ x ∧ x ≤ 29) (hxt : x < X 0 0 3) (hg : 0 ≤ g ∧ g < cnt 25) : KI l D tc base yX8_failureOfHas wsX8_failureOfHas ({ frames := 3, cells := 0, slots := 0, locals := 64 } : Room) [.ref (ad 15 x), .ref (ad 25 g)] (ad, cnt, X, Y, ln) 0 0 (fun z u => u = (ad, cnt, X, Y, ln) ∧ (0 ≤ z ∧ z ≤ 10) ∧ (X 25 g 0 = 2 → z = ckC X Y ln x g)) := by
  refine K_of (cc := cX8_failureOfHas) (maxL := 5) (ret := (some .int)) (by decide) rfl (Nat.le_of_ble_eq_true rfl) ?_
  intro p e s m below meth c ls hx hb hr hml hown hts hlocks hl hK hw hS
  have hown : s.vm.findClass RX8 = some m.cls := hown
  obtain ⟨av9, hav9⟩ : ∃ a9 : Array Value, a9 = ([.ref (ad 15 x), .ref (ad 25 g)] : List Value).toArray := ⟨_, rfl⟩
  rw [← hav9] at hts ⊢
  obtain ⟨Q9, hQ9⟩ : ∃ q9Q : State → Prop, q9Q = MQ below (QI D tc base (fun z u => u = (ad, cnt, X, Y, ln) ∧ (0 ≤ z ∧ z ≤ 10) ∧ (X 25 g 0 = 2 → z = ckC X Y ln x g))) av9 s 0 0 (frA base) := ⟨_, rfl⟩
  rw [← hQ9]
  have hi0 : ∀ w ∈ wsX00, w ∈ wsX8_failureOfHas := fun w h => List.mem_cons_of_mem _ (List.mem_append_left _ (List.mem_append_left _ (List.mem_append_right _ h)))
  have hf0 : fctx s m _ RX8 wsX8_failureOfHas D tc RX0 TX0 4 0 := ⟨hts, hi0, hown, hK.1, rfl⟩
  have hi5 : ∀ w ∈ wsX50, w ∈ wsX8_failureOfHas := fun w h => List.mem_cons_of_mem _ (List.mem_append_left _ (List.mem_append_right _ h))
  have hf5 : fctx s m _ RX8 wsX8_failureOfHas D tc RX5 TX5 2 5 := ⟨hts, hi5, hown, hK.1, rfl⟩
  have hi6 : ∀ w ∈ wsX60, w ∈ wsX8_failureOfHas := fun w h => List.mem_cons_of_mem _ (List.mem_append_left _ (List.mem_append_left _ (List.mem_append_left _ (List.mem_append_right _ h))))
  have hf6 : fctx s m _ RX8 wsX8_failureOfHas D tc RX6 TX6 4 6 := ⟨hts, hi6, hown, hK.1, rfl⟩
  have lk97 := hts (.fieldLink RX8 97 (TX6 0).1 (TX6 0).2.1 (TX6 0).2.2.1) (gj_X8_failureOfHas_0 _ (gp_h))
  have lk158 := hts (.fieldLink RX8 158 (TX6 2).1 (TX6 2).2.1 (TX6 2).2.2.1) (gj_X8_failureOfHas_0 _ (gp_1 (gp_1 (gp_1 gp_h))))
  have lk161 := hts (.fieldLink RX8 161 (TX5 0).1 (TX5 0).2.1 (TX5 0).2.2.1) (gj_X8_failureOfHas_0 _ (gp_4 (gp_1 gp_h)))
  have lk193 := hts (.fieldLink RX8 193 (TX6 1).1 (TX6 1).2.1 (TX6 1).2.2.1) (gj_X8_failureOfHas_0 _ (gp_4 gp_h))
  have lk302 := hts (.fieldLink RX8 302 (TX0 1).1 (TX0 1).2.1 (TX0 1).2.2.1) (gj_X8_failureOfHas_0 _ (gp_1 gp_h))
  have lk308 := hts (.fieldLink RX8 308 (TX0 2).1 (TX0 2).2.1 (TX0 2).2.2.1) (gj_X8_failureOfHas_0 _ (gp_1 (gp_1 gp_h)))
  have lk311 := hts (.fieldLink RX8 311 (TX0 3).1 (TX0 3).2.1 (TX0 3).2.2.1) (gj_X8_failureOfHas_0 _ (gp_4 (gp_1 (gp_1 gp_h))))
  have hc15 : cnt 15 = 30 := hFx.at 15 30 (by decide)
  have hc16 : cnt 16 = 30 := hFx.at 16 30 (by decide)
  have hc17 : cnt 17 = 30 := hFx.at 17 30 (by decide)
  have hc27 : cnt 27 = cnt 26 := hFx.2.2
  have hl : lv_has ls 5 [(0, .ref (ad 15 x)), (1, .ref (ad 25 g))] := hl
  have ftc : 0 ≤ X 0 0 3 ∧ X 0 0 3 ≤ 30 := hR 0 0 3
  have fty : 0 ≤ X 0 0 1 ∧ X 0 0 1 ≤ 8 := hR 0 0 1
  have hct : cnt 19 = X 0 0 1 := hCI.2.2.2.1.1
  have hfj : 0 ≤ X 29 0 3 ∧ X 29 0 3 ≤ 4 := hR 29 0 3
  have hfn : 0 ≤ X 29 0 1 ∧ X 29 0 1 ≤ 80 := hR 29 0 1
  have fka : 0 ≤ X 25 g 1 ∧ X 25 g 1 ≤ 4 := hR 25 g 1
  have fkb : 0 ≤ X 25 g 2 ∧ X 25 g 2 ≤ 4 := hR 25 g 2
  have fkk : 0 ≤ X 25 g 0 ∧ X 25 g 0 ≤ 5 := hR 25 g 0
  refine lv_aload_n hx hb dX8_failureOfHas_0 rfl (lv_at hl 0 rfl) ?_
  refine x_getr (jz := 0) hx hb hf6 hw (by omega) (by omega) sl_15_0 rfl lk97 dX8_failureOfHas_1 (fun y1 => ?_) (fun r2 y1 gr2 lr2 => ?_)
  · exfalso
    exact absurd y1 (hCI.2.2.2.2.1 x (by omega) (by omega))
  · refine lv_aload_n hx hb dX8_failureOfHas_4 rfl (lv_at hl 1 rfl) ?_
    refine x_geti (jz := 1) hx hb hf0 hw (by omega) (by omega) sl_25_1 rfl lk302 dX8_failureOfHas_5 ?_
    have f3 : 0 ≤ X 25 g 1 ∧ X 25 g 1 ≤ 4 := hR 25 g 1
    refine gos_i (run_V (As := [.int (jI (X 25 g 1))]) (rest := []) hx hb hml hown hts (c_X7_hasRowLane l D tc base ad cnt X Y ln hR hFx hLn r2 (X 25 g 1) (by omega) (by omega)) (cwV 1 hts gX8_failureOfHas_X7_hasRowLane rfl rfl rfl (by decide +kernel) ⟨Nat.le_of_ble_eq_true rfl, Nat.le_of_ble_eq_true rfl⟩) hK hw (by omega) (by omega) sl_19_0 rfl rfl hl.1 rfl (Nat.le_of_ble_eq_true rfl) dX8_failureOfHas_8 ⟨Nat.le_of_ble_eq_true rfl, Nat.le_of_ble_eq_true rfl⟩) hS (fun z4 u5 H locs p6 hw hS => ?_)
    obtain ⟨eu5, p6⟩ := p6
    subst eu5
    rcases p6 with ⟨ez4, p6⟩ | ⟨ez4, p6⟩
    · subst ez4
      refine x_if_eqF (tgt := 29) hx hb (by omega) (by decide) dX8_failureOfHas_11 (by decide) ?_
      refine lv_aload_n hx hb dX8_failureOfHas_14 rfl (lv_at hl 0 rfl) ?_
      refine x_getr (jz := 0) hx hb hf6 hw (by omega) (by omega) sl_15_0 rfl lk97 dX8_failureOfHas_15 (fun y7 => ?_) (fun r8 y7 gr8 lr8 => ?_)
      · exfalso
        rw [y1] at y7; cases y7
      · have er8 : r8 = r2 := by rw [y1] at y7; cases y7; rfl
        rw [er8]
        refine lv_aload_n hx hb dX8_failureOfHas_18 rfl (lv_at hl 1 rfl) ?_
        refine x_geti (jz := 2) hx hb hf0 hw (by omega) (by omega) sl_25_2 rfl lk308 dX8_failureOfHas_19 ?_
        have f9 : 0 ≤ X 25 g 2 ∧ X 25 g 2 ≤ 4 := hR 25 g 2
        refine lv_iconst (v := jI 0) hx hb dX8_failureOfHas_22 rfl ?_
        refine gos_i (run_V (As := [.int (jI (X 25 g 2)), .int (jI 0)]) (rest := []) hx hb hml hown hts (c_X7_hasLane l D tc base ad cnt X Y ln hR hFx hLn r2 (X 25 g 2) 0 (by omega) (by omega) (by omega)) (cwV 2 hts gX8_failureOfHas_X7_hasLane rfl rfl rfl (by decide +kernel) ⟨Nat.le_of_ble_eq_true rfl, Nat.le_of_ble_eq_true rfl⟩) hK hw (by omega) (by omega) sl_19_0 rfl rfl hl.1 rfl (Nat.le_of_ble_eq_true rfl) dX8_failureOfHas_23 ⟨Nat.le_of_ble_eq_true rfl, Nat.le_of_ble_eq_true rfl⟩) hS (fun z10 u11 H locs p12 hw hS => ?_)
        obtain ⟨eu11, p12⟩ := p12
        subst eu11
        rcases p12 with ⟨ez10, p12⟩ | ⟨ez10, p12⟩
        · subst ez10
          refine x_if_neT (tgt := 31) hx hb (by omega) (by decide) dX8_failureOfHas_26 (by decide) ?_
          refine lv_aload_n hx hb dX8_failureOfHas_31 rfl (lv_at hl 0 rfl) ?_
          refine x_geto hx hb hf6 hw (by omega) (by omega) sl_15_2 lk158 dX8_failureOfHas_32 ?_
          refine lv_aload_n hx hb dX8_failureOfHas_35 rfl (lv_at hl 1 rfl) ?_
          refine x_geti (jz := 1) hx hb hf0 hw (by omega) (by omega) sl_25_1 rfl lk302 dX8_failureOfHas_36 ?_
          have f13 : 0 ≤ X 25 g 1 ∧ X 25 g 1 ≤ 4 := hR 25 g 1
          refine x_aald hx hb hK.1 hw (by omega) (by omega) ar_17 rfl (len_E ar_17 (by decide)) (by omega) (by omega) (by omega) dX8_failureOfHas_39 (fun y14 => ?_) (fun r15 y14 gr15 lr15 => ?_)
          · refine lv_astore_nN (lv' := [(2, .null), (0, .ref (ad 15 x)), (1, .ref (ad 25 g))]) hx hb dX8_failureOfHas_40 rfl hl (by decide) rfl (fun ls hl => ?_)
            refine lv_aload_nN hx hb dX8_failureOfHas_41 rfl (lv_at hl 0 rfl) ?_
            refine lv_ifnonnullN hx hb dX8_failureOfHas_42 ?_
            refine lv_iconst (v := jI 1) hx hb dX8_failureOfHas_45 rfl ?_
            rw [hQ9]
            refine ret_i (mc := 0) (ms := 0) hx hb hr hlocks hw hS (by omega) (by omega) dX8_failureOfHas_46 ?_
            exact ⟨rfl, by omega, fun hk9 => (by unfold ckC; rw [tyo_some y1]; rw [ckF_2 (by omega) (by (try delta Hid at *); omega)]; rw [y14, rlen_n, if_pos (by omega)])⟩
          · refine lv_astore_n (lv' := [(2, .ref (ad 26 r15)), (0, .ref (ad 15 x)), (1, .ref (ad 25 g))]) hx hb dX8_failureOfHas_40 rfl hl (by decide) rfl (fun ls hl => ?_)
            refine lv_aload_n hx hb dX8_failureOfHas_41 rfl (lv_at hl 0 rfl) ?_
            refine lv_ifnonnull (tgt := 47) hx hb dX8_failureOfHas_42 (by decide) ?_
            refine lv_aload_n hx hb dX8_failureOfHas_47 rfl (lv_at hl 1 rfl) ?_
            refine x_geto hx hb hf6 hw (by omega) (by omega) sl_15_1 lk193 dX8_failureOfHas_48 ?_
            refine lv_aload_n hx hb dX8_failureOfHas_51 rfl (lv_at hl 2 rfl) ?_
            refine x_geti (jz := 2) hx hb hf0 hw (by omega) (by omega) sl_25_2 rfl lk308 dX8_failureOfHas_52 ?_
            have f16 : 0 ≤ X 25 g 2 ∧ X 25 g 2 ≤ 4 := hR 25 g 2
            refine x_lald hx hb hK.1 hw (by omega) (by omega) ar_16 (len_E ar_16 (by decide)) (by omega) (by omega) (by omega) dX8_failureOfHas_55 ?_
            have f17 : (-9223372036854775808) ≤ X 16 x (X 25 g 2) ∧ X 16 x (X 25 g 2) ≤ 9223372036854775807 := hR 16 x (X 25 g 2)
            refine lv_lstore_n (lv' := [(3, .long (jL (X 16 x (X 25 g 2)))), (2, .ref (ad 26 r15)), (0, .ref (ad 15 x)), (1, .ref (ad 25 g))]) hx hb dX8_failureOfHas_56 rfl hl (by decide) rfl (fun ls hl => ?_)
            refine lv_lload_n hx hb dX8_failureOfHas_57 rfl (lv_at hl 0 rfl) ?_
            refine lv_lconst (v := jL 0) hx hb dX8_failureOfHas_58 (by decide) ?_
            refine x_lcmp hx hb (by omega) (by omega) dX8_failureOfHas_59 ?_
            obtain ⟨z18, ez18⟩ : ∃ y : Int, y = cmpZ (X 16 x (X 25 g 2)) 0 := ⟨_, rfl⟩
            rw [← ez18]
            have gz18 : (z18 < 0 ↔ ((X 16 x (X 25 g 2)) : Int) < 0) ∧ (z18 = 0 ↔ ((X 16 x (X 25 g 2)) : Int) = 0) ∧ -1 ≤ z18 ∧ z18 ≤ 1 := by rw [ez18]; exact ⟨cmpZ_lt, cmpZ_eq, (cmpZ_r _ _).1, (cmpZ_r _ _).2⟩
            clear ez18
            refine x_if_lt (tgt := 74) hx hb (by omega) dX8_failureOfHas_60 (by decide) (fun c19 => ?_) (fun c19 => ?_)
            · refine lv_iconst (v := jI 2) hx hb dX8_failureOfHas_74 rfl ?_
              rw [hQ9]
              refine ret_i (mc := 0) (ms := 0) hx hb hr hlocks hw hS (by omega) (by omega) dX8_failureOfHas_75 ?_
              exact ⟨rfl, by omega, fun hk9 => (by unfold ckC; rw [tyo_some y1]; have fl9 := hLn r15; rw [ckF_2 (by omega) (by (try delta Hid at *); omega)]; rw [y14, rlen_s, tyo_s]; (repeat' split) <;> omega)⟩
            · refine lv_lload_n hx hb dX8_failureOfHas_63 rfl (lv_at hl 0 rfl) ?_
              refine lv_aload_n hx hb dX8_failureOfHas_64 rfl (lv_at hl 1 rfl) ?_
              refine x_geto hx hb hf5 hw (by omega) (by omega) sl_26_0 lk161 dX8_failureOfHas_65 ?_
              have f20 : 0 ≤ ln r15 ∧ ln r15 ≤ 12 := hLn r15
              refine x_alenl hx hb hK.1 hw (by omega) (by omega) ar_27 (show lenE ln 27 r15 = ln r15 from rfl) (by omega) dX8_failureOfHas_68 ?_
              refine x_i2l hx hb (by omega) dX8_failureOfHas_69 ?_
              refine x_lcmp hx hb (by omega) (by omega) dX8_failureOfHas_70 ?_
              obtain ⟨z21, ez21⟩ : ∃ y : Int, y = cmpZ (X 16 x (X 25 g 2)) (ln r15) := ⟨_, rfl⟩
              rw [← ez21]
              have gz21 : (z21 < 0 ↔ ((X 16 x (X 25 g 2)) : Int) < (ln r15)) ∧ (z21 = 0 ↔ ((X 16 x (X 25 g 2)) : Int) = (ln r15)) ∧ -1 ≤ z21 ∧ z21 ≤ 1 := by rw [ez21]; exact ⟨cmpZ_lt, cmpZ_eq, (cmpZ_r _ _).1, (cmpZ_r _ _).2⟩
              clear ez21
              refine x_if_lt (tgt := 76) hx hb (by omega) dX8_failureOfHas_71 (by decide) (fun c22 => ?_) (fun c22 => ?_)
              · refine lv_aload_n hx hb dX8_failureOfHas_76 rfl (lv_at hl 1 rfl) ?_
                refine x_geto hx hb hf5 hw (by omega) (by omega) sl_26_0 lk161 dX8_failureOfHas_77 ?_
                refine lv_lload_n hx hb dX8_failureOfHas_80 rfl (lv_at hl 0 rfl) ?_
                refine x_l2i hx hb dX8_failureOfHas_81 ?_
                have f23 : 0 ≤ ln r15 ∧ ln r15 ≤ 12 := hLn r15
                refine x_lald hx hb hK.1 hw (by omega) (by omega) ar_27 (show lenE ln 27 r15 = ln r15 from rfl) (by omega) (by omega) (by omega) dX8_failureOfHas_82 ?_
                have f24 : (-9223372036854775808) ≤ X 27 r15 (X 16 x (X 25 g 2)) ∧ X 27 r15 (X 16 x (X 25 g 2)) ≤ 9223372036854775807 := hR 27 r15 (X 16 x (X 25 g 2))
                refine lv_aload_n hx hb dX8_failureOfHas_83 rfl (lv_at hl 3 rfl) ?_
                refine x_getl (jz := 3) hx hb hf0 hw (by omega) (by omega) sl_25_3 rfl lk311 dX8_failureOfHas_84 ?_
                have f25 : (-9223372036854775808) ≤ X 25 g 3 ∧ X 25 g 3 ≤ 9223372036854775807 := hR 25 g 3
                refine x_lcmp hx hb (by omega) (by omega) dX8_failureOfHas_87 ?_
                obtain ⟨z26, ez26⟩ : ∃ y : Int, y = cmpZ (X 27 r15 (X 16 x (X 25 g 2))) (X 25 g 3) := ⟨_, rfl⟩
                rw [← ez26]
                have gz26 : (z26 < 0 ↔ ((X 27 r15 (X 16 x (X 25 g 2))) : Int) < (X 25 g 3)) ∧ (z26 = 0 ↔ ((X 27 r15 (X 16 x (X 25 g 2))) : Int) = (X 25 g 3)) ∧ -1 ≤ z26 ∧ z26 ≤ 1 := by rw [ez26]; exact ⟨cmpZ_lt, cmpZ_eq, (cmpZ_r _ _).1, (cmpZ_r _ _).2⟩
                clear ez26
                refine x_if_le (tgt := 95) hx hb (by omega) dX8_failureOfHas_88 (by decide) (fun c27 => ?_) (fun c27 => ?_)
                · refine lv_bipush (v := jI 6) hx hb dX8_failureOfHas_95 (by decide) ?_
                  rw [hQ9]
                  refine ret_i (mc := 0) (ms := 0) hx hb hr hlocks hw hS (by omega) (by omega) dX8_failureOfHas_97 ?_
                  exact ⟨rfl, by omega, fun hk9 => (by unfold ckC; rw [tyo_some y1]; have fl9 := hLn r15; rw [ckF_2 (by omega) (by (try delta Hid at *); omega)]; rw [y14, rlen_s, tyo_s]; (repeat' split) <;> omega)⟩
                · refine lv_iconst (v := jI 0) hx hb dX8_failureOfHas_91 rfl ?_
                  refine lv_goto (tgt := 97) hx hb dX8_failureOfHas_92 (by decide) ?_
                  rw [hQ9]
                  refine ret_i (mc := 0) (ms := 0) hx hb hr hlocks hw hS (by omega) (by omega) dX8_failureOfHas_97 ?_
                  exact ⟨rfl, by omega, fun hk9 => (by unfold ckC; rw [tyo_some y1]; have fl9 := hLn r15; rw [ckF_2 (by omega) (by (try delta Hid at *); omega)]; rw [y14, rlen_s, tyo_s]; (repeat' split) <;> omega)⟩
              · refine lv_iconst (v := jI 2) hx hb dX8_failureOfHas_74 rfl ?_
                rw [hQ9]
                refine ret_i (mc := 0) (ms := 0) hx hb hr hlocks hw hS (by omega) (by omega) dX8_failureOfHas_75 ?_
                exact ⟨rfl, by omega, fun hk9 => (by unfold ckC; rw [tyo_some y1]; have fl9 := hLn r15; rw [ckF_2 (by omega) (by (try delta Hid at *); omega)]; rw [y14, rlen_s, tyo_s]; (repeat' split) <;> omega)⟩
        · subst ez10
          refine x_if_neF (tgt := 31) hx hb (by omega) (by decide) dX8_failureOfHas_26 (by decide) ?_
          refine lv_iconst (v := jI 4) hx hb dX8_failureOfHas_29 rfl ?_
          rw [hQ9]
          refine ret_i (mc := 0) (ms := 0) hx hb hr hlocks hw hS (by omega) (by omega) dX8_failureOfHas_30 ?_
          exact ⟨rfl, by omega, fun hk9 => (by unfold ckC; rw [tyo_some y1]; rw [ckF_c ⟨by omega, by omega⟩ (by (try delta Hid at *); omega)])⟩
    · subst ez4
      refine x_if_eqT (tgt := 29) hx hb (by omega) (by decide) dX8_failureOfHas_11 (by decide) ?_
      refine lv_iconst (v := jI 4) hx hb dX8_failureOfHas_29 rfl ?_
      rw [hQ9]
      refine ret_i (mc := 0) (ms := 0) hx hb hr hlocks hw hS (by omega) (by omega) dX8_failureOfHas_30 ?_
      exact ⟨rfl, by omega, fun hk9 => (by unfold ckC; rw [tyo_some y1]; rw [ckF_c ⟨by omega, by omega⟩ (by (try delta Hid at *); omega)])⟩

set_option maxHeartbeats 4000000 in
set_option maxRecDepth 100000 in
theorem c_X8_failureOfHolds (l : Launch) (D : va_G) (tc : Nat → ClassId) (base : Nat) (ad : Nat → Int → Nat) (cnt : Nat → Int) (X : Nat → Int → Int → Int) (Y : Nat → Int → Int → Option Int) (ln : Int → Int) (hR : Rng X) (hFx : Fx cnt) (hLn : LnOK ln) (hCI : CInv cnt X Y ln) (x g : Int) (hx0 : 0 ≤ x ∧ x ≤ 29) (hxt : x < X 0 0 3) (hg : 0 ≤ g ∧ g < cnt 25) : KI l D tc base yX8_failureOfHolds wsX8_failureOfHolds ({ frames := 3, cells := 0, slots := 0, locals := 64 } : Room) [.ref (ad 15 x), .ref (ad 25 g)] (ad, cnt, X, Y, ln) 0 0 (fun z u => u = (ad, cnt, X, Y, ln) ∧ (0 ≤ z ∧ z ≤ 10) ∧ (X 25 g 0 = 3 → z = ckC X Y ln x g)) := by
  refine K_of (cc := cX8_failureOfHolds) (maxL := 4) (ret := (some .int)) (by decide) rfl (Nat.le_of_ble_eq_true rfl) ?_
  intro p e s m below meth c ls hx hb hr hml hown hts hlocks hl hK hw hS
  have hown : s.vm.findClass RX8 = some m.cls := hown
  obtain ⟨av9, hav9⟩ : ∃ a9 : Array Value, a9 = ([.ref (ad 15 x), .ref (ad 25 g)] : List Value).toArray := ⟨_, rfl⟩
  rw [← hav9] at hts ⊢
  obtain ⟨Q9, hQ9⟩ : ∃ q9Q : State → Prop, q9Q = MQ below (QI D tc base (fun z u => u = (ad, cnt, X, Y, ln) ∧ (0 ≤ z ∧ z ≤ 10) ∧ (X 25 g 0 = 3 → z = ckC X Y ln x g))) av9 s 0 0 (frA base) := ⟨_, rfl⟩
  rw [← hQ9]
  have hi0 : ∀ w ∈ wsX00, w ∈ wsX8_failureOfHolds := fun w h => List.mem_cons_of_mem _ (List.mem_append_left _ (List.mem_append_right _ h))
  have hf0 : fctx s m _ RX8 wsX8_failureOfHolds D tc RX0 TX0 4 0 := ⟨hts, hi0, hown, hK.1, rfl⟩
  have hi6 : ∀ w ∈ wsX60, w ∈ wsX8_failureOfHolds := fun w h => List.mem_cons_of_mem _ (List.mem_append_left _ (List.mem_append_left _ (List.mem_append_right _ h)))
  have hf6 : fctx s m _ RX8 wsX8_failureOfHolds D tc RX6 TX6 4 6 := ⟨hts, hi6, hown, hK.1, rfl⟩
  have lk97 := hts (.fieldLink RX8 97 (TX6 0).1 (TX6 0).2.1 (TX6 0).2.2.1) (gj_X8_failureOfHolds_0 _ (gp_h))
  have lk193 := hts (.fieldLink RX8 193 (TX6 1).1 (TX6 1).2.1 (TX6 1).2.2.1) (gj_X8_failureOfHolds_0 _ (gp_1 (gp_1 gp_h)))
  have lk302 := hts (.fieldLink RX8 302 (TX0 1).1 (TX0 1).2.1 (TX0 1).2.2.1) (gj_X8_failureOfHolds_0 _ (gp_1 gp_h))
  have hc15 : cnt 15 = 30 := hFx.at 15 30 (by decide)
  have hc16 : cnt 16 = 30 := hFx.at 16 30 (by decide)
  have hc27 : cnt 27 = cnt 26 := hFx.2.2
  have hl : lv_has ls 4 [(0, .ref (ad 15 x)), (1, .ref (ad 25 g))] := hl
  have ftc : 0 ≤ X 0 0 3 ∧ X 0 0 3 ≤ 30 := hR 0 0 3
  have fty : 0 ≤ X 0 0 1 ∧ X 0 0 1 ≤ 8 := hR 0 0 1
  have hct : cnt 19 = X 0 0 1 := hCI.2.2.2.1.1
  have hfj : 0 ≤ X 29 0 3 ∧ X 29 0 3 ≤ 4 := hR 29 0 3
  have hfn : 0 ≤ X 29 0 1 ∧ X 29 0 1 ≤ 80 := hR 29 0 1
  have fka : 0 ≤ X 25 g 1 ∧ X 25 g 1 ≤ 4 := hR 25 g 1
  have fkb : 0 ≤ X 25 g 2 ∧ X 25 g 2 ≤ 4 := hR 25 g 2
  have fkk : 0 ≤ X 25 g 0 ∧ X 25 g 0 ≤ 5 := hR 25 g 0
  refine lv_aload_n hx hb dX8_failureOfHolds_0 rfl (lv_at hl 0 rfl) ?_
  refine x_getr (jz := 0) hx hb hf6 hw (by omega) (by omega) sl_15_0 rfl lk97 dX8_failureOfHolds_1 (fun y1 => ?_) (fun r2 y1 gr2 lr2 => ?_)
  · exfalso
    exact absurd y1 (hCI.2.2.2.2.1 x (by omega) (by omega))
  · refine lv_aload_n hx hb dX8_failureOfHolds_4 rfl (lv_at hl 1 rfl) ?_
    refine x_geti (jz := 1) hx hb hf0 hw (by omega) (by omega) sl_25_1 rfl lk302 dX8_failureOfHolds_5 ?_
    have f3 : 0 ≤ X 25 g 1 ∧ X 25 g 1 ≤ 4 := hR 25 g 1
    refine lv_iconst (v := jI 0) hx hb dX8_failureOfHolds_8 rfl ?_
    refine gos_i (run_V (As := [.int (jI (X 25 g 1)), .int (jI 0)]) (rest := []) hx hb hml hown hts (c_X7_hasLane l D tc base ad cnt X Y ln hR hFx hLn r2 (X 25 g 1) 0 (by omega) (by omega) (by omega)) (cwV 2 hts gX8_failureOfHolds_X7_hasLane rfl rfl rfl (by decide +kernel) ⟨Nat.le_of_ble_eq_true rfl, Nat.le_of_ble_eq_true rfl⟩) hK hw (by omega) (by omega) sl_19_0 rfl rfl hl.1 rfl (Nat.le_of_ble_eq_true rfl) dX8_failureOfHolds_9 ⟨Nat.le_of_ble_eq_true rfl, Nat.le_of_ble_eq_true rfl⟩) hS (fun z4 u5 H locs p6 hw hS => ?_)
    obtain ⟨eu5, p6⟩ := p6
    subst eu5
    rcases p6 with ⟨ez4, p6⟩ | ⟨ez4, p6⟩
    · subst ez4
      refine x_if_neT (tgt := 17) hx hb (by omega) (by decide) dX8_failureOfHolds_12 (by decide) ?_
      refine lv_aload_n hx hb dX8_failureOfHolds_17 rfl (lv_at hl 0 rfl) ?_
      refine x_geto hx hb hf6 hw (by omega) (by omega) sl_15_1 lk193 dX8_failureOfHolds_18 ?_
      refine lv_aload_n hx hb dX8_failureOfHolds_21 rfl (lv_at hl 1 rfl) ?_
      refine x_geti (jz := 1) hx hb hf0 hw (by omega) (by omega) sl_25_1 rfl lk302 dX8_failureOfHolds_22 ?_
      have f7 : 0 ≤ X 25 g 1 ∧ X 25 g 1 ≤ 4 := hR 25 g 1
      refine x_lald hx hb hK.1 hw (by omega) (by omega) ar_16 (len_E ar_16 (by decide)) (by omega) (by omega) (by omega) dX8_failureOfHolds_25 ?_
      have f8 : (-9223372036854775808) ≤ X 16 x (X 25 g 1) ∧ X 16 x (X 25 g 1) ≤ 9223372036854775807 := hR 16 x (X 25 g 1)
      refine lv_lstore_n (lv' := [(2, .long (jL (X 16 x (X 25 g 1)))), (0, .ref (ad 15 x)), (1, .ref (ad 25 g))]) hx hb dX8_failureOfHolds_26 rfl hl (by decide) rfl (fun ls hl => ?_)
      refine lv_lload_n hx hb dX8_failureOfHolds_27 rfl (lv_at hl 0 rfl) ?_
      refine lv_ldc2 (v := jL 12) hx hb hown (hts (.constantLong RX8 318 (12)) (by decide +kernel)) dX8_failureOfHolds_28 ?_
      refine x_lcmp hx hb (by omega) (by omega) dX8_failureOfHolds_31 ?_
      obtain ⟨z9, ez9⟩ : ∃ y : Int, y = cmpZ (X 16 x (X 25 g 1)) 12 := ⟨_, rfl⟩
      rw [← ez9]
      have gz9 : (z9 < 0 ↔ ((X 16 x (X 25 g 1)) : Int) < 12) ∧ (z9 = 0 ↔ ((X 16 x (X 25 g 1)) : Int) = 12) ∧ -1 ≤ z9 ∧ z9 ≤ 1 := by rw [ez9]; exact ⟨cmpZ_lt, cmpZ_eq, (cmpZ_r _ _).1, (cmpZ_r _ _).2⟩
      clear ez9
      refine x_if_le (tgt := 38) hx hb (by omega) dX8_failureOfHolds_32 (by decide) (fun c10 => ?_) (fun c10 => ?_)
      · refine lv_lload_n hx hb dX8_failureOfHolds_38 rfl (lv_at hl 0 rfl) ?_
        refine lv_lconst (v := jL 0) hx hb dX8_failureOfHolds_39 (by decide) ?_
        refine x_lcmp hx hb (by omega) (by omega) dX8_failureOfHolds_40 ?_
        obtain ⟨z11, ez11⟩ : ∃ y : Int, y = cmpZ (X 16 x (X 25 g 1)) 0 := ⟨_, rfl⟩
        rw [← ez11]
        have gz11 : (z11 < 0 ↔ ((X 16 x (X 25 g 1)) : Int) < 0) ∧ (z11 = 0 ↔ ((X 16 x (X 25 g 1)) : Int) = 0) ∧ -1 ≤ z11 ∧ z11 ≤ 1 := by rw [ez11]; exact ⟨cmpZ_lt, cmpZ_eq, (cmpZ_r _ _).1, (cmpZ_r _ _).2⟩
        clear ez11
        refine x_if_ge (tgt := 48) hx hb (by omega) dX8_failureOfHolds_41 (by decide) (fun c12 => ?_) (fun c12 => ?_)
        · refine lv_iconst (v := jI 0) hx hb dX8_failureOfHolds_48 rfl ?_
          rw [hQ9]
          refine ret_i (mc := 0) (ms := 0) hx hb hr hlocks hw hS (by omega) (by omega) dX8_failureOfHolds_49 ?_
          exact ⟨rfl, by omega, fun hk9 => (by unfold ckC; rw [tyo_some y1]; rw [ckF_3 (by omega) (by (try delta Hid at *); omega)]; (repeat' split) <;> omega)⟩
        · refine lv_iconst (v := jI 3) hx hb dX8_failureOfHolds_44 rfl ?_
          refine lv_goto (tgt := 49) hx hb dX8_failureOfHolds_45 (by decide) ?_
          rw [hQ9]
          refine ret_i (mc := 0) (ms := 0) hx hb hr hlocks hw hS (by omega) (by omega) dX8_failureOfHolds_49 ?_
          exact ⟨rfl, by omega, fun hk9 => (by unfold ckC; rw [tyo_some y1]; rw [ckF_3 (by omega) (by (try delta Hid at *); omega)]; (repeat' split) <;> omega)⟩
      · refine lv_bipush (v := jI 6) hx hb dX8_failureOfHolds_35 (by decide) ?_
        rw [hQ9]
        refine ret_i (mc := 0) (ms := 0) hx hb hr hlocks hw hS (by omega) (by omega) dX8_failureOfHolds_37 ?_
        exact ⟨rfl, by omega, fun hk9 => (by unfold ckC; rw [tyo_some y1]; rw [ckF_3 (by omega) (by (try delta Hid at *); omega)]; (repeat' split) <;> omega)⟩
    · subst ez4
      refine x_if_neF (tgt := 17) hx hb (by omega) (by decide) dX8_failureOfHolds_12 (by decide) ?_
      refine lv_iconst (v := jI 4) hx hb dX8_failureOfHolds_15 rfl ?_
      rw [hQ9]
      refine ret_i (mc := 0) (ms := 0) hx hb hr hlocks hw hS (by omega) (by omega) dX8_failureOfHolds_16 ?_
      exact ⟨rfl, by omega, fun hk9 => (by unfold ckC; rw [tyo_some y1]; rw [ckF_c ⟨by omega, by omega⟩ (by (try delta Hid at *); omega)])⟩

set_option maxHeartbeats 4000000 in
set_option maxRecDepth 100000 in
theorem c_X8_failureOfLeast (l : Launch) (D : va_G) (tc : Nat → ClassId) (base : Nat) (ad : Nat → Int → Nat) (cnt : Nat → Int) (X : Nat → Int → Int → Int) (Y : Nat → Int → Int → Option Int) (ln : Int → Int) (hR : Rng X) (hFx : Fx cnt) (hLn : LnOK ln) (hCI : CInv cnt X Y ln) (x g : Int) (hx0 : 0 ≤ x ∧ x ≤ 29) (hxt : x < X 0 0 3) (hg : 0 ≤ g ∧ g < cnt 25) : KI l D tc base yX8_failureOfLeast wsX8_failureOfLeast ({ frames := 3, cells := 0, slots := 0, locals := 64 } : Room) [.ref (ad 15 x), .ref (ad 25 g)] (ad, cnt, X, Y, ln) 0 0 (fun z u => u = (ad, cnt, X, Y, ln) ∧ (0 ≤ z ∧ z ≤ 10) ∧ (X 25 g 0 = 4 → z = ckC X Y ln x g)) := by
  refine K_of (cc := cX8_failureOfLeast) (maxL := 2) (ret := (some .int)) (by decide) rfl (Nat.le_of_ble_eq_true rfl) ?_
  intro p e s m below meth c ls hx hb hr hml hown hts hlocks hl hK hw hS
  have hown : s.vm.findClass RX8 = some m.cls := hown
  obtain ⟨av9, hav9⟩ : ∃ a9 : Array Value, a9 = ([.ref (ad 15 x), .ref (ad 25 g)] : List Value).toArray := ⟨_, rfl⟩
  rw [← hav9] at hts ⊢
  obtain ⟨Q9, hQ9⟩ : ∃ q9Q : State → Prop, q9Q = MQ below (QI D tc base (fun z u => u = (ad, cnt, X, Y, ln) ∧ (0 ≤ z ∧ z ≤ 10) ∧ (X 25 g 0 = 4 → z = ckC X Y ln x g))) av9 s 0 0 (frA base) := ⟨_, rfl⟩
  rw [← hQ9]
  have hi0 : ∀ w ∈ wsX00, w ∈ wsX8_failureOfLeast := fun w h => List.mem_cons_of_mem _ (List.mem_append_left _ (List.mem_append_right _ h))
  have hf0 : fctx s m _ RX8 wsX8_failureOfLeast D tc RX0 TX0 4 0 := ⟨hts, hi0, hown, hK.1, rfl⟩
  have hi6 : ∀ w ∈ wsX60, w ∈ wsX8_failureOfLeast := fun w h => List.mem_cons_of_mem _ (List.mem_append_left _ (List.mem_append_left _ (List.mem_append_right _ h)))
  have hf6 : fctx s m _ RX8 wsX8_failureOfLeast D tc RX6 TX6 4 6 := ⟨hts, hi6, hown, hK.1, rfl⟩
  have lk97 := hts (.fieldLink RX8 97 (TX6 0).1 (TX6 0).2.1 (TX6 0).2.2.1) (gj_X8_failureOfLeast_0 _ (gp_h))
  have lk193 := hts (.fieldLink RX8 193 (TX6 1).1 (TX6 1).2.1 (TX6 1).2.2.1) (gj_X8_failureOfLeast_0 _ (gp_1 (gp_1 gp_h)))
  have lk302 := hts (.fieldLink RX8 302 (TX0 1).1 (TX0 1).2.1 (TX0 1).2.2.1) (gj_X8_failureOfLeast_0 _ (gp_1 gp_h))
  have lk311 := hts (.fieldLink RX8 311 (TX0 3).1 (TX0 3).2.1 (TX0 3).2.2.1) (gj_X8_failureOfLeast_0 _ (gp_1 (gp_1 (gp_1 gp_h))))
  have hc15 : cnt 15 = 30 := hFx.at 15 30 (by decide)
  have hc16 : cnt 16 = 30 := hFx.at 16 30 (by decide)
  have hc27 : cnt 27 = cnt 26 := hFx.2.2
  have hl : lv_has ls 2 [(0, .ref (ad 15 x)), (1, .ref (ad 25 g))] := hl
  have ftc : 0 ≤ X 0 0 3 ∧ X 0 0 3 ≤ 30 := hR 0 0 3
  have fty : 0 ≤ X 0 0 1 ∧ X 0 0 1 ≤ 8 := hR 0 0 1
  have hct : cnt 19 = X 0 0 1 := hCI.2.2.2.1.1
  have hfj : 0 ≤ X 29 0 3 ∧ X 29 0 3 ≤ 4 := hR 29 0 3
  have hfn : 0 ≤ X 29 0 1 ∧ X 29 0 1 ≤ 80 := hR 29 0 1
  have fka : 0 ≤ X 25 g 1 ∧ X 25 g 1 ≤ 4 := hR 25 g 1
  have fkb : 0 ≤ X 25 g 2 ∧ X 25 g 2 ≤ 4 := hR 25 g 2
  have fkk : 0 ≤ X 25 g 0 ∧ X 25 g 0 ≤ 5 := hR 25 g 0
  refine lv_aload_n hx hb dX8_failureOfLeast_0 rfl (lv_at hl 0 rfl) ?_
  refine x_getr (jz := 0) hx hb hf6 hw (by omega) (by omega) sl_15_0 rfl lk97 dX8_failureOfLeast_1 (fun y1 => ?_) (fun r2 y1 gr2 lr2 => ?_)
  · exfalso
    exact absurd y1 (hCI.2.2.2.2.1 x (by omega) (by omega))
  · refine lv_aload_n hx hb dX8_failureOfLeast_4 rfl (lv_at hl 1 rfl) ?_
    refine x_geti (jz := 1) hx hb hf0 hw (by omega) (by omega) sl_25_1 rfl lk302 dX8_failureOfLeast_5 ?_
    have f3 : 0 ≤ X 25 g 1 ∧ X 25 g 1 ≤ 4 := hR 25 g 1
    refine lv_iconst (v := jI 0) hx hb dX8_failureOfLeast_8 rfl ?_
    refine gos_i (run_V (As := [.int (jI (X 25 g 1)), .int (jI 0)]) (rest := []) hx hb hml hown hts (c_X7_hasLane l D tc base ad cnt X Y ln hR hFx hLn r2 (X 25 g 1) 0 (by omega) (by omega) (by omega)) (cwV 2 hts gX8_failureOfLeast_X7_hasLane rfl rfl rfl (by decide +kernel) ⟨Nat.le_of_ble_eq_true rfl, Nat.le_of_ble_eq_true rfl⟩) hK hw (by omega) (by omega) sl_19_0 rfl rfl hl.1 rfl (Nat.le_of_ble_eq_true rfl) dX8_failureOfLeast_9 ⟨Nat.le_of_ble_eq_true rfl, Nat.le_of_ble_eq_true rfl⟩) hS (fun z4 u5 H locs p6 hw hS => ?_)
    obtain ⟨eu5, p6⟩ := p6
    subst eu5
    rcases p6 with ⟨ez4, p6⟩ | ⟨ez4, p6⟩
    · subst ez4
      refine x_if_neT (tgt := 17) hx hb (by omega) (by decide) dX8_failureOfLeast_12 (by decide) ?_
      refine lv_aload_n hx hb dX8_failureOfLeast_17 rfl (lv_at hl 0 rfl) ?_
      refine x_geto hx hb hf6 hw (by omega) (by omega) sl_15_1 lk193 dX8_failureOfLeast_18 ?_
      refine lv_aload_n hx hb dX8_failureOfLeast_21 rfl (lv_at hl 1 rfl) ?_
      refine x_geti (jz := 1) hx hb hf0 hw (by omega) (by omega) sl_25_1 rfl lk302 dX8_failureOfLeast_22 ?_
      have f7 : 0 ≤ X 25 g 1 ∧ X 25 g 1 ≤ 4 := hR 25 g 1
      refine x_lald hx hb hK.1 hw (by omega) (by omega) ar_16 (len_E ar_16 (by decide)) (by omega) (by omega) (by omega) dX8_failureOfLeast_25 ?_
      have f8 : (-9223372036854775808) ≤ X 16 x (X 25 g 1) ∧ X 16 x (X 25 g 1) ≤ 9223372036854775807 := hR 16 x (X 25 g 1)
      refine lv_aload_n hx hb dX8_failureOfLeast_26 rfl (lv_at hl 1 rfl) ?_
      refine x_getl (jz := 3) hx hb hf0 hw (by omega) (by omega) sl_25_3 rfl lk311 dX8_failureOfLeast_27 ?_
      have f9 : (-9223372036854775808) ≤ X 25 g 3 ∧ X 25 g 3 ≤ 9223372036854775807 := hR 25 g 3
      refine x_lcmp hx hb (by omega) (by omega) dX8_failureOfLeast_30 ?_
      obtain ⟨z10, ez10⟩ : ∃ y : Int, y = cmpZ (X 16 x (X 25 g 1)) (X 25 g 3) := ⟨_, rfl⟩
      rw [← ez10]
      have gz10 : (z10 < 0 ↔ ((X 16 x (X 25 g 1)) : Int) < (X 25 g 3)) ∧ (z10 = 0 ↔ ((X 16 x (X 25 g 1)) : Int) = (X 25 g 3)) ∧ -1 ≤ z10 ∧ z10 ≤ 1 := by rw [ez10]; exact ⟨cmpZ_lt, cmpZ_eq, (cmpZ_r _ _).1, (cmpZ_r _ _).2⟩
      clear ez10
      refine x_if_ge (tgt := 39) hx hb (by omega) dX8_failureOfLeast_31 (by decide) (fun c11 => ?_) (fun c11 => ?_)
      · refine lv_iconst (v := jI 0) hx hb dX8_failureOfLeast_39 rfl ?_
        rw [hQ9]
        refine ret_i (mc := 0) (ms := 0) hx hb hr hlocks hw hS (by omega) (by omega) dX8_failureOfLeast_40 ?_
        exact ⟨rfl, by omega, fun hk9 => (by unfold ckC; rw [tyo_some y1]; rw [ckF_4 (by omega) (by (try delta Hid at *); omega)]; (repeat' split) <;> omega)⟩
      · refine lv_bipush (v := jI 6) hx hb dX8_failureOfLeast_34 (by decide) ?_
        refine lv_goto (tgt := 40) hx hb dX8_failureOfLeast_36 (by decide) ?_
        rw [hQ9]
        refine ret_i (mc := 0) (ms := 0) hx hb hr hlocks hw hS (by omega) (by omega) dX8_failureOfLeast_40 ?_
        exact ⟨rfl, by omega, fun hk9 => (by unfold ckC; rw [tyo_some y1]; rw [ckF_4 (by omega) (by (try delta Hid at *); omega)]; (repeat' split) <;> omega)⟩
    · subst ez4
      refine x_if_neF (tgt := 17) hx hb (by omega) (by decide) dX8_failureOfLeast_12 (by decide) ?_
      refine lv_iconst (v := jI 4) hx hb dX8_failureOfLeast_15 rfl ?_
      rw [hQ9]
      refine ret_i (mc := 0) (ms := 0) hx hb hr hlocks hw hS (by omega) (by omega) dX8_failureOfLeast_16 ?_
      exact ⟨rfl, by omega, fun hk9 => (by unfold ckC; rw [tyo_some y1]; rw [ckF_c ⟨by omega, by omega⟩ (by (try delta Hid at *); omega)])⟩

set_option maxHeartbeats 4000000 in
set_option maxRecDepth 100000 in
theorem c_X8_failureOfLeads (l : Launch) (D : va_G) (tc : Nat → ClassId) (base : Nat) (ad : Nat → Int → Nat) (cnt : Nat → Int) (X : Nat → Int → Int → Int) (Y : Nat → Int → Int → Option Int) (ln : Int → Int) (hR : Rng X) (hFx : Fx cnt) (hLn : LnOK ln) (hCI : CInv cnt X Y ln) (x g : Int) (hx0 : 0 ≤ x ∧ x ≤ 29) (hxt : x < X 0 0 3) (hg : 0 ≤ g ∧ g < cnt 25) : KI l D tc base yX8_failureOfLeads wsX8_failureOfLeads ({ frames := 3, cells := 0, slots := 0, locals := 64 } : Room) [.ref (ad 0 0), .ref (ad 15 x), .ref (ad 25 g)] (ad, cnt, X, Y, ln) 0 0 (fun z u => u = (ad, cnt, X, Y, ln) ∧ (0 ≤ z ∧ z ≤ 10) ∧ (X 25 g 0 = 5 → z = ckC X Y ln x g)) := by
  refine K_of (cc := cX8_failureOfLeads) (maxL := 5) (ret := (some .int)) (by decide) rfl (Nat.le_of_ble_eq_true rfl) ?_
  intro p e s m below meth c ls hx hb hr hml hown hts hlocks hl hK hw hS
  have hown : s.vm.findClass RX8 = some m.cls := hown
  obtain ⟨av9, hav9⟩ : ∃ a9 : Array Value, a9 = ([.ref (ad 0 0), .ref (ad 15 x), .ref (ad 25 g)] : List Value).toArray := ⟨_, rfl⟩
  rw [← hav9] at hts ⊢
  obtain ⟨Q9, hQ9⟩ : ∃ q9Q : State → Prop, q9Q = MQ below (QI D tc base (fun z u => u = (ad, cnt, X, Y, ln) ∧ (0 ≤ z ∧ z ≤ 10) ∧ (X 25 g 0 = 5 → z = ckC X Y ln x g))) av9 s 0 0 (frA base) := ⟨_, rfl⟩
  rw [← hQ9]
  have hi0 : ∀ w ∈ wsX00, w ∈ wsX8_failureOfLeads := fun w h => List.mem_cons_of_mem _ (List.mem_append_left _ (List.mem_append_left _ (List.mem_append_right _ h)))
  have hf0 : fctx s m _ RX8 wsX8_failureOfLeads D tc RX0 TX0 4 0 := ⟨hts, hi0, hown, hK.1, rfl⟩
  have hi6 : ∀ w ∈ wsX60, w ∈ wsX8_failureOfLeads := fun w h => List.mem_cons_of_mem _ (List.mem_append_left _ (List.mem_append_left _ (List.mem_append_left _ (List.mem_append_right _ h))))
  have hf6 : fctx s m _ RX8 wsX8_failureOfLeads D tc RX6 TX6 4 6 := ⟨hts, hi6, hown, hK.1, rfl⟩
  have hi7 : ∀ w ∈ wsX70, w ∈ wsX8_failureOfLeads := fun w h => List.mem_cons_of_mem _ (List.mem_append_left _ (List.mem_append_right _ h))
  have hf7 : fctx s m _ RX8 wsX8_failureOfLeads D tc RX7 TX7 8 7 := ⟨hts, hi7, hown, hK.1, rfl⟩
  have lk97 := hts (.fieldLink RX8 97 (TX6 0).1 (TX6 0).2.1 (TX6 0).2.2.1) (gj_X8_failureOfLeads_0 _ (gp_h))
  have lk193 := hts (.fieldLink RX8 193 (TX6 1).1 (TX6 1).2.1 (TX6 1).2.2.1) (gj_X8_failureOfLeads_0 _ (gp_1 (gp_1 gp_h)))
  have lk302 := hts (.fieldLink RX8 302 (TX0 1).1 (TX0 1).2.1 (TX0 1).2.2.1) (gj_X8_failureOfLeads_0 _ (gp_1 gp_h))
  have lk320 := hts (.fieldLink RX8 320 (TX7 2).1 (TX7 2).2.1 (TX7 2).2.2.1) (gj_X8_failureOfLeads_0 _ (gp_1 (gp_1 (gp_1 gp_h))))
  have hc0 : cnt 0 = 1 := hFx.at 0 1 (by decide)
  have hc15 : cnt 15 = 30 := hFx.at 15 30 (by decide)
  have hc16 : cnt 16 = 30 := hFx.at 16 30 (by decide)
  have hc20 : cnt 20 = cnt 19 := hFx.2.1 20 (by decide)
  have hc27 : cnt 27 = cnt 26 := hFx.2.2
  have hl : lv_has ls 5 [(0, .ref (ad 0 0)), (1, .ref (ad 15 x)), (2, .ref (ad 25 g))] := hl
  have ftc : 0 ≤ X 0 0 3 ∧ X 0 0 3 ≤ 30 := hR 0 0 3
  have fty : 0 ≤ X 0 0 1 ∧ X 0 0 1 ≤ 8 := hR 0 0 1
  have hct : cnt 19 = X 0 0 1 := hCI.2.2.2.1.1
  have hfj : 0 ≤ X 29 0 3 ∧ X 29 0 3 ≤ 4 := hR 29 0 3
  have hfn : 0 ≤ X 29 0 1 ∧ X 29 0 1 ≤ 80 := hR 29 0 1
  have fka : 0 ≤ X 25 g 1 ∧ X 25 g 1 ≤ 4 := hR 25 g 1
  have fkb : 0 ≤ X 25 g 2 ∧ X 25 g 2 ≤ 4 := hR 25 g 2
  have fkk : 0 ≤ X 25 g 0 ∧ X 25 g 0 ≤ 5 := hR 25 g 0
  refine lv_aload_n hx hb dX8_failureOfLeads_0 rfl (lv_at hl 1 rfl) ?_
  refine x_getr (jz := 0) hx hb hf6 hw (by omega) (by omega) sl_15_0 rfl lk97 dX8_failureOfLeads_1 (fun y1 => ?_) (fun r2 y1 gr2 lr2 => ?_)
  · exfalso
    exact absurd y1 (hCI.2.2.2.2.1 x (by omega) (by omega))
  · refine lv_aload_n hx hb dX8_failureOfLeads_4 rfl (lv_at hl 2 rfl) ?_
    refine x_geti (jz := 1) hx hb hf0 hw (by omega) (by omega) sl_25_1 rfl lk302 dX8_failureOfLeads_5 ?_
    have f3 : 0 ≤ X 25 g 1 ∧ X 25 g 1 ≤ 4 := hR 25 g 1
    refine lv_iconst (v := jI 2) hx hb dX8_failureOfLeads_8 rfl ?_
    refine gos_i (run_V (As := [.int (jI (X 25 g 1)), .int (jI 2)]) (rest := []) hx hb hml hown hts (c_X7_hasLane l D tc base ad cnt X Y ln hR hFx hLn r2 (X 25 g 1) 2 (by omega) (by omega) (by omega)) (cwV 2 hts gX8_failureOfLeads_X7_hasLane rfl rfl rfl (by decide +kernel) ⟨Nat.le_of_ble_eq_true rfl, Nat.le_of_ble_eq_true rfl⟩) hK hw (by omega) (by omega) sl_19_0 rfl rfl hl.1 rfl (Nat.le_of_ble_eq_true rfl) dX8_failureOfLeads_9 ⟨Nat.le_of_ble_eq_true rfl, Nat.le_of_ble_eq_true rfl⟩) hS (fun z4 u5 H locs p6 hw hS => ?_)
    obtain ⟨eu5, p6⟩ := p6
    subst eu5
    rcases p6 with ⟨ez4, p6⟩ | ⟨ez4, p6⟩
    · subst ez4
      refine x_if_neT (tgt := 17) hx hb (by omega) (by decide) dX8_failureOfLeads_12 (by decide) ?_
      refine lv_aload_n hx hb dX8_failureOfLeads_17 rfl (lv_at hl 0 rfl) ?_
      refine lv_aload_n hx hb dX8_failureOfLeads_18 rfl (lv_at hl 1 rfl) ?_
      refine x_geto hx hb hf6 hw (by omega) (by omega) sl_15_1 lk193 dX8_failureOfLeads_19 ?_
      refine lv_aload_n hx hb dX8_failureOfLeads_22 rfl (lv_at hl 2 rfl) ?_
      refine x_geti (jz := 1) hx hb hf0 hw (by omega) (by omega) sl_25_1 rfl lk302 dX8_failureOfLeads_23 ?_
      have f7 : 0 ≤ X 25 g 1 ∧ X 25 g 1 ≤ 4 := hR 25 g 1
      refine x_lald hx hb hK.1 hw (by omega) (by omega) ar_16 (len_E ar_16 (by decide)) (by omega) (by omega) (by omega) dX8_failureOfLeads_26 ?_
      have f8 : (-9223372036854775808) ≤ X 16 x (X 25 g 1) ∧ X 16 x (X 25 g 1) ≤ 9223372036854775807 := hR 16 x (X 25 g 1)
      refine gos_r (run_V (As := [.long (jL (X 16 x (X 25 g 1)))]) (rest := []) hx hb hml hown hts (c_X8_thingNumbered l D tc base ad cnt X Y ln hR hFx hLn hCI (X 16 x (X 25 g 1)) (by omega)) (cwV 1 hts gX8_failureOfLeads_X8_thingNumbered rfl rfl rfl (by decide +kernel) ⟨Nat.le_of_ble_eq_true rfl, Nat.le_of_ble_eq_true rfl⟩) hK hw (by omega) (by omega) sl_0_0 rfl rfl hl.1 rfl (Nat.le_of_ble_eq_true rfl) dX8_failureOfLeads_27 ⟨Nat.le_of_ble_eq_true rfl, Nat.le_of_ble_eq_true rfl⟩) hS (fun u10 H locs p11 hw hS => ?_) (fun z9 u10 H locs p11 hw hS => ?_)
      · obtain ⟨eu10, hsp11, hnp11⟩ := p11
        subst eu10
        refine lv_astore_nN (lv' := [(3, .null), (0, .ref (ad 0 0)), (1, .ref (ad 15 x)), (2, .ref (ad 25 g))]) hx hb dX8_failureOfLeads_30 rfl hl (by decide) rfl (fun ls hl => ?_)
        refine lv_aload_nN hx hb dX8_failureOfLeads_31 rfl (lv_at hl 0 rfl) ?_
        refine lv_ifnonnullN hx hb dX8_failureOfLeads_32 ?_
        refine lv_iconst (v := jI 1) hx hb dX8_failureOfLeads_35 rfl ?_
        rw [hQ9]
        refine ret_i (mc := 0) (ms := 0) hx hb hr hlocks hw hS (by omega) (by omega) dX8_failureOfLeads_36 ?_
        exact ⟨rfl, by omega, fun hk9 => (by unfold ckC; rw [tyo_some y1]; rw [ckF_5 (by omega) (by (try delta Hid at *); omega)]; rw [if_neg (show ¬ (0 ≤ X 16 x (X 25 g 1) ∧ X 16 x (X 25 g 1) < X 0 0 3) from hnp11 rfl), if_pos (by omega)])⟩
      · obtain ⟨eu10, hsp11, hnp11⟩ := p11
        subst eu10
        obtain ⟨ezz9, p11⟩ := hsp11 z9 rfl
        refine lv_astore_n (lv' := [(3, .ref (ad 15 z9)), (0, .ref (ad 0 0)), (1, .ref (ad 15 x)), (2, .ref (ad 25 g))]) hx hb dX8_failureOfLeads_30 rfl hl (by decide) rfl (fun ls hl => ?_)
        refine lv_aload_n hx hb dX8_failureOfLeads_31 rfl (lv_at hl 0 rfl) ?_
        refine lv_ifnonnull (tgt := 37) hx hb dX8_failureOfLeads_32 (by decide) ?_
        refine lv_aload_n hx hb dX8_failureOfLeads_37 rfl (lv_at hl 0 rfl) ?_
        refine x_getr (jz := 0) hx hb hf6 hw (by omega) (by omega) sl_15_0 rfl lk97 dX8_failureOfLeads_38 (fun y12 => ?_) (fun r13 y12 gr13 lr13 => ?_)
        · exfalso
          exact absurd y12 (hCI.2.2.2.2.1 z9 (by omega) (by omega))
        · refine lv_aload_n hx hb dX8_failureOfLeads_41 rfl (lv_at hl 2 rfl) ?_
          refine x_getr (jz := 0) hx hb hf6 hw (by omega) (by omega) sl_15_0 rfl lk97 dX8_failureOfLeads_42 (fun y14 => ?_) (fun r15 y14 gr15 lr15 => ?_)
          · exfalso
            rw [y1] at y14; cases y14
          · have er15 : r15 = r2 := by rw [y1] at y14; cases y14; rfl
            rw [er15]
            refine x_geto hx hb hf7 hw (by omega) (by omega) sl_19_2 lk320 dX8_failureOfLeads_45 ?_
            refine lv_aload_n hx hb dX8_failureOfLeads_48 rfl (lv_at hl 3 rfl) ?_
            refine x_geti (jz := 1) hx hb hf0 hw (by omega) (by omega) sl_25_1 rfl lk302 dX8_failureOfLeads_49 ?_
            have f16 : 0 ≤ X 25 g 1 ∧ X 25 g 1 ≤ 4 := hR 25 g 1
            refine x_iald hx hb hK.1 hw (by omega) (by omega) ar_20 (len_E ar_20 (by decide)) (by omega) (by omega) (by omega) dX8_failureOfLeads_52 ?_
            have f17 : 0 ≤ X 20 r2 (X 25 g 1) ∧ X 20 r2 (X 25 g 1) ≤ 19 := hR 20 r2 (X 25 g 1)
            refine gos_i (run_V (As := [.int (jI (X 20 r2 (X 25 g 1)))]) (rest := []) hx hb hml hown hts (c_X7_fieldNamed l D tc base ad cnt X Y ln hR hFx hLn r13 (X 20 r2 (X 25 g 1)) (by omega) (by omega)) (cwV 1 hts gX8_failureOfLeads_X7_fieldNamed rfl rfl rfl (by decide +kernel) ⟨Nat.le_of_ble_eq_true rfl, Nat.le_of_ble_eq_true rfl⟩) hK hw (by omega) (by omega) sl_19_0 rfl rfl hl.1 rfl (Nat.le_of_ble_eq_true rfl) dX8_failureOfLeads_53 ⟨Nat.le_of_ble_eq_true rfl, Nat.le_of_ble_eq_true rfl⟩) hS (fun z18 u19 H locs p20 hw hS => ?_)
            obtain ⟨eu19, p20⟩ := p20
            subst eu19
            refine lv_istore (lv' := [(4, .int (jI z18)), (3, .ref (ad 15 z9)), (0, .ref (ad 0 0)), (1, .ref (ad 15 x)), (2, .ref (ad 25 g))]) hx hb dX8_failureOfLeads_56 hl (by decide) rfl (fun ls hl => ?_)
            refine lv_aload_n hx hb dX8_failureOfLeads_58 rfl (lv_at hl 1 rfl) ?_
            refine x_getr (jz := 0) hx hb hf6 hw (by omega) (by omega) sl_15_0 rfl lk97 dX8_failureOfLeads_59 (fun y21 => ?_) (fun r22 y21 gr22 lr22 => ?_)
            · exfalso
              rw [y12] at y21; cases y21
            · have er22 : r22 = r13 := by rw [y12] at y21; cases y21; rfl
              rw [er22]
              refine lv_iload hx hb dX8_failureOfLeads_62 (lv_at hl 0 rfl) ?_
              refine lv_iconst (v := jI 2) hx hb dX8_failureOfLeads_64 rfl ?_
              refine gos_i (run_V (As := [.int (jI z18), .int (jI 2)]) (rest := []) hx hb hml hown hts (c_X7_hasLane l D tc base ad cnt X Y ln hR hFx hLn r13 z18 2 (by omega) (by omega) (by omega)) (cwV 2 hts gX8_failureOfLeads_X7_hasLane rfl rfl rfl (by decide +kernel) ⟨Nat.le_of_ble_eq_true rfl, Nat.le_of_ble_eq_true rfl⟩) hK hw (by omega) (by omega) sl_19_0 rfl rfl hl.1 rfl (Nat.le_of_ble_eq_true rfl) dX8_failureOfLeads_65 ⟨Nat.le_of_ble_eq_true rfl, Nat.le_of_ble_eq_true rfl⟩) hS (fun z23 u24 H locs p25 hw hS => ?_)
              obtain ⟨eu24, p25⟩ := p25
              subst eu24
              rcases p25 with ⟨ez23, p25⟩ | ⟨ez23, p25⟩
              · subst ez23
                refine x_if_neT (tgt := 73) hx hb (by omega) (by decide) dX8_failureOfLeads_68 (by decide) ?_
                refine lv_aload_n hx hb dX8_failureOfLeads_73 rfl (lv_at hl 2 rfl) ?_
                refine lv_aload_n hx hb dX8_failureOfLeads_74 rfl (lv_at hl 1 rfl) ?_
                refine x_geto hx hb hf6 hw (by omega) (by omega) sl_15_1 lk193 dX8_failureOfLeads_75 ?_
                refine lv_iload hx hb dX8_failureOfLeads_78 (lv_at hl 0 rfl) ?_
                refine x_lald hx hb hK.1 hw (by omega) (by omega) ar_16 (len_E ar_16 (by decide)) (by omega) (by omega) (by omega) dX8_failureOfLeads_80 ?_
                have f26 : (-9223372036854775808) ≤ X 16 z9 z18 ∧ X 16 z9 z18 ≤ 9223372036854775807 := hR 16 z9 z18
                refine gos_r (run_V (As := [.long (jL (X 16 z9 z18))]) (rest := []) hx hb hml hown hts (c_X8_thingNumbered l D tc base ad cnt X Y ln hR hFx hLn hCI (X 16 z9 z18) (by omega)) (cwV 1 hts gX8_failureOfLeads_X8_thingNumbered rfl rfl rfl (by decide +kernel) ⟨Nat.le_of_ble_eq_true rfl, Nat.le_of_ble_eq_true rfl⟩) hK hw (by omega) (by omega) sl_0_0 rfl rfl hl.1 rfl (Nat.le_of_ble_eq_true rfl) dX8_failureOfLeads_81 ⟨Nat.le_of_ble_eq_true rfl, Nat.le_of_ble_eq_true rfl⟩) hS (fun u28 H locs p29 hw hS => ?_) (fun z27 u28 H locs p29 hw hS => ?_)
                · obtain ⟨eu28, hsp29, hnp29⟩ := p29
                  subst eu28
                  refine lv_ifnonnullN hx hb dX8_failureOfLeads_84 ?_
                  refine lv_iconst (v := jI 1) hx hb dX8_failureOfLeads_87 rfl ?_
                  refine lv_goto (tgt := 92) hx hb dX8_failureOfLeads_88 (by decide) ?_
                  rw [hQ9]
                  refine ret_i (mc := 0) (ms := 0) hx hb hr hlocks hw hS (by omega) (by omega) dX8_failureOfLeads_92 ?_
                  exact ⟨rfl, by omega, fun hk9 => (by unfold ckC; rw [tyo_some y1]; rw [ckF_5 (by omega) (by (try delta Hid at *); omega)]; have hmt : (if 0 ≤ X 16 x (X 25 g 1) ∧ X 16 x (X 25 g 1) < X 0 0 3 then X 19 (tyo (Y 15 (X 16 x (X 25 g 1)) 0)) 0 else -1) = X 19 r13 0 := (by rw [if_pos ⟨by omega, by omega⟩, ← ezz9, tyo_some y12]); have f19 : 0 ≤ X 19 r13 0 ∧ X 19 r13 0 ≤ 7 := hR 19 r13 0; rw [hmt]; unfold ldC; rw [← ezz9, tyo_some y12, tyo_some y1, ← p20.2.2.2]; have h9n : ¬ (0 ≤ X 16 z9 z18 ∧ X 16 z9 z18 < X 0 0 3) := hnp29 rfl; (try delta Hid at *); (repeat' split) <;> omega)⟩
                · obtain ⟨eu28, hsp29, hnp29⟩ := p29
                  subst eu28
                  obtain ⟨ezz27, p29⟩ := hsp29 z27 rfl
                  refine lv_ifnonnull (tgt := 91) hx hb dX8_failureOfLeads_84 (by decide) ?_
                  refine lv_iconst (v := jI 0) hx hb dX8_failureOfLeads_91 rfl ?_
                  rw [hQ9]
                  refine ret_i (mc := 0) (ms := 0) hx hb hr hlocks hw hS (by omega) (by omega) dX8_failureOfLeads_92 ?_
                  exact ⟨rfl, by omega, fun hk9 => (by unfold ckC; rw [tyo_some y1]; rw [ckF_5 (by omega) (by (try delta Hid at *); omega)]; have hmt : (if 0 ≤ X 16 x (X 25 g 1) ∧ X 16 x (X 25 g 1) < X 0 0 3 then X 19 (tyo (Y 15 (X 16 x (X 25 g 1)) 0)) 0 else -1) = X 19 r13 0 := (by rw [if_pos ⟨by omega, by omega⟩, ← ezz9, tyo_some y12]); have f19 : 0 ≤ X 19 r13 0 ∧ X 19 r13 0 ≤ 7 := hR 19 r13 0; rw [hmt]; unfold ldC; rw [← ezz9, tyo_some y12, tyo_some y1, ← p20.2.2.2]; (try delta Hid at *); (repeat' split) <;> omega)⟩
              · subst ez23
                refine x_if_neF (tgt := 73) hx hb (by omega) (by decide) dX8_failureOfLeads_68 (by decide) ?_
                refine lv_iconst (v := jI 4) hx hb dX8_failureOfLeads_71 rfl ?_
                rw [hQ9]
                refine ret_i (mc := 0) (ms := 0) hx hb hr hlocks hw hS (by omega) (by omega) dX8_failureOfLeads_72 ?_
                exact ⟨rfl, by omega, fun hk9 => (by unfold ckC; rw [tyo_some y1]; rw [ckF_5 (by omega) (by (try delta Hid at *); omega)]; have hmt : (if 0 ≤ X 16 x (X 25 g 1) ∧ X 16 x (X 25 g 1) < X 0 0 3 then X 19 (tyo (Y 15 (X 16 x (X 25 g 1)) 0)) 0 else -1) = X 19 r13 0 := (by rw [if_pos ⟨by omega, by omega⟩, ← ezz9, tyo_some y12]); have f19 : 0 ≤ X 19 r13 0 ∧ X 19 r13 0 ≤ 7 := hR 19 r13 0; rw [hmt]; unfold ldC; rw [← ezz9, tyo_some y12, tyo_some y1, ← p20.2.2.2]; (try delta Hid at *); (repeat' split) <;> omega)⟩
    · subst ez4
      refine x_if_neF (tgt := 17) hx hb (by omega) (by decide) dX8_failureOfLeads_12 (by decide) ?_
      refine lv_iconst (v := jI 4) hx hb dX8_failureOfLeads_15 rfl ?_
      rw [hQ9]
      refine ret_i (mc := 0) (ms := 0) hx hb hr hlocks hw hS (by omega) (by omega) dX8_failureOfLeads_16 ?_
      exact ⟨rfl, by omega, fun hk9 => (by unfold ckC; rw [tyo_some y1]; rw [ckF_c ⟨by omega, by omega⟩ (by (try delta Hid at *); omega)])⟩

set_option maxHeartbeats 4000000 in
set_option maxRecDepth 100000 in
theorem c_X8_failureOf (l : Launch) (D : va_G) (tc : Nat → ClassId) (base : Nat) (ad : Nat → Int → Nat) (cnt : Nat → Int) (X : Nat → Int → Int → Int) (Y : Nat → Int → Int → Option Int) (ln : Int → Int) (hR : Rng X) (hFx : Fx cnt) (hLn : LnOK ln) (hCI : CInv cnt X Y ln) (x g : Int) (hx0 : 0 ≤ x ∧ x ≤ 29) (hxt : x < X 0 0 3) (hg : 0 ≤ g ∧ g < cnt 25) : KI l D tc base yX8_failureOf wsX8_failureOf ({ frames := 4, cells := 0, slots := 0, locals := 88 } : Room) [.ref (ad 0 0), .ref (ad 15 x), .ref (ad 25 g)] (ad, cnt, X, Y, ln) 0 0 (fun z u => u = (ad, cnt, X, Y, ln) ∧ (0 ≤ z ∧ z ≤ 10) ∧ z = ckC X Y ln x g) := by
  refine K_of (cc := cX8_failureOf) (maxL := 3) (ret := (some .int)) (by decide) rfl (Nat.le_of_ble_eq_true rfl) ?_
  intro p e s m below meth c ls hx hb hr hml hown hts hlocks hl hK hw hS
  have hown : s.vm.findClass RX8 = some m.cls := hown
  obtain ⟨av9, hav9⟩ : ∃ a9 : Array Value, a9 = ([.ref (ad 0 0), .ref (ad 15 x), .ref (ad 25 g)] : List Value).toArray := ⟨_, rfl⟩
  rw [← hav9] at hts ⊢
  obtain ⟨Q9, hQ9⟩ : ∃ q9Q : State → Prop, q9Q = MQ below (QI D tc base (fun z u => u = (ad, cnt, X, Y, ln) ∧ (0 ≤ z ∧ z ≤ 10) ∧ z = ckC X Y ln x g)) av9 s 0 0 (frA base) := ⟨_, rfl⟩
  rw [← hQ9]
  have hi0 : ∀ w ∈ wsX00, w ∈ wsX8_failureOf := fun w h => List.mem_cons_of_mem _ (List.mem_append_left _ (List.mem_append_left _ (List.mem_append_left _ (List.mem_append_left _ (List.mem_append_right _ h)))))
  have hf0 : fctx s m _ RX8 wsX8_failureOf D tc RX0 TX0 4 0 := ⟨hts, hi0, hown, hK.1, rfl⟩
  have lk281 := hts (.fieldLink RX8 281 (TX0 0).1 (TX0 0).2.1 (TX0 0).2.2.1) (gj_X8_failureOf_0 _ (gp_h))
  have hc0 : cnt 0 = 1 := hFx.at 0 1 (by decide)
  have hc15 : cnt 15 = 30 := hFx.at 15 30 (by decide)
  have hl : lv_has ls 3 [(0, .ref (ad 0 0)), (1, .ref (ad 15 x)), (2, .ref (ad 25 g))] := hl
  have ftc : 0 ≤ X 0 0 3 ∧ X 0 0 3 ≤ 30 := hR 0 0 3
  have fty : 0 ≤ X 0 0 1 ∧ X 0 0 1 ≤ 8 := hR 0 0 1
  have hct : cnt 19 = X 0 0 1 := hCI.2.2.2.1.1
  have hfj : 0 ≤ X 29 0 3 ∧ X 29 0 3 ≤ 4 := hR 29 0 3
  have hfn : 0 ≤ X 29 0 1 ∧ X 29 0 1 ≤ 80 := hR 29 0 1
  have fka : 0 ≤ X 25 g 1 ∧ X 25 g 1 ≤ 4 := hR 25 g 1
  have fkb : 0 ≤ X 25 g 2 ∧ X 25 g 2 ≤ 4 := hR 25 g 2
  have fkk : 0 ≤ X 25 g 0 ∧ X 25 g 0 ≤ 5 := hR 25 g 0
  refine lv_aload_n hx hb dX8_failureOf_0 rfl (lv_at hl 2 rfl) ?_
  refine x_geti (jz := 0) hx hb hf0 hw (by omega) (by omega) sl_25_0 rfl lk281 dX8_failureOf_1 ?_
  have f1 : 0 ≤ X 25 g 0 ∧ X 25 g 0 ≤ 5 := hR 25 g 0
  have tc2 : (jI (X 25 g 0)).toInt = (X 25 g 0) := jI_toInt (by omega)
  by_cases c2 : (X 25 g 0) < 0 ∨ 4 < (X 25 g 0)
  · refine lv_tableOut (tgt := 71) hx hb dX8_failureOf_4 (by rw [tc2]; exact c2) (by decide) ?_
    refine lv_aload_n hx hb dX8_failureOf_71 rfl (lv_at hl 0 rfl) ?_
    refine lv_aload_n hx hb dX8_failureOf_72 rfl (lv_at hl 1 rfl) ?_
    refine lv_aload_n hx hb dX8_failureOf_73 rfl (lv_at hl 2 rfl) ?_
    refine gos_i (run_V (As := [.ref (ad 15 x), .ref (ad 25 g)]) (rest := []) hx hb hml hown hts (c_X8_failureOfLeads l D tc base ad cnt X Y ln hR hFx hLn hCI x g (by omega) (by omega) (by omega)) (cwV 2 hts gX8_failureOf_X8_failureOfLeads rfl rfl rfl (by decide +kernel) ⟨Nat.le_of_ble_eq_true rfl, Nat.le_of_ble_eq_true rfl⟩) hK hw (by omega) (by omega) sl_0_0 rfl rfl hl.1 rfl (Nat.le_of_ble_eq_true rfl) dX8_failureOf_74 ⟨Nat.le_of_ble_eq_true rfl, Nat.le_of_ble_eq_true rfl⟩) hS (fun z3 u4 H locs p5 hw hS => ?_)
    obtain ⟨eu4, p5⟩ := p5
    subst eu4
    rw [hQ9]
    refine ret_i (mc := 0) (ms := 0) hx hb hr hlocks hw hS (by omega) (by omega) dX8_failureOf_77 ?_
    exact ⟨rfl, by omega, p5.2 (by omega)⟩
  by_cases c6 : (X 25 g 0) = 0
  · refine lv_tableIn (off := 36) (tgt := 40) hx hb dX8_failureOf_4 (by rw [tc2]; omega) (by rw [tc2]; omega) (by rw [tc2, c6]; rfl) (by decide) ?_
    refine lv_aload_n hx hb dX8_failureOf_40 rfl (lv_at hl 1 rfl) ?_
    refine lv_aload_n hx hb dX8_failureOf_41 rfl (lv_at hl 2 rfl) ?_
    refine gos_i (run_S (As := [.ref (ad 15 x), .ref (ad 25 g)]) (rest := []) hx hb hml hown hts (c_X8_failureOfDivides l D tc base ad cnt X Y ln hR hFx hLn hCI x g (by omega) (by omega) (by omega)) (cwS 2 hts gX8_failureOf_X8_failureOfDivides rfl rfl rfl (by decide +kernel) ⟨Nat.le_of_ble_eq_true rfl, Nat.le_of_ble_eq_true rfl⟩) hK hw rfl hl.1 rfl (Nat.le_of_ble_eq_true rfl) dX8_failureOf_42 ⟨Nat.le_of_ble_eq_true rfl, Nat.le_of_ble_eq_true rfl⟩) hS (fun z7 u8 H locs p9 hw hS => ?_)
    obtain ⟨eu8, p9⟩ := p9
    subst eu8
    rw [hQ9]
    refine ret_i (mc := 0) (ms := 0) hx hb hr hlocks hw hS (by omega) (by omega) dX8_failureOf_45 ?_
    exact ⟨rfl, by omega, p9.2 (by omega)⟩
  by_cases c10 : (X 25 g 0) = 1
  · refine lv_tableIn (off := 42) (tgt := 46) hx hb dX8_failureOf_4 (by rw [tc2]; omega) (by rw [tc2]; omega) (by rw [tc2, c10]; rfl) (by decide) ?_
    refine lv_aload_n hx hb dX8_failureOf_46 rfl (lv_at hl 0 rfl) ?_
    refine lv_aload_n hx hb dX8_failureOf_47 rfl (lv_at hl 1 rfl) ?_
    refine lv_aload_n hx hb dX8_failureOf_48 rfl (lv_at hl 2 rfl) ?_
    refine gos_i (run_V (As := [.ref (ad 15 x), .ref (ad 25 g)]) (rest := []) hx hb hml hown hts (c_X8_failureOfMeets l D tc base ad cnt X Y ln hR hFx hLn hCI x g (by omega) (by omega) (by omega)) (cwV 2 hts gX8_failureOf_X8_failureOfMeets rfl rfl rfl (by decide +kernel) ⟨Nat.le_of_ble_eq_true rfl, Nat.le_of_ble_eq_true rfl⟩) hK hw (by omega) (by omega) sl_0_0 rfl rfl hl.1 rfl (Nat.le_of_ble_eq_true rfl) dX8_failureOf_49 ⟨Nat.le_of_ble_eq_true rfl, Nat.le_of_ble_eq_true rfl⟩) hS (fun z11 u12 H locs p13 hw hS => ?_)
    obtain ⟨eu12, p13⟩ := p13
    subst eu12
    rw [hQ9]
    refine ret_i (mc := 0) (ms := 0) hx hb hr hlocks hw hS (by omega) (by omega) dX8_failureOf_52 ?_
    exact ⟨rfl, by omega, p13.2 (by omega)⟩
  by_cases c14 : (X 25 g 0) = 2
  · refine lv_tableIn (off := 49) (tgt := 53) hx hb dX8_failureOf_4 (by rw [tc2]; omega) (by rw [tc2]; omega) (by rw [tc2, c14]; rfl) (by decide) ?_
    refine lv_aload_n hx hb dX8_failureOf_53 rfl (lv_at hl 1 rfl) ?_
    refine lv_aload_n hx hb dX8_failureOf_54 rfl (lv_at hl 2 rfl) ?_
    refine gos_i (run_S (As := [.ref (ad 15 x), .ref (ad 25 g)]) (rest := []) hx hb hml hown hts (c_X8_failureOfHas l D tc base ad cnt X Y ln hR hFx hLn hCI x g (by omega) (by omega) (by omega)) (cwS 2 hts gX8_failureOf_X8_failureOfHas rfl rfl rfl (by decide +kernel) ⟨Nat.le_of_ble_eq_true rfl, Nat.le_of_ble_eq_true rfl⟩) hK hw rfl hl.1 rfl (Nat.le_of_ble_eq_true rfl) dX8_failureOf_55 ⟨Nat.le_of_ble_eq_true rfl, Nat.le_of_ble_eq_true rfl⟩) hS (fun z15 u16 H locs p17 hw hS => ?_)
    obtain ⟨eu16, p17⟩ := p17
    subst eu16
    rw [hQ9]
    refine ret_i (mc := 0) (ms := 0) hx hb hr hlocks hw hS (by omega) (by omega) dX8_failureOf_58 ?_
    exact ⟨rfl, by omega, p17.2 (by omega)⟩
  by_cases c18 : (X 25 g 0) = 3
  · refine lv_tableIn (off := 55) (tgt := 59) hx hb dX8_failureOf_4 (by rw [tc2]; omega) (by rw [tc2]; omega) (by rw [tc2, c18]; rfl) (by decide) ?_
    refine lv_aload_n hx hb dX8_failureOf_59 rfl (lv_at hl 1 rfl) ?_
    refine lv_aload_n hx hb dX8_failureOf_60 rfl (lv_at hl 2 rfl) ?_
    refine gos_i (run_S (As := [.ref (ad 15 x), .ref (ad 25 g)]) (rest := []) hx hb hml hown hts (c_X8_failureOfHolds l D tc base ad cnt X Y ln hR hFx hLn hCI x g (by omega) (by omega) (by omega)) (cwS 2 hts gX8_failureOf_X8_failureOfHolds rfl rfl rfl (by decide +kernel) ⟨Nat.le_of_ble_eq_true rfl, Nat.le_of_ble_eq_true rfl⟩) hK hw rfl hl.1 rfl (Nat.le_of_ble_eq_true rfl) dX8_failureOf_61 ⟨Nat.le_of_ble_eq_true rfl, Nat.le_of_ble_eq_true rfl⟩) hS (fun z19 u20 H locs p21 hw hS => ?_)
    obtain ⟨eu20, p21⟩ := p21
    subst eu20
    rw [hQ9]
    refine ret_i (mc := 0) (ms := 0) hx hb hr hlocks hw hS (by omega) (by omega) dX8_failureOf_64 ?_
    exact ⟨rfl, by omega, p21.2 (by omega)⟩
  have c22 : (X 25 g 0) = 4 := by omega
  refine lv_tableIn (off := 61) (tgt := 65) hx hb dX8_failureOf_4 (by rw [tc2]; omega) (by rw [tc2]; omega) (by rw [tc2, c22]; rfl) (by decide) ?_
  refine lv_aload_n hx hb dX8_failureOf_65 rfl (lv_at hl 1 rfl) ?_
  refine lv_aload_n hx hb dX8_failureOf_66 rfl (lv_at hl 2 rfl) ?_
  refine gos_i (run_S (As := [.ref (ad 15 x), .ref (ad 25 g)]) (rest := []) hx hb hml hown hts (c_X8_failureOfLeast l D tc base ad cnt X Y ln hR hFx hLn hCI x g (by omega) (by omega) (by omega)) (cwS 2 hts gX8_failureOf_X8_failureOfLeast rfl rfl rfl (by decide +kernel) ⟨Nat.le_of_ble_eq_true rfl, Nat.le_of_ble_eq_true rfl⟩) hK hw rfl hl.1 rfl (Nat.le_of_ble_eq_true rfl) dX8_failureOf_67 ⟨Nat.le_of_ble_eq_true rfl, Nat.le_of_ble_eq_true rfl⟩) hS (fun z23 u24 H locs p25 hw hS => ?_)
  obtain ⟨eu24, p25⟩ := p25
  subst eu24
  rw [hQ9]
  refine ret_i (mc := 0) (ms := 0) hx hb hr hlocks hw hS (by omega) (by omega) dX8_failureOf_70 ?_
  exact ⟨rfl, by omega, p25.2 (by omega)⟩

set_option maxHeartbeats 4000000 in
set_option maxRecDepth 100000 in
theorem c_X8_firstFailingCheck (l : Launch) (D : va_G) (tc : Nat → ClassId) (base : Nat) (ad : Nat → Int → Nat) (cnt : Nat → Int) (X : Nat → Int → Int → Int) (Y : Nat → Int → Int → Option Int) (ln : Int → Int) (hR : Rng X) (hFx : Fx cnt) (hLn : LnOK ln) (hCI : CInv cnt X Y ln) (x : Int) (hx0 : 0 ≤ x ∧ x ≤ 29) (hxt : x < X 0 0 3) : KI l D tc base yX8_firstFailingCheck wsX8_firstFailingCheck ({ frames := 5, cells := 0, slots := 0, locals := 110 } : Room) [.ref (ad 0 0), .ref (ad 15 x)] (ad, cnt, X, Y, ln) 0 0 (fun z u => u = (ad, cnt, X, Y, ln) ∧ (-1 ≤ z ∧ z ≤ 3) ∧ (∀ t, Y 15 x 0 = some t → z < X 19 t 6) ∧ ((z = -1 ∧ ∀ c, 0 ≤ c → c < X 19 (tyo (Y 15 x 0)) 6 → ckC X Y ln x (tyo (Y 24 (tyo (Y 15 x 0)) c)) = 0) ∨ (0 ≤ z ∧ z < X 19 (tyo (Y 15 x 0)) 6 ∧ (∀ c, 0 ≤ c → c < z → ckC X Y ln x (tyo (Y 24 (tyo (Y 15 x 0)) c)) = 0) ∧ ckC X Y ln x (tyo (Y 24 (tyo (Y 15 x 0)) z)) ≠ 0))) := by
  refine K_of (cc := cX8_firstFailingCheck) (maxL := 3) (ret := (some .int)) (by decide) rfl (Nat.le_of_ble_eq_true rfl) ?_
  intro p e s m below meth c ls hx hb hr hml hown hts hlocks hl hK hw hS
  have hown : s.vm.findClass RX8 = some m.cls := hown
  obtain ⟨av9, hav9⟩ : ∃ a9 : Array Value, a9 = ([.ref (ad 0 0), .ref (ad 15 x)] : List Value).toArray := ⟨_, rfl⟩
  rw [← hav9] at hts ⊢
  obtain ⟨Q9, hQ9⟩ : ∃ q9Q : State → Prop, q9Q = MQ below (QI D tc base (fun z u => u = (ad, cnt, X, Y, ln) ∧ (-1 ≤ z ∧ z ≤ 3) ∧ (∀ t, Y 15 x 0 = some t → z < X 19 t 6) ∧ ((z = -1 ∧ ∀ c, 0 ≤ c → c < X 19 (tyo (Y 15 x 0)) 6 → ckC X Y ln x (tyo (Y 24 (tyo (Y 15 x 0)) c)) = 0) ∨ (0 ≤ z ∧ z < X 19 (tyo (Y 15 x 0)) 6 ∧ (∀ c, 0 ≤ c → c < z → ckC X Y ln x (tyo (Y 24 (tyo (Y 15 x 0)) c)) = 0) ∧ ckC X Y ln x (tyo (Y 24 (tyo (Y 15 x 0)) z)) ≠ 0)))) av9 s 0 0 (frA base) := ⟨_, rfl⟩
  rw [← hQ9]
  have hi6 : ∀ w ∈ wsX60, w ∈ wsX8_firstFailingCheck := fun w h => List.mem_cons_of_mem _ (List.mem_append_left _ (List.mem_append_left _ (List.mem_append_left _ (List.mem_append_left _ (List.mem_append_right _ h)))))
  have hf6 : fctx s m _ RX8 wsX8_firstFailingCheck D tc RX6 TX6 4 6 := ⟨hts, hi6, hown, hK.1, rfl⟩
  have hi7 : ∀ w ∈ wsX70, w ∈ wsX8_firstFailingCheck := fun w h => List.mem_cons_of_mem _ (List.mem_append_left _ (List.mem_append_left _ (List.mem_append_left _ (List.mem_append_right _ h))))
  have hf7 : fctx s m _ RX8 wsX8_firstFailingCheck D tc RX7 TX7 8 7 := ⟨hts, hi7, hown, hK.1, rfl⟩
  have lk97 := hts (.fieldLink RX8 97 (TX6 0).1 (TX6 0).2.1 (TX6 0).2.2.1) (gj_X8_firstFailingCheck_0 _ (gp_h))
  have lk115 := hts (.fieldLink RX8 115 (TX7 6).1 (TX7 6).2.1 (TX7 6).2.2.1) (gj_X8_firstFailingCheck_0 _ (gp_1 gp_h))
  have lk118 := hts (.fieldLink RX8 118 (TX7 7).1 (TX7 7).2.1 (TX7 7).2.2.1) (gj_X8_firstFailingCheck_0 _ (gp_1 (gp_1 gp_h)))
  have hc0 : cnt 0 = 1 := hFx.at 0 1 (by decide)
  have hc15 : cnt 15 = 30 := hFx.at 15 30 (by decide)
  have hc24 : cnt 24 = cnt 19 := hFx.2.1 24 (by decide)
  have hl : lv_has ls 3 [(0, .ref (ad 0 0)), (1, .ref (ad 15 x))] := hl
  have ftc : 0 ≤ X 0 0 3 ∧ X 0 0 3 ≤ 30 := hR 0 0 3
  have fty : 0 ≤ X 0 0 1 ∧ X 0 0 1 ≤ 8 := hR 0 0 1
  have hct : cnt 19 = X 0 0 1 := hCI.2.2.2.1.1
  have hfj : 0 ≤ X 29 0 3 ∧ X 29 0 3 ≤ 4 := hR 29 0 3
  have hfn : 0 ≤ X 29 0 1 ∧ X 29 0 1 ≤ 80 := hR 29 0 1
  refine lv_iconst (v := jI 0) hx hb dX8_firstFailingCheck_0 rfl ?_
  refine lv_istore_n (lv' := [(2, .int (jI 0)), (0, .ref (ad 0 0)), (1, .ref (ad 15 x))]) hx hb dX8_firstFailingCheck_1 rfl hl (by decide) rfl (fun ls hl => ?_)
  have lp2 : ∀ (nn : Nat) (cz : Int) (H : Heap) (locs : List Loc) (ls : Array Slot), (4 - cz) < (nn : Int) → (0 ≤ cz ∧ cz ≤ 4) → (∀ c, 0 ≤ c → c < cz → ckC X Y ln x (tyo (Y 24 (tyo (Y 15 x 0)) c)) = 0) → wd D tc base (ad, cnt, X, Y, ln) H → va_S (frA base) s.heap H locs → lv_has ls 3 [(0, .ref (ad 0 0)), (1, .ref (ad 15 x)), (2, .int (jI cz))] → W p l e ({ frames := 5, cells := 0, slots := 0, locals := 110 } : Room) s m av9 below meth c H locs 0 0 Q9 (F0 m 2 ls []) := by
    intro nn
    induction nn with
    | zero => intro cz H locs ls hm hcz hcl hw hS hl; exfalso; omega
    | succ nn ih2 =>
      intro cz H locs ls hm hcz hcl hw hS hl
      refine lv_iload_n hx hb dX8_firstFailingCheck_2 rfl (lv_at hl 2 rfl) ?_
      refine lv_aload_n hx hb dX8_firstFailingCheck_3 rfl (lv_at hl 1 rfl) ?_
      refine x_getr (jz := 0) hx hb hf6 hw (by omega) (by omega) sl_15_0 rfl lk97 dX8_firstFailingCheck_4 (fun y1 => ?_) (fun r2 y1 gr2 lr2 => ?_)
      · exfalso
        exact absurd y1 (hCI.2.2.2.2.1 x (by omega) (by omega))
      · refine x_geti (jz := 6) hx hb hf7 hw (by omega) (by omega) sl_19_6 rfl lk115 dX8_firstFailingCheck_7 ?_
        have f3 : 0 ≤ X 19 r2 6 ∧ X 19 r2 6 ≤ 4 := hR 19 r2 6
        refine x_icmp_ge (tgt := 38) hx hb (by omega) (by omega) dX8_firstFailingCheck_10 (by decide) (fun c4 => ?_) (fun c4 => ?_)
        · refine lv_iconst (v := jI (-1)) hx hb dX8_firstFailingCheck_38 rfl ?_
          rw [hQ9]
          refine ret_i (mc := 0) (ms := 0) hx hb hr hlocks hw hS (by omega) (by omega) dX8_firstFailingCheck_39 ?_
          exact ⟨rfl, by omega, fun t ht => (by rw [y1] at ht; cases ht; omega), (by rw [tyo_some y1]; exact Or.inl ⟨rfl, fun c a b => (by have h9 := hcl c a (by omega); first | exact h9 | (rw [tyo_some y1] at h9; exact h9))⟩)⟩
        · refine lv_aload_n hx hb dX8_firstFailingCheck_13 rfl (lv_at hl 0 rfl) ?_
          refine lv_aload_n hx hb dX8_firstFailingCheck_14 rfl (lv_at hl 1 rfl) ?_
          refine lv_aload_n hx hb dX8_firstFailingCheck_15 rfl (lv_at hl 1 rfl) ?_
          refine x_getr (jz := 0) hx hb hf6 hw (by omega) (by omega) sl_15_0 rfl lk97 dX8_firstFailingCheck_16 (fun y5 => ?_) (fun r6 y5 gr6 lr6 => ?_)
          · exfalso
            rw [y1] at y5; cases y5
          · have er6 : r6 = r2 := by rw [y1] at y5; cases y5; rfl
            rw [er6]
            refine x_geto hx hb hf7 hw (by omega) (by omega) sl_19_7 lk118 dX8_firstFailingCheck_19 ?_
            refine lv_iload_n hx hb dX8_firstFailingCheck_22 rfl (lv_at hl 2 rfl) ?_
            refine x_aald hx hb hK.1 hw (by omega) (by omega) ar_24 rfl (len_E ar_24 (by decide)) (by omega) (by omega) (by omega) dX8_firstFailingCheck_23 (fun y7 => ?_) (fun r8 y7 gr8 lr8 => ?_)
            · exfalso
              exact absurd y7 (hCI.2.2.2.2.2.1 r2 cz (by omega) (by omega) (by omega) (by omega))
            · refine gos_i (run_V (As := [.ref (ad 15 x), .ref (ad 25 r8)]) (rest := []) hx hb hml hown hts (c_X8_failureOf l D tc base ad cnt X Y ln hR hFx hLn hCI x r8 (by omega) (by omega) (by omega)) (cwV 2 hts gX8_firstFailingCheck_X8_failureOf rfl rfl rfl (by decide +kernel) ⟨Nat.le_of_ble_eq_true rfl, Nat.le_of_ble_eq_true rfl⟩) hK hw (by omega) (by omega) sl_0_0 rfl rfl hl.1 rfl (Nat.le_of_ble_eq_true rfl) dX8_firstFailingCheck_24 ⟨Nat.le_of_ble_eq_true rfl, Nat.le_of_ble_eq_true rfl⟩) hS (fun z9 u10 H locs p11 hw hS => ?_)
              obtain ⟨eu10, p11⟩ := p11
              subst eu10
              refine x_if_eq (tgt := 32) hx hb (by omega) dX8_firstFailingCheck_27 (by decide) (fun c12 => ?_) (fun c12 => ?_)
              · refine lv_iinc (v := jI (cz + 1)) (lv' := [(2, .int (jI (cz + 1))), (0, .ref (ad 0 0)), (1, .ref (ad 15 x))]) hx hb dX8_firstFailingCheck_32 hl (k := 2) rfl (jI_add _ _) (by decide) rfl (fun ls hl => ?_)
                refine lv_goto (tgt := 2) hx hb dX8_firstFailingCheck_35 (by decide) ?_
                exact ih2 (cz + 1) _ _ _ (by omega) (by omega) (fun c a b => if hc9 : c = cz then (by rw [hc9, tyo_some y1, tyo_some y7]; omega) else hcl c a (by omega)) hw hS (lv_sub hl [1, 2, 0] rfl)
              · refine lv_iload_n hx hb dX8_firstFailingCheck_30 rfl (lv_at hl 2 rfl) ?_
                rw [hQ9]
                refine ret_i (mc := 0) (ms := 0) hx hb hr hlocks hw hS (by omega) (by omega) dX8_firstFailingCheck_31 ?_
                exact ⟨rfl, by omega, fun t ht => (by rw [y1] at ht; cases ht; omega), (by rw [tyo_some y1]; have h8 := hcl; rw [tyo_some y1] at h8; exact Or.inr ⟨by omega, by omega, h8, (by rw [tyo_some y7]; omega)⟩)⟩
  exact lp2 (4 - 0 : Int).toNat.succ 0 _ _ _ (by omega) (by omega) (fun c a b => by omega) hw hS (lv_sub hl [1, 2, 0] rfl)

