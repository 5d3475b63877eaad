section
set_option maxHeartbeats 4000000 in
set_option maxRecDepth 100000 in
theorem c_X9_checked (l : Launch) (D : va_G) (tc : Nat → ClassId) (base : Nat) (ad : Nat → Int → Nat) (cnt : Nat → Int) (X : Nat → Int → Int → Int) (Y : Nat → Int → Int → Option Int) (ln : Int → Int) (hR : Rng X) (hFx : Fx cnt) (hMI : MInv X) (x cq : Int) (hx0 : 0 ≤ x ∧ x ≤ 29) (hxt : x < X 40 0 13) (hcq : 0 ≤ cq ∧ cq ≤ 31) : KI l D tc base yX9_checked wsX9_checked ({ frames := 2, cells := 0, slots := 0, locals := 46 } : Room) [.ref (ad 40 0), .int (jI x), .int (jI cq)] (ad, cnt, X, Y, ln) 0 0 (fun z u => u = (ad, cnt, X, Y, ln) ∧ (0 ≤ z ∧ z ≤ 10) ∧ z = ckM X x cq) := by
  refine K_of (cc := cX9_checked) (maxL := 13) (ret := (some .int)) (by decide) rfl (Nat.le_of_ble_eq_true rfl) ?_
  intro p e s m below meth c ls hx hb hr hml hown hts hlocks hl hK hw hS
  have hown : s.vm.findClass RX9 = some m.cls := hown
  obtain ⟨av9, hav9⟩ : ∃ a9 : Array Value, a9 = ([.ref (ad 40 0), .int (jI x), .int (jI cq)] : List Value).toArray := ⟨_, rfl⟩
  rw [← hav9] at hts ⊢
  obtain ⟨Q9, hQ9⟩ : ∃ q9Q : State → Prop, q9Q = MQ below (QI D tc base (fun z u => u = (ad, cnt, X, Y, ln) ∧ (0 ≤ z ∧ z ≤ 10) ∧ z = ckM X x cq)) av9 s 0 0 (frA base) := ⟨_, rfl⟩
  rw [← hQ9]
  have hi9 : ∀ w ∈ wsX90, w ∈ wsX9_checked := fun w h => List.mem_cons_of_mem _ (List.mem_append_right _ h)
  have hf9 : fctx s m _ RX9 wsX9_checked D tc RX9 TX9 51 9 := ⟨hts, hi9, hown, hK.1, rfl⟩
  have lk13 := hts (.fieldLink RX9 13 (TX9 3).1 (TX9 3).2.1 (TX9 3).2.2.1) (gj_X9_checked_0 _ (gp_4 gp_h))
  have lk17 := hts (.fieldLink RX9 17 (TX9 4).1 (TX9 4).2.1 (TX9 4).2.2.1) (gj_X9_checked_0 _ (gp_4 (gp_4 (gp_1 (gp_1 gp_h)))))
  have lk33 := hts (.fieldLink RX9 33 (TX9 9).1 (TX9 9).2.1 (TX9 9).2.2.1) (gj_X9_checked_0 _ (gp_h))
  have lk36 := hts (.fieldLink RX9 36 (TX9 10).1 (TX9 10).2.1 (TX9 10).2.2.1) (gj_X9_checked_0 _ (gp_1 gp_h))
  have lk39 := hts (.fieldLink RX9 39 (TX9 11).1 (TX9 11).2.1 (TX9 11).2.2.1) (gj_X9_checked_0 _ (gp_1 (gp_1 gp_h)))
  have lk42 := hts (.fieldLink RX9 42 (TX9 12).1 (TX9 12).2.1 (TX9 12).2.2.1) (gj_X9_checked_0 _ (gp_4 (gp_1 (gp_1 gp_h))))
  have lk45 := hts (.fieldLink RX9 45 (TX9 14).1 (TX9 14).2.1 (TX9 14).2.2.1) (gj_X9_checked_0 _ (gp_4 (gp_1 gp_h)))
  have lk48 := hts (.fieldLink RX9 48 (TX9 15).1 (TX9 15).2.1 (TX9 15).2.2.1) (gj_X9_checked_0 _ (gp_1 (gp_1 (gp_1 gp_h))))
  have lk54 := hts (.fieldLink RX9 54 (TX9 17).1 (TX9 17).2.1 (TX9 17).2.2.1) (gj_X9_checked_0 _ (gp_4 (gp_1 (gp_1 (gp_1 gp_h)))))
  have lk57 := hts (.fieldLink RX9 57 (TX9 18).1 (TX9 18).2.1 (TX9 18).2.2.1) (gj_X9_checked_0 _ (gp_4 (gp_4 gp_h)))
  have hc40 : cnt 40 = 1 := hFx.at 40 1 (by decide)
  have hc44 : cnt 44 = 1 := hFx.at 44 1 (by decide)
  have hc45 : cnt 45 = 1 := hFx.at 45 1 (by decide)
  have hc50 : cnt 50 = 1 := hFx.at 50 1 (by decide)
  have hc51 : cnt 51 = 1 := hFx.at 51 1 (by decide)
  have hc52 : cnt 52 = 1 := hFx.at 52 1 (by decide)
  have hc53 : cnt 53 = 1 := hFx.at 53 1 (by decide)
  have hc55 : cnt 55 = 1 := hFx.at 55 1 (by decide)
  have hc56 : cnt 56 = 1 := hFx.at 56 1 (by decide)
  have hc58 : cnt 58 = 1 := hFx.at 58 1 (by decide)
  have hc59 : cnt 59 = 1 := hFx.at 59 1 (by decide)
  have hl : lv_has ls 13 [(0, .ref (ad 40 0)), (1, .int (jI x)), (2, .int (jI cq))] := hl
  have fstypes : 0 ≤ X 40 0 2 ∧ X 40 0 2 ≤ 8 := hR 40 0 2
  have fsthings : 0 ≤ X 40 0 13 ∧ X 40 0 13 ≤ 30 := hR 40 0 13
  have fsmarks : 0 ≤ X 40 0 20 ∧ X 40 0 20 ≤ 4 := hR 40 0 20
  have fsnotes : 0 ≤ X 40 0 22 ∧ X 40 0 22 ≤ 80 := hR 40 0 22
  have fka : 0 ≤ X 51 0 cq ∧ X 51 0 cq ≤ 4 := hR 51 0 cq
  have fkb : 0 ≤ X 52 0 cq ∧ X 52 0 cq ≤ 4 := hR 52 0 cq
  have fkk : 0 ≤ X 50 0 cq ∧ X 50 0 cq ≤ 5 := hR 50 0 cq
  have fkl : 0 ≤ X 46 0 (5 * X 55 0 x + (X 51 0 cq)) ∧ X 46 0 (5 * X 55 0 x + (X 51 0 cq)) ≤ 5 := hR 46 0 _
  refine lv_aload_n hx hb dX9_checked_0 rfl (lv_at hl 0 rfl) ?_
  refine x_geto hx hb hf9 hw (by first | exact Int.le_refl 0 | omega) (by first | exact zlt hc40 | omega) sl_40_9 lk33 dX9_checked_1 ?_
  refine lv_iload_n hx hb dX9_checked_4 rfl (lv_at hl 2 rfl) ?_
  refine x_iald hx hb hK.1 hw (by first | exact Int.le_refl 0 | omega) (by first | exact zlt hc50 | omega) ar_50 (len_E ar_50 (by first | exact Nat.ne_of_beq_eq_false rfl | decide)) (by omega) (by omega) (by omega) dX9_checked_5 ?_
  have f1 : 0 ≤ X 50 0 cq ∧ X 50 0 cq ≤ 5 := hR 50 0 cq
  refine lv_istore_n (lv' := [(3, .int (jI (X 50 0 cq))), (0, .ref (ad 40 0)), (1, .int (jI x)), (2, .int (jI cq))]) hx hb dX9_checked_6 rfl hl (by decide) rfl (fun ls hl => ?_)
  refine lv_aload_n hx hb dX9_checked_7 rfl (lv_at hl 1 rfl) ?_
  refine x_geto hx hb hf9 hw (by first | exact Int.le_refl 0 | omega) (by first | exact zlt hc40 | omega) sl_40_10 lk36 dX9_checked_8 ?_
  refine lv_iload_n hx hb dX9_checked_11 rfl (lv_at hl 3 rfl) ?_
  refine x_iald hx hb hK.1 hw (by first | exact Int.le_refl 0 | omega) (by first | exact zlt hc51 | omega) ar_51 (len_E ar_51 (by first | exact Nat.ne_of_beq_eq_false rfl | decide)) (by omega) (by omega) (by omega) dX9_checked_12 ?_
  have f2 : 0 ≤ X 51 0 cq ∧ X 51 0 cq ≤ 4 := hR 51 0 cq
  refine lv_istore (lv' := [(4, .int (jI (X 51 0 cq))), (3, .int (jI (X 50 0 cq))), (0, .ref (ad 40 0)), (1, .int (jI x)), (2, .int (jI cq))]) hx hb dX9_checked_13 hl (by decide) rfl (fun ls hl => ?_)
  refine lv_aload_n hx hb dX9_checked_15 rfl (lv_at hl 2 rfl) ?_
  refine x_geto hx hb hf9 hw (by first | exact Int.le_refl 0 | omega) (by first | exact zlt hc40 | omega) sl_40_11 lk39 dX9_checked_16 ?_
  refine lv_iload_n hx hb dX9_checked_19 rfl (lv_at hl 4 rfl) ?_
  refine x_iald hx hb hK.1 hw (by first | exact Int.le_refl 0 | omega) (by first | exact zlt hc52 | omega) ar_52 (len_E ar_52 (by first | exact Nat.ne_of_beq_eq_false rfl | decide)) (by omega) (by omega) (by omega) dX9_checked_20 ?_
  have f3 : 0 ≤ X 52 0 cq ∧ X 52 0 cq ≤ 4 := hR 52 0 cq
  refine lv_istore (lv' := [(5, .int (jI (X 52 0 cq))), (4, .int (jI (X 51 0 cq))), (3, .int (jI (X 50 0 cq))), (0, .ref (ad 40 0)), (1, .int (jI x)), (2, .int (jI cq))]) hx hb dX9_checked_21 hl (by decide) rfl (fun ls hl => ?_)
  have lp147 : ∀ (vz : Int) (wz : Int) (H : Heap) (locs : List Loc) (ls : Array Slot), (-9223372036854775808 ≤ vz ∧ vz ≤ 9223372036854775807) → (-9223372036854775808 ≤ wz ∧ wz ≤ 9223372036854775807) → ((X 50 0 cq) = 2 → vz ≤ 399) → ((X 50 0 cq) = 1 → vz ≤ 29) → ((X 50 0 cq) = 5 → vz ≤ 29) → (vz = X 56 0 (5 * x + (X 51 0 cq))) → ((X 52 0 cq) < X 44 0 (X 55 0 x) → wz = X 56 0 (5 * x + (X 52 0 cq))) → ((((X 51 0 cq) < X 44 0 (X 55 0 x) ∧ ((X 50 0 cq) = 2 → 3 ≤ X 46 0 (5 * X 55 0 x + (X 51 0 cq))) ∧ (((X 50 0 cq) = 1 ∨ (X 50 0 cq) = 5) → X 46 0 (5 * X 55 0 x + (X 51 0 cq)) = 2) ∧ (((X 50 0 cq) = 0 ∨ (X 50 0 cq) = 3 ∨ (X 50 0 cq) = 4) → X 46 0 (5 * X 55 0 x + (X 51 0 cq)) = 0)) ∧ (((X 50 0 cq) = 0 ∨ (X 50 0 cq) = 2) → (X 52 0 cq) < X 44 0 (X 55 0 x) ∧ X 46 0 (5 * X 55 0 x + (X 52 0 cq)) = 0))) → wd D tc base (ad, cnt, X, Y, ln) H → va_S (frA base) s.heap H locs → lv_has ls 13 [(0, .ref (ad 40 0)), (1, .int (jI x)), (2, .int (jI cq)), (3, .int (jI (X 50 0 cq))), (4, .int (jI (X 51 0 cq))), (5, .int (jI (X 52 0 cq))), (7, .long (jL vz)), (9, .long (jL wz))] → W p l e ({ frames := 2, cells := 0, slots := 0, locals := 46 } : Room) s m av9 below meth c H locs 0 0 Q9 (F0 m 147 ls []) := by
    intro vz wz H locs ls hvz hwz hk2 hk1 hk5 hvv hww hfi hw hS hl
    refine lv_iload_n hx hb dX9_checked_147 rfl (lv_at hl 3 rfl) ?_
    have tc4 : (jI (X 50 0 cq)).toInt = (X 50 0 cq) := jI_toInt (by omega)
    by_cases c4 : (X 50 0 cq) < 0 ∨ 4 < (X 50 0 cq)
    · refine lv_tableOut (tgt := 344) hx hb dX9_checked_148 (by rw [tc4]; exact c4) (by decide) ?_
      refine lv_lload hx hb dX9_checked_344 (lv_at hl 6 rfl) ?_
      refine lv_lconst (v := jL 0) hx hb dX9_checked_346 (by decide) ?_
      refine x_lcmp hx hb (by omega) (by omega) dX9_checked_347 ?_
      obtain ⟨z5, ez5⟩ : ∃ y : Int, y = cmpZ vz 0 := ⟨_, rfl⟩
      rw [← ez5]
      have gz5 : (z5 < 0 ↔ (vz : Int) < 0) ∧ (z5 = 0 ↔ (vz : Int) = 0) ∧ -1 ≤ z5 ∧ z5 ≤ 1 := by rw [ez5]; exact ⟨cmpZ_lt, cmpZ_eq, (cmpZ_r _ _).1, (cmpZ_r _ _).2⟩
      clear ez5
      refine x_if_ge (tgt := 353) hx hb (by omega) dX9_checked_348 (by decide) (fun c6 => ?_) (fun c6 => ?_)
      · replace c6 := cz_geT gz5 c6
        clear gz5
        refine lv_lload hx hb dX9_checked_353 (lv_at hl 6 rfl) ?_
        refine x_l2i hx hb dX9_checked_355 ?_
        refine lv_istore (lv' := [(11, .int (jI vz)), (0, .ref (ad 40 0)), (1, .int (jI x)), (2, .int (jI cq)), (3, .int (jI (X 50 0 cq))), (4, .int (jI (X 51 0 cq))), (5, .int (jI (X 52 0 cq))), (7, .long (jL vz)), (9, .long (jL wz))]) hx hb dX9_checked_356 hl (by decide) rfl (fun ls hl => ?_)
        refine lv_aload_n hx hb dX9_checked_358 rfl (lv_at hl 1 rfl) ?_
        refine lv_aload_n hx hb dX9_checked_359 rfl (lv_at hl 1 rfl) ?_
        refine x_geto hx hb hf9 hw (by first | exact Int.le_refl 0 | omega) (by first | exact zlt hc40 | omega) sl_40_14 lk45 dX9_checked_360 ?_
        refine lv_iload hx hb dX9_checked_363 (lv_at hl 0 rfl) ?_
        refine x_iald hx hb hK.1 hw (by first | exact Int.le_refl 0 | omega) (by first | exact zlt hc55 | omega) ar_55 (len_E ar_55 (by first | exact Nat.ne_of_beq_eq_false rfl | decide)) (by omega) (by omega) (by omega) dX9_checked_365 ?_
        have f7 : 0 ≤ X 55 0 vz ∧ X 55 0 vz ≤ 7 := hR 55 0 vz
        refine lv_aload_n hx hb dX9_checked_366 rfl (lv_at hl 1 rfl) ?_
        refine x_geto hx hb hf9 hw (by first | exact Int.le_refl 0 | omega) (by first | exact zlt hc40 | omega) sl_40_4 lk17 dX9_checked_367 ?_
        refine lv_iconst (v := jI 5) hx hb dX9_checked_370 rfl ?_
        refine lv_aload_n hx hb dX9_checked_371 rfl (lv_at hl 1 rfl) ?_
        refine x_geto hx hb hf9 hw (by first | exact Int.le_refl 0 | omega) (by first | exact zlt hc40 | omega) sl_40_14 lk45 dX9_checked_372 ?_
        refine lv_iload_n hx hb dX9_checked_375 rfl (lv_at hl 2 rfl) ?_
        refine x_iald hx hb hK.1 hw (by first | exact Int.le_refl 0 | omega) (by first | exact zlt hc55 | omega) ar_55 (len_E ar_55 (by first | exact Nat.ne_of_beq_eq_false rfl | decide)) (by omega) (by omega) (by omega) dX9_checked_376 ?_
        have f8 : 0 ≤ X 55 0 x ∧ X 55 0 x ≤ 7 := hR 55 0 x
        refine x_imul hx hb dX9_checked_377 ?_
        refine lv_iload hx hb dX9_checked_378 (lv_at hl 5 rfl) ?_
        refine x_iadd hx hb dX9_checked_380 ?_
        refine x_iald hx hb hK.1 hw (by first | exact Int.le_refl 0 | omega) (by first | exact zlt hc45 | omega) ar_45 (len_E ar_45 (by first | exact Nat.ne_of_beq_eq_false rfl | decide)) (by omega) (by omega) (by omega) dX9_checked_381 ?_
        have f9 : 0 ≤ X 45 0 ((5 * (X 55 0 x)) + (X 51 0 cq)) ∧ X 45 0 ((5 * (X 55 0 x)) + (X 51 0 cq)) ≤ 19 := hR 45 0 ((5 * (X 55 0 x)) + (X 51 0 cq))
        refine gos_i (run_V (As := [.int (jI (X 55 0 vz)), .int (jI (X 45 0 ((5 * (X 55 0 x)) + (X 51 0 cq))))]) (rest := []) hx hb hml hown hts (c_X9_named l D tc base ad cnt X Y ln hR hFx (X 55 0 vz) (X 45 0 ((5 * (X 55 0 x)) + (X 51 0 cq))) (by omega) (by omega)) (cwV 2 hts gX9_checked_X9_named rfl rfl rfl (by first | exact hd_X9_named | decide +kernel) ⟨Nat.le_of_ble_eq_true rfl, Nat.le_of_ble_eq_true rfl⟩) hK hw (by first | exact Int.le_refl 0 | omega) (by first | exact zlt hc40 | omega) sl_40_0 rfl rfl hl.1 rfl (Nat.le_of_ble_eq_true rfl) dX9_checked_382 ⟨Nat.le_of_ble_eq_true rfl, Nat.le_of_ble_eq_true rfl⟩) hS (fun z10 u11 H locs p12 hw hS => ?_)
        obtain ⟨eu11, p12⟩ := p12
        subst eu11
        refine lv_istore (lv' := [(12, .int (jI z10)), (11, .int (jI vz)), (0, .ref (ad 40 0)), (1, .int (jI x)), (2, .int (jI cq)), (3, .int (jI (X 50 0 cq))), (4, .int (jI (X 51 0 cq))), (5, .int (jI (X 52 0 cq))), (7, .long (jL vz)), (9, .long (jL wz))]) hx hb dX9_checked_385 hl (by decide) rfl (fun ls hl => ?_)
        refine lv_iload hx hb dX9_checked_387 (lv_at hl 0 rfl) ?_
        refine x_if_lt (tgt := 404) hx hb (by omega) dX9_checked_389 (by decide) (fun c13 => ?_) (fun c13 => ?_)
        · refine lv_iconst (v := jI 4) hx hb dX9_checked_404 rfl ?_
          rw [hQ9]
          refine ret_i (mc := 0) (ms := 0) hx hb hr hlocks hw hS (by first | exact Nat.le_of_ble_eq_true rfl | omega) (by first | exact Nat.le_of_ble_eq_true rfl | omega) dX9_checked_405 ?_
          exact ⟨rfl, by omega, (by unfold ckM; rw [ckF_5 (by (try delta Hid at *); omega) (by (try delta Hid at *); omega)]; rw [← hvv]; have f55 : 0 ≤ X 55 0 vz ∧ X 55 0 vz ≤ 7 := hR 55 0 vz; unfold ldM; rw [← p12.2.2.2]; (repeat' split) <;> omega)⟩
        · refine lv_aload_n hx hb dX9_checked_392 rfl (lv_at hl 2 rfl) ?_
          refine lv_iload hx hb dX9_checked_393 (lv_at hl 1 rfl) ?_
          refine lv_iload hx hb dX9_checked_395 (lv_at hl 0 rfl) ?_
          refine gos_i (run_V (As := [.int (jI vz), .int (jI z10)]) (rest := []) hx hb hml hown hts (c_X9_lane l D tc base ad cnt X Y ln hR hFx vz z10 (by omega) (by omega)) (cwV 2 hts gX9_checked_X9_lane rfl rfl rfl (by first | exact hd_X9_lane | decide +kernel) ⟨Nat.le_of_ble_eq_true rfl, Nat.le_of_ble_eq_true rfl⟩) hK hw (by first | exact Int.le_refl 0 | omega) (by first | exact zlt hc40 | omega) sl_40_0 rfl rfl hl.1 rfl (Nat.le_of_ble_eq_true rfl) dX9_checked_397 ⟨Nat.le_of_ble_eq_true rfl, Nat.le_of_ble_eq_true rfl⟩) hS (fun z14 u15 H locs p16 hw hS => ?_)
          obtain ⟨eu15, p16⟩ := p16
          subst eu15
          refine lv_iconst (v := jI 2) hx hb dX9_checked_400 rfl ?_
          refine x_icmp_eq (tgt := 406) hx hb (by omega) (by omega) dX9_checked_401 (by decide) (fun c17 => ?_) (fun c17 => ?_)
          · refine lv_aload_n hx hb dX9_checked_406 rfl (lv_at hl 2 rfl) ?_
            refine x_geto hx hb hf9 hw (by first | exact Int.le_refl 0 | omega) (by first | exact zlt hc40 | omega) sl_40_15 lk48 dX9_checked_407 ?_
            refine lv_iconst (v := jI 5) hx hb dX9_checked_410 rfl ?_
            refine lv_iload hx hb dX9_checked_411 (lv_at hl 1 rfl) ?_
            refine x_imul hx hb dX9_checked_413 ?_
            refine lv_iload hx hb dX9_checked_414 (lv_at hl 0 rfl) ?_
            refine x_iadd hx hb dX9_checked_416 ?_
            skip
            refine x_lald hx hb hK.1 hw (by first | exact Int.le_refl 0 | omega) (by first | exact zlt hc56 | omega) ar_56 (len_E ar_56 (by first | exact Nat.ne_of_beq_eq_false rfl | decide)) (by omega) (by omega) (by omega) dX9_checked_417 ?_
            have f18 : (-9223372036854775808) ≤ X 56 0 ((5 * vz) + z10) ∧ X 56 0 ((5 * vz) + z10) ≤ 9223372036854775807 := hR 56 0 ((5 * vz) + z10)
            refine lv_lconst (v := jL 0) hx hb dX9_checked_418 (by decide) ?_
            refine x_lcmp hx hb (by omega) (by omega) dX9_checked_419 ?_
            obtain ⟨z19, ez19⟩ : ∃ y : Int, y = cmpZ (X 56 0 ((5 * vz) + z10)) 0 := ⟨_, rfl⟩
            rw [← ez19]
            have gz19 : (z19 < 0 ↔ ((X 56 0 ((5 * vz) + z10)) : Int) < 0) ∧ (z19 = 0 ↔ ((X 56 0 ((5 * vz) + z10)) : Int) = 0) ∧ -1 ≤ z19 ∧ z19 ≤ 1 := by rw [ez19]; exact ⟨cmpZ_lt, cmpZ_eq, (cmpZ_r _ _).1, (cmpZ_r _ _).2⟩
            clear ez19
            refine x_if_ge (tgt := 427) hx hb (by omega) dX9_checked_420 (by decide) (fun c20 => ?_) (fun c20 => ?_)
            · replace c20 := cz_geT gz19 c20
              clear gz19
              refine lv_iconst (v := jI 0) hx hb dX9_checked_427 rfl ?_
              rw [hQ9]
              refine ret_i (mc := 0) (ms := 0) hx hb hr hlocks hw hS (by first | exact Nat.le_of_ble_eq_true rfl | omega) (by first | exact Nat.le_of_ble_eq_true rfl | omega) dX9_checked_428 ?_
              exact ⟨rfl, by omega, (by unfold ckM; rw [ckF_5 (by (try delta Hid at *); omega) (by (try delta Hid at *); omega)]; have g1 := (hMI.1 x (X 51 0 cq) hx0.1 hxt fka.1 (by (try delta Hid at *); omega)).2.1 (by (try delta Hid at *); omega); have g2 := (hMI.1 vz z10 (by omega) (by omega) (by omega) (by omega)).2.1 (by omega); rw [← hvv]; have f55 : 0 ≤ X 55 0 vz ∧ X 55 0 vz ≤ 7 := hR 55 0 vz; unfold ldM; rw [← p12.2.2.2]; (repeat' split) <;> omega)⟩
            · replace c20 := cz_geF gz19 c20
              clear gz19
              refine lv_iconst (v := jI 1) hx hb dX9_checked_423 rfl ?_
              refine lv_goto (tgt := 428) hx hb dX9_checked_424 (by decide) ?_
              rw [hQ9]
              refine ret_i (mc := 0) (ms := 0) hx hb hr hlocks hw hS (by first | exact Nat.le_of_ble_eq_true rfl | omega) (by first | exact Nat.le_of_ble_eq_true rfl | omega) dX9_checked_428 ?_
              exact ⟨rfl, by omega, (by unfold ckM; rw [ckF_5 (by (try delta Hid at *); omega) (by (try delta Hid at *); omega)]; have g1 := (hMI.1 x (X 51 0 cq) hx0.1 hxt fka.1 (by (try delta Hid at *); omega)).2.1 (by (try delta Hid at *); omega); have g2 := (hMI.1 vz z10 (by omega) (by omega) (by omega) (by omega)).2.1 (by omega); rw [← hvv]; have f55 : 0 ≤ X 55 0 vz ∧ X 55 0 vz ≤ 7 := hR 55 0 vz; unfold ldM; rw [← p12.2.2.2]; (repeat' split) <;> omega)⟩
          · refine lv_iconst (v := jI 4) hx hb dX9_checked_404 rfl ?_
            rw [hQ9]
            refine ret_i (mc := 0) (ms := 0) hx hb hr hlocks hw hS (by first | exact Nat.le_of_ble_eq_true rfl | omega) (by first | exact Nat.le_of_ble_eq_true rfl | omega) dX9_checked_405 ?_
            exact ⟨rfl, by omega, (by unfold ckM; rw [ckF_5 (by (try delta Hid at *); omega) (by (try delta Hid at *); omega)]; rw [← hvv]; have f55 : 0 ≤ X 55 0 vz ∧ X 55 0 vz ≤ 7 := hR 55 0 vz; unfold ldM; rw [← p12.2.2.2]; (repeat' split) <;> omega)⟩
      · replace c6 := cz_geF gz5 c6
        clear gz5
        refine lv_iconst (v := jI 1) hx hb dX9_checked_351 rfl ?_
        rw [hQ9]
        refine ret_i (mc := 0) (ms := 0) hx hb hr hlocks hw hS (by first | exact Nat.le_of_ble_eq_true rfl | omega) (by first | exact Nat.le_of_ble_eq_true rfl | omega) dX9_checked_352 ?_
        exact ⟨rfl, by omega, (by unfold ckM; rw [ckF_5 (by (try delta Hid at *); omega) (by (try delta Hid at *); omega)]; rw [← hvv]; have f55 : 0 ≤ X 55 0 vz ∧ X 55 0 vz ≤ 7 := hR 55 0 vz; (repeat' split) <;> omega)⟩
    by_cases c21 : (X 50 0 cq) = 0
    · refine lv_tableIn (off := 36) (tgt := 184) hx hb dX9_checked_148 (by rw [tc4]; omega) (by rw [tc4]; omega) (by rw [tc4, c21]; rfl) (by decide) ?_
      refine lv_lload hx hb dX9_checked_184 (lv_at hl 7 rfl) ?_
      refine lv_lconst (v := jL 0) hx hb dX9_checked_186 (by decide) ?_
      refine x_lcmp hx hb (by omega) (by omega) dX9_checked_187 ?_
      obtain ⟨z22, ez22⟩ : ∃ y : Int, y = cmpZ wz 0 := ⟨_, rfl⟩
      rw [← ez22]
      have gz22 : (z22 < 0 ↔ (wz : Int) < 0) ∧ (z22 = 0 ↔ (wz : Int) = 0) ∧ -1 ≤ z22 ∧ z22 ≤ 1 := by rw [ez22]; exact ⟨cmpZ_lt, cmpZ_eq, (cmpZ_r _ _).1, (cmpZ_r _ _).2⟩
      clear ez22
      refine x_if_ne (tgt := 195) hx hb (by omega) dX9_checked_188 (by decide) (fun c23 => ?_) (fun c23 => ?_)
      · replace c23 := cz_neT gz22 c23
        clear gz22
        refine lv_iconst (v := jI 0) hx hb dX9_checked_195 rfl ?_
        rw [hQ9]
        refine ret_i (mc := 0) (ms := 0) hx hb hr hlocks hw hS (by first | exact Nat.le_of_ble_eq_true rfl | omega) (by first | exact Nat.le_of_ble_eq_true rfl | omega) dX9_checked_196 ?_
        exact ⟨rfl, by omega, (by unfold ckM; rw [ckF_0 (by (try delta Hid at *); omega) (by (try delta Hid at *); omega)]; have h9 := hww (by omega); split <;> omega)⟩
      · replace c23 := cz_neF gz22 c23
        clear gz22
        refine lv_iconst (v := jI 5) hx hb dX9_checked_191 rfl ?_
        refine lv_goto (tgt := 196) hx hb dX9_checked_192 (by decide) ?_
        rw [hQ9]
        refine ret_i (mc := 0) (ms := 0) hx hb hr hlocks hw hS (by first | exact Nat.le_of_ble_eq_true rfl | omega) (by first | exact Nat.le_of_ble_eq_true rfl | omega) dX9_checked_196 ?_
        exact ⟨rfl, by omega, (by unfold ckM; rw [ckF_0 (by (try delta Hid at *); omega) (by (try delta Hid at *); omega)]; have h9 := hww (by omega); split <;> omega)⟩
    by_cases c24 : (X 50 0 cq) = 1
    · refine lv_tableIn (off := 49) (tgt := 197) hx hb dX9_checked_148 (by rw [tc4]; omega) (by rw [tc4]; omega) (by rw [tc4, c24]; rfl) (by decide) ?_
      refine lv_lload hx hb dX9_checked_197 (lv_at hl 6 rfl) ?_
      refine lv_lconst (v := jL 0) hx hb dX9_checked_199 (by decide) ?_
      refine x_lcmp hx hb (by omega) (by omega) dX9_checked_200 ?_
      obtain ⟨z25, ez25⟩ : ∃ y : Int, y = cmpZ vz 0 := ⟨_, rfl⟩
      rw [← ez25]
      have gz25 : (z25 < 0 ↔ (vz : Int) < 0) ∧ (z25 = 0 ↔ (vz : Int) = 0) ∧ -1 ≤ z25 ∧ z25 ≤ 1 := by rw [ez25]; exact ⟨cmpZ_lt, cmpZ_eq, (cmpZ_r _ _).1, (cmpZ_r _ _).2⟩
      clear ez25
      refine x_if_ge (tgt := 208) hx hb (by omega) dX9_checked_201 (by decide) (fun c26 => ?_) (fun c26 => ?_)
      · replace c26 := cz_geT gz25 c26
        clear gz25
        refine lv_aload_n hx hb dX9_checked_208 rfl (lv_at hl 0 rfl) ?_
        refine x_geto hx hb hf9 hw (by first | exact Int.le_refl 0 | omega) (by first | exact zlt hc40 | omega) sl_40_14 lk45 dX9_checked_209 ?_
        refine lv_lload hx hb dX9_checked_212 (lv_at hl 6 rfl) ?_
        refine x_l2i hx hb dX9_checked_214 ?_
        refine x_iald hx hb hK.1 hw (by first | exact Int.le_refl 0 | omega) (by first | exact zlt hc55 | omega) ar_55 (len_E ar_55 (by first | exact Nat.ne_of_beq_eq_false rfl | decide)) (by omega) (by omega) (by omega) dX9_checked_215 ?_
        have f27 : 0 ≤ X 55 0 vz ∧ X 55 0 vz ≤ 7 := hR 55 0 vz
        refine x_i2l hx hb (by omega) dX9_checked_216 ?_
        refine lv_aload_n hx hb dX9_checked_217 rfl (lv_at hl 0 rfl) ?_
        refine x_geto hx hb hf9 hw (by first | exact Int.le_refl 0 | omega) (by first | exact zlt hc40 | omega) sl_40_12 lk42 dX9_checked_218 ?_
        refine lv_iload_n hx hb dX9_checked_221 rfl (lv_at hl 2 rfl) ?_
        refine x_lald hx hb hK.1 hw (by first | exact Int.le_refl 0 | omega) (by first | exact zlt hc53 | omega) ar_53 (len_E ar_53 (by first | exact Nat.ne_of_beq_eq_false rfl | decide)) (by omega) (by omega) (by omega) dX9_checked_222 ?_
        have f28 : (-9223372036854775808) ≤ X 53 0 cq ∧ X 53 0 cq ≤ 9223372036854775807 := hR 53 0 cq
        refine x_lcmp hx hb (by omega) (by omega) dX9_checked_223 ?_
        obtain ⟨z29, ez29⟩ : ∃ y : Int, y = cmpZ (X 55 0 vz) (X 53 0 cq) := ⟨_, rfl⟩
        rw [← ez29]
        have gz29 : (z29 < 0 ↔ ((X 55 0 vz) : Int) < (X 53 0 cq)) ∧ (z29 = 0 ↔ ((X 55 0 vz) : Int) = (X 53 0 cq)) ∧ -1 ≤ z29 ∧ z29 ≤ 1 := by rw [ez29]; exact ⟨cmpZ_lt, cmpZ_eq, (cmpZ_r _ _).1, (cmpZ_r _ _).2⟩
        clear ez29
        refine x_if_eq (tgt := 231) hx hb (by omega) dX9_checked_224 (by decide) (fun c30 => ?_) (fun c30 => ?_)
        · replace c30 := cz_eqT gz29 c30
          clear gz29
          refine lv_iconst (v := jI 0) hx hb dX9_checked_231 rfl ?_
          rw [hQ9]
          refine ret_i (mc := 0) (ms := 0) hx hb hr hlocks hw hS (by first | exact Nat.le_of_ble_eq_true rfl | omega) (by first | exact Nat.le_of_ble_eq_true rfl | omega) dX9_checked_232 ?_
          exact ⟨rfl, by omega, (by unfold ckM; rw [ckF_1 (by (try delta Hid at *); omega) (by (try delta Hid at *); omega)]; rw [← hvv]; have f55 : 0 ≤ X 55 0 vz ∧ X 55 0 vz ≤ 7 := hR 55 0 vz; (repeat' split) <;> omega)⟩
        · replace c30 := cz_eqF gz29 c30
          clear gz29
          refine lv_iconst (v := jI 4) hx hb dX9_checked_227 rfl ?_
          refine lv_goto (tgt := 232) hx hb dX9_checked_228 (by decide) ?_
          rw [hQ9]
          refine ret_i (mc := 0) (ms := 0) hx hb hr hlocks hw hS (by first | exact Nat.le_of_ble_eq_true rfl | omega) (by first | exact Nat.le_of_ble_eq_true rfl | omega) dX9_checked_232 ?_
          exact ⟨rfl, by omega, (by unfold ckM; rw [ckF_1 (by (try delta Hid at *); omega) (by (try delta Hid at *); omega)]; rw [← hvv]; have f55 : 0 ≤ X 55 0 vz ∧ X 55 0 vz ≤ 7 := hR 55 0 vz; (repeat' split) <;> omega)⟩
      · replace c26 := cz_geF gz25 c26
        clear gz25
        refine lv_iconst (v := jI 1) hx hb dX9_checked_204 rfl ?_
        refine lv_goto (tgt := 232) hx hb dX9_checked_205 (by decide) ?_
        rw [hQ9]
        refine ret_i (mc := 0) (ms := 0) hx hb hr hlocks hw hS (by first | exact Nat.le_of_ble_eq_true rfl | omega) (by first | exact Nat.le_of_ble_eq_true rfl | omega) dX9_checked_232 ?_
        exact ⟨rfl, by omega, (by unfold ckM; rw [ckF_1 (by (try delta Hid at *); omega) (by (try delta Hid at *); omega)]; rw [← hvv]; have f55 : 0 ≤ X 55 0 vz ∧ X 55 0 vz ≤ 7 := hR 55 0 vz; (repeat' split) <;> omega)⟩
    by_cases c31 : (X 50 0 cq) = 2
    · refine lv_tableIn (off := 85) (tgt := 233) hx hb dX9_checked_148 (by rw [tc4]; omega) (by rw [tc4]; omega) (by rw [tc4, c31]; rfl) (by decide) ?_
      refine lv_lload hx hb dX9_checked_233 (lv_at hl 6 rfl) ?_
      refine lv_lconst (v := jL 0) hx hb dX9_checked_235 (by decide) ?_
      refine x_lcmp hx hb (by omega) (by omega) dX9_checked_236 ?_
      obtain ⟨z32, ez32⟩ : ∃ y : Int, y = cmpZ vz 0 := ⟨_, rfl⟩
      rw [← ez32]
      have gz32 : (z32 < 0 ↔ (vz : Int) < 0) ∧ (z32 = 0 ↔ (vz : Int) = 0) ∧ -1 ≤ z32 ∧ z32 ≤ 1 := by rw [ez32]; exact ⟨cmpZ_lt, cmpZ_eq, (cmpZ_r _ _).1, (cmpZ_r _ _).2⟩
      clear ez32
      refine x_if_ge (tgt := 242) hx hb (by omega) dX9_checked_237 (by decide) (fun c33 => ?_) (fun c33 => ?_)
      · replace c33 := cz_geT gz32 c33
        clear gz32
        refine lv_lload hx hb dX9_checked_242 (lv_at hl 7 rfl) ?_
        refine lv_lconst (v := jL 0) hx hb dX9_checked_244 (by decide) ?_
        refine x_lcmp hx hb (by omega) (by omega) dX9_checked_245 ?_
        obtain ⟨z34, ez34⟩ : ∃ y : Int, y = cmpZ wz 0 := ⟨_, rfl⟩
        rw [← ez34]
        have gz34 : (z34 < 0 ↔ (wz : Int) < 0) ∧ (z34 = 0 ↔ (wz : Int) = 0) ∧ -1 ≤ z34 ∧ z34 ≤ 1 := by rw [ez34]; exact ⟨cmpZ_lt, cmpZ_eq, (cmpZ_r _ _).1, (cmpZ_r _ _).2⟩
        clear ez34
        refine x_if_lt (tgt := 264) hx hb (by omega) dX9_checked_246 (by decide) (fun c35 => ?_) (fun c35 => ?_)
        · replace c35 := cz_ltT gz34 c35
          clear gz34
          refine lv_iconst (v := jI 2) hx hb dX9_checked_264 rfl ?_
          rw [hQ9]
          refine ret_i (mc := 0) (ms := 0) hx hb hr hlocks hw hS (by first | exact Nat.le_of_ble_eq_true rfl | omega) (by first | exact Nat.le_of_ble_eq_true rfl | omega) dX9_checked_265 ?_
          exact ⟨rfl, by omega, (by unfold ckM; rw [ckF_2 (by (try delta Hid at *); omega) (by (try delta Hid at *); omega)]; have h9 := hww (by omega); rw [← hvv, ← h9]; have f58 : 0 ≤ X 58 0 vz ∧ X 58 0 vz ≤ 12 := hR 58 0 vz; (repeat' split) <;> omega)⟩
        · replace c35 := cz_ltF gz34 c35
          clear gz34
          refine lv_lload hx hb dX9_checked_249 (lv_at hl 7 rfl) ?_
          refine lv_aload_n hx hb dX9_checked_251 rfl (lv_at hl 0 rfl) ?_
          refine x_geto hx hb hf9 hw (by first | exact Int.le_refl 0 | omega) (by first | exact zlt hc40 | omega) sl_40_17 lk54 dX9_checked_252 ?_
          refine lv_lload hx hb dX9_checked_255 (lv_at hl 6 rfl) ?_
          refine x_l2i hx hb dX9_checked_257 ?_
          refine x_iald hx hb hK.1 hw (by first | exact Int.le_refl 0 | omega) (by first | exact zlt hc58 | omega) ar_58 (len_E ar_58 (by first | exact Nat.ne_of_beq_eq_false rfl | decide)) (by omega) (by omega) (by omega) dX9_checked_258 ?_
          have f36 : 0 ≤ X 58 0 vz ∧ X 58 0 vz ≤ 12 := hR 58 0 vz
          refine x_i2l hx hb (by omega) dX9_checked_259 ?_
          refine x_lcmp hx hb (by omega) (by omega) dX9_checked_260 ?_
          obtain ⟨z37, ez37⟩ : ∃ y : Int, y = cmpZ wz (X 58 0 vz) := ⟨_, rfl⟩
          rw [← ez37]
          have gz37 : (z37 < 0 ↔ (wz : Int) < (X 58 0 vz)) ∧ (z37 = 0 ↔ (wz : Int) = (X 58 0 vz)) ∧ -1 ≤ z37 ∧ z37 ≤ 1 := by rw [ez37]; exact ⟨cmpZ_lt, cmpZ_eq, (cmpZ_r _ _).1, (cmpZ_r _ _).2⟩
          clear ez37
          refine x_if_lt (tgt := 266) hx hb (by omega) dX9_checked_261 (by decide) (fun c38 => ?_) (fun c38 => ?_)
          · replace c38 := cz_ltT gz37 c38
            clear gz37
            refine lv_aload_n hx hb dX9_checked_266 rfl (lv_at hl 0 rfl) ?_
            refine x_geto hx hb hf9 hw (by first | exact Int.le_refl 0 | omega) (by first | exact zlt hc40 | omega) sl_40_18 lk57 dX9_checked_267 ?_
            refine lv_bipush (v := jI 12) hx hb dX9_checked_270 (by decide) ?_
            refine lv_lload hx hb dX9_checked_272 (lv_at hl 6 rfl) ?_
            refine x_l2i hx hb dX9_checked_274 ?_
            refine x_imul hx hb dX9_checked_275 ?_
            refine lv_lload hx hb dX9_checked_276 (lv_at hl 7 rfl) ?_
            refine x_l2i hx hb dX9_checked_278 ?_
            refine x_iadd hx hb dX9_checked_279 ?_
            refine x_lald hx hb hK.1 hw (by first | exact Int.le_refl 0 | omega) (by first | exact zlt hc59 | omega) ar_59 (len_E ar_59 (by first | exact Nat.ne_of_beq_eq_false rfl | decide)) (by omega) (by omega) (by omega) dX9_checked_280 ?_
            have f39 : (-9223372036854775808) ≤ X 59 0 ((12 * vz) + wz) ∧ X 59 0 ((12 * vz) + wz) ≤ 9223372036854775807 := hR 59 0 ((12 * vz) + wz)
            refine lv_aload_n hx hb dX9_checked_281 rfl (lv_at hl 0 rfl) ?_
            refine x_geto hx hb hf9 hw (by first | exact Int.le_refl 0 | omega) (by first | exact zlt hc40 | omega) sl_40_12 lk42 dX9_checked_282 ?_
            refine lv_iload_n hx hb dX9_checked_285 rfl (lv_at hl 2 rfl) ?_
            refine x_lald hx hb hK.1 hw (by first | exact Int.le_refl 0 | omega) (by first | exact zlt hc53 | omega) ar_53 (len_E ar_53 (by first | exact Nat.ne_of_beq_eq_false rfl | decide)) (by omega) (by omega) (by omega) dX9_checked_286 ?_
            have f40 : (-9223372036854775808) ≤ X 53 0 cq ∧ X 53 0 cq ≤ 9223372036854775807 := hR 53 0 cq
            refine x_lcmp hx hb (by omega) (by omega) dX9_checked_287 ?_
            obtain ⟨z41, ez41⟩ : ∃ y : Int, y = cmpZ (X 59 0 ((12 * vz) + wz)) (X 53 0 cq) := ⟨_, rfl⟩
            rw [← ez41]
            have gz41 : (z41 < 0 ↔ ((X 59 0 ((12 * vz) + wz)) : Int) < (X 53 0 cq)) ∧ (z41 = 0 ↔ ((X 59 0 ((12 * vz) + wz)) : Int) = (X 53 0 cq)) ∧ -1 ≤ z41 ∧ z41 ≤ 1 := by rw [ez41]; exact ⟨cmpZ_lt, cmpZ_eq, (cmpZ_r _ _).1, (cmpZ_r _ _).2⟩
            clear ez41
            refine x_if_le (tgt := 295) hx hb (by omega) dX9_checked_288 (by decide) (fun c42 => ?_) (fun c42 => ?_)
            · replace c42 := cz_leT gz41 c42
              clear gz41
              refine lv_bipush (v := jI 6) hx hb dX9_checked_295 (by decide) ?_
              rw [hQ9]
              refine ret_i (mc := 0) (ms := 0) hx hb hr hlocks hw hS (by first | exact Nat.le_of_ble_eq_true rfl | omega) (by first | exact Nat.le_of_ble_eq_true rfl | omega) dX9_checked_297 ?_
              exact ⟨rfl, by omega, (by unfold ckM; rw [ckF_2 (by (try delta Hid at *); omega) (by (try delta Hid at *); omega)]; have h9 := hww (by omega); rw [← hvv, ← h9]; have f58 : 0 ≤ X 58 0 vz ∧ X 58 0 vz ≤ 12 := hR 58 0 vz; (repeat' split) <;> omega)⟩
            · replace c42 := cz_leF gz41 c42
              clear gz41
              refine lv_iconst (v := jI 0) hx hb dX9_checked_291 rfl ?_
              refine lv_goto (tgt := 297) hx hb dX9_checked_292 (by decide) ?_
              rw [hQ9]
              refine ret_i (mc := 0) (ms := 0) hx hb hr hlocks hw hS (by first | exact Nat.le_of_ble_eq_true rfl | omega) (by first | exact Nat.le_of_ble_eq_true rfl | omega) dX9_checked_297 ?_
              exact ⟨rfl, by omega, (by unfold ckM; rw [ckF_2 (by (try delta Hid at *); omega) (by (try delta Hid at *); omega)]; have h9 := hww (by omega); rw [← hvv, ← h9]; have f58 : 0 ≤ X 58 0 vz ∧ X 58 0 vz ≤ 12 := hR 58 0 vz; (repeat' split) <;> omega)⟩
          · replace c38 := cz_ltF gz37 c38
            clear gz37
            refine lv_iconst (v := jI 2) hx hb dX9_checked_264 rfl ?_
            rw [hQ9]
            refine ret_i (mc := 0) (ms := 0) hx hb hr hlocks hw hS (by first | exact Nat.le_of_ble_eq_true rfl | omega) (by first | exact Nat.le_of_ble_eq_true rfl | omega) dX9_checked_265 ?_
            exact ⟨rfl, by omega, (by unfold ckM; rw [ckF_2 (by (try delta Hid at *); omega) (by (try delta Hid at *); omega)]; have h9 := hww (by omega); rw [← hvv, ← h9]; have f58 : 0 ≤ X 58 0 vz ∧ X 58 0 vz ≤ 12 := hR 58 0 vz; (repeat' split) <;> omega)⟩
      · replace c33 := cz_geF gz32 c33
        clear gz32
        refine lv_iconst (v := jI 1) hx hb dX9_checked_240 rfl ?_
        rw [hQ9]
        refine ret_i (mc := 0) (ms := 0) hx hb hr hlocks hw hS (by first | exact Nat.le_of_ble_eq_true rfl | omega) (by first | exact Nat.le_of_ble_eq_true rfl | omega) dX9_checked_241 ?_
        exact ⟨rfl, by omega, (by unfold ckM; rw [ckF_2 (by (try delta Hid at *); omega) (by (try delta Hid at *); omega)]; have h9 := hww (by omega); rw [← hvv, ← h9]; have f58 : 0 ≤ X 58 0 vz ∧ X 58 0 vz ≤ 12 := hR 58 0 vz; (repeat' split) <;> omega)⟩
    by_cases c43 : (X 50 0 cq) = 3
    · refine lv_tableIn (off := 150) (tgt := 298) hx hb dX9_checked_148 (by rw [tc4]; omega) (by rw [tc4]; omega) (by rw [tc4, c43]; rfl) (by decide) ?_
      refine lv_lload hx hb dX9_checked_298 (lv_at hl 6 rfl) ?_
      refine lv_ldc2 (v := jL 12) hx hb hown (hts (.constantLong RX9 201 (12)) (by first | exact gj_X9_checked_0 _ (gp_4 (gp_4 (gp_1 gp_h))) | decide +kernel)) dX9_checked_300 ?_
      refine x_lcmp hx hb (by omega) (by omega) dX9_checked_303 ?_
      obtain ⟨z44, ez44⟩ : ∃ y : Int, y = cmpZ vz 12 := ⟨_, rfl⟩
      rw [← ez44]
      have gz44 : (z44 < 0 ↔ (vz : Int) < 12) ∧ (z44 = 0 ↔ (vz : Int) = 12) ∧ -1 ≤ z44 ∧ z44 ≤ 1 := by rw [ez44]; exact ⟨cmpZ_lt, cmpZ_eq, (cmpZ_r _ _).1, (cmpZ_r _ _).2⟩
      clear ez44
      refine x_if_le (tgt := 312) hx hb (by omega) dX9_checked_304 (by decide) (fun c45 => ?_) (fun c45 => ?_)
      · replace c45 := cz_leT gz44 c45
        clear gz44
        refine lv_lload hx hb dX9_checked_312 (lv_at hl 6 rfl) ?_
        refine lv_lconst (v := jL 0) hx hb dX9_checked_314 (by decide) ?_
        refine x_lcmp hx hb (by omega) (by omega) dX9_checked_315 ?_
        obtain ⟨z46, ez46⟩ : ∃ y : Int, y = cmpZ vz 0 := ⟨_, rfl⟩
        rw [← ez46]
        have gz46 : (z46 < 0 ↔ (vz : Int) < 0) ∧ (z46 = 0 ↔ (vz : Int) = 0) ∧ -1 ≤ z46 ∧ z46 ≤ 1 := by rw [ez46]; exact ⟨cmpZ_lt, cmpZ_eq, (cmpZ_r _ _).1, (cmpZ_r _ _).2⟩
        clear ez46
        refine x_if_ge (tgt := 323) hx hb (by omega) dX9_checked_316 (by decide) (fun c47 => ?_) (fun c47 => ?_)
        · replace c47 := cz_geT gz46 c47
          clear gz46
          refine lv_iconst (v := jI 0) hx hb dX9_checked_323 rfl ?_
          rw [hQ9]
          refine ret_i (mc := 0) (ms := 0) hx hb hr hlocks hw hS (by first | exact Nat.le_of_ble_eq_true rfl | omega) (by first | exact Nat.le_of_ble_eq_true rfl | omega) dX9_checked_324 ?_
          exact ⟨rfl, by omega, (by unfold ckM; rw [ckF_3 (by (try delta Hid at *); omega) (by (try delta Hid at *); omega)]; rw [← hvv]; (repeat' split) <;> omega)⟩
        · replace c47 := cz_geF gz46 c47
          clear gz46
          refine lv_iconst (v := jI 3) hx hb dX9_checked_319 rfl ?_
          refine lv_goto (tgt := 324) hx hb dX9_checked_320 (by decide) ?_
          rw [hQ9]
          refine ret_i (mc := 0) (ms := 0) hx hb hr hlocks hw hS (by first | exact Nat.le_of_ble_eq_true rfl | omega) (by first | exact Nat.le_of_ble_eq_true rfl | omega) dX9_checked_324 ?_
          exact ⟨rfl, by omega, (by unfold ckM; rw [ckF_3 (by (try delta Hid at *); omega) (by (try delta Hid at *); omega)]; rw [← hvv]; (repeat' split) <;> omega)⟩
      · replace c45 := cz_leF gz44 c45
        clear gz44
        refine lv_bipush (v := jI 6) hx hb dX9_checked_307 (by decide) ?_
        refine lv_goto (tgt := 324) hx hb dX9_checked_309 (by decide) ?_
        rw [hQ9]
        refine ret_i (mc := 0) (ms := 0) hx hb hr hlocks hw hS (by first | exact Nat.le_of_ble_eq_true rfl | omega) (by first | exact Nat.le_of_ble_eq_true rfl | omega) dX9_checked_324 ?_
        exact ⟨rfl, by omega, (by unfold ckM; rw [ckF_3 (by (try delta Hid at *); omega) (by (try delta Hid at *); omega)]; rw [← hvv]; (repeat' split) <;> omega)⟩
    have c48 : (X 50 0 cq) = 4 := by omega
    refine lv_tableIn (off := 177) (tgt := 325) hx hb dX9_checked_148 (by rw [tc4]; omega) (by rw [tc4]; omega) (by rw [tc4, c48]; rfl) (by decide) ?_
    refine lv_lload hx hb dX9_checked_325 (lv_at hl 6 rfl) ?_
    refine lv_aload_n hx hb dX9_checked_327 rfl (lv_at hl 0 rfl) ?_
    refine x_geto hx hb hf9 hw (by first | exact Int.le_refl 0 | omega) (by first | exact zlt hc40 | omega) sl_40_12 lk42 dX9_checked_328 ?_
    refine lv_iload_n hx hb dX9_checked_331 rfl (lv_at hl 2 rfl) ?_
    refine x_lald hx hb hK.1 hw (by first | exact Int.le_refl 0 | omega) (by first | exact zlt hc53 | omega) ar_53 (len_E ar_53 (by first | exact Nat.ne_of_beq_eq_false rfl | decide)) (by omega) (by omega) (by omega) dX9_checked_332 ?_
    have f49 : (-9223372036854775808) ≤ X 53 0 cq ∧ X 53 0 cq ≤ 9223372036854775807 := hR 53 0 cq
    refine x_lcmp hx hb (by omega) (by omega) dX9_checked_333 ?_
    obtain ⟨z50, ez50⟩ : ∃ y : Int, y = cmpZ vz (X 53 0 cq) := ⟨_, rfl⟩
    rw [← ez50]
    have gz50 : (z50 < 0 ↔ (vz : Int) < (X 53 0 cq)) ∧ (z50 = 0 ↔ (vz : Int) = (X 53 0 cq)) ∧ -1 ≤ z50 ∧ z50 ≤ 1 := by rw [ez50]; exact ⟨cmpZ_lt, cmpZ_eq, (cmpZ_r _ _).1, (cmpZ_r _ _).2⟩
    clear ez50
    refine x_if_ge (tgt := 342) hx hb (by omega) dX9_checked_334 (by decide) (fun c51 => ?_) (fun c51 => ?_)
    · replace c51 := cz_geT gz50 c51
      clear gz50
      refine lv_iconst (v := jI 0) hx hb dX9_checked_342 rfl ?_
      rw [hQ9]
      refine ret_i (mc := 0) (ms := 0) hx hb hr hlocks hw hS (by first | exact Nat.le_of_ble_eq_true rfl | omega) (by first | exact Nat.le_of_ble_eq_true rfl | omega) dX9_checked_343 ?_
      exact ⟨rfl, by omega, (by unfold ckM; rw [ckF_4 (by (try delta Hid at *); omega) (by (try delta Hid at *); omega)]; rw [← hvv]; (repeat' split) <;> omega)⟩
    · replace c51 := cz_geF gz50 c51
      clear gz50
      refine lv_bipush (v := jI 6) hx hb dX9_checked_337 (by decide) ?_
      refine lv_goto (tgt := 343) hx hb dX9_checked_339 (by decide) ?_
      rw [hQ9]
      refine ret_i (mc := 0) (ms := 0) hx hb hr hlocks hw hS (by first | exact Nat.le_of_ble_eq_true rfl | omega) (by first | exact Nat.le_of_ble_eq_true rfl | omega) dX9_checked_343 ?_
      exact ⟨rfl, by omega, (by unfold ckM; rw [ckF_4 (by (try delta Hid at *); omega) (by (try delta Hid at *); omega)]; rw [← hvv]; (repeat' split) <;> omega)⟩
  have lp101 : ∀  (H : Heap) (locs : List Loc) (ls : Array Slot), ((((X 51 0 cq) < X 44 0 (X 55 0 x) ∧ ((X 50 0 cq) = 2 → 3 ≤ X 46 0 (5 * X 55 0 x + (X 51 0 cq))) ∧ (((X 50 0 cq) = 1 ∨ (X 50 0 cq) = 5) → X 46 0 (5 * X 55 0 x + (X 51 0 cq)) = 2) ∧ (((X 50 0 cq) = 0 ∨ (X 50 0 cq) = 3 ∨ (X 50 0 cq) = 4) → X 46 0 (5 * X 55 0 x + (X 51 0 cq)) = 0)) ∧ (((X 50 0 cq) = 0 ∨ (X 50 0 cq) = 2) → (X 52 0 cq) < X 44 0 (X 55 0 x) ∧ X 46 0 (5 * X 55 0 x + (X 52 0 cq)) = 0))) → wd D tc base (ad, cnt, X, Y, ln) H → va_S (frA base) s.heap H locs → lv_has ls 13 [(0, .ref (ad 40 0)), (1, .int (jI x)), (2, .int (jI cq)), (3, .int (jI (X 50 0 cq))), (4, .int (jI (X 51 0 cq))), (5, .int (jI (X 52 0 cq)))] → W p l e ({ frames := 2, cells := 0, slots := 0, locals := 46 } : Room) s m av9 below meth c H locs 0 0 Q9 (F0 m 101 ls []) := by
    intro  H locs ls hfi hw hS hl
    refine lv_aload_n hx hb dX9_checked_101 rfl (lv_at hl 0 rfl) ?_
    refine x_geto hx hb hf9 hw (by first | exact Int.le_refl 0 | omega) (by first | exact zlt hc40 | omega) sl_40_15 lk48 dX9_checked_102 ?_
    refine lv_iconst (v := jI 5) hx hb dX9_checked_105 rfl ?_
    refine lv_iload_n hx hb dX9_checked_106 rfl (lv_at hl 1 rfl) ?_
    refine x_imul hx hb dX9_checked_107 ?_
    refine lv_iload hx hb dX9_checked_108 (lv_at hl 4 rfl) ?_
    refine x_iadd hx hb dX9_checked_110 ?_
    obtain ⟨hy1, hy2, hy3⟩ := hMI.1 x (X 51 0 cq) (by omega) (by omega) (by omega) (by omega)
    refine x_lald hx hb hK.1 hw (by first | exact Int.le_refl 0 | omega) (by first | exact zlt hc56 | omega) ar_56 (len_E ar_56 (by first | exact Nat.ne_of_beq_eq_false rfl | decide)) (by omega) (by omega) (by omega) dX9_checked_111 ?_
    have f52 : (-9223372036854775808) ≤ X 56 0 ((5 * x) + (X 51 0 cq)) ∧ X 56 0 ((5 * x) + (X 51 0 cq)) ≤ 9223372036854775807 := hR 56 0 ((5 * x) + (X 51 0 cq))
    refine lv_lstore (lv' := [(7, .long (jL (X 56 0 ((5 * x) + (X 51 0 cq))))), (0, .ref (ad 40 0)), (1, .int (jI x)), (2, .int (jI cq)), (3, .int (jI (X 50 0 cq))), (4, .int (jI (X 51 0 cq))), (5, .int (jI (X 52 0 cq)))]) hx hb dX9_checked_112 hl (by decide) rfl (fun ls hl => ?_)
    refine lv_iload hx hb dX9_checked_114 (lv_at hl 6 rfl) ?_
    refine lv_aload_n hx hb dX9_checked_116 rfl (lv_at hl 1 rfl) ?_
    refine x_geto hx hb hf9 hw (by first | exact Int.le_refl 0 | omega) (by first | exact zlt hc40 | omega) sl_40_3 lk13 dX9_checked_117 ?_
    refine lv_aload_n hx hb dX9_checked_120 rfl (lv_at hl 1 rfl) ?_
    refine x_geto hx hb hf9 hw (by first | exact Int.le_refl 0 | omega) (by first | exact zlt hc40 | omega) sl_40_14 lk45 dX9_checked_121 ?_
    refine lv_iload_n hx hb dX9_checked_124 rfl (lv_at hl 2 rfl) ?_
    refine x_iald hx hb hK.1 hw (by first | exact Int.le_refl 0 | omega) (by first | exact zlt hc55 | omega) ar_55 (len_E ar_55 (by first | exact Nat.ne_of_beq_eq_false rfl | decide)) (by omega) (by omega) (by omega) dX9_checked_125 ?_
    have f53 : 0 ≤ X 55 0 x ∧ X 55 0 x ≤ 7 := hR 55 0 x
    refine x_iald hx hb hK.1 hw (by first | exact Int.le_refl 0 | omega) (by first | exact zlt hc44 | omega) ar_44 (len_E ar_44 (by first | exact Nat.ne_of_beq_eq_false rfl | decide)) (by omega) (by omega) (by omega) dX9_checked_126 ?_
    have f54 : 0 ≤ X 44 0 (X 55 0 x) ∧ X 44 0 (X 55 0 x) ≤ 5 := hR 44 0 (X 55 0 x)
    refine x_icmp_ge (tgt := 144) hx hb (by omega) (by omega) dX9_checked_127 (by decide) (fun c55 => ?_) (fun c55 => ?_)
    · refine lv_lconst (v := jL 0) hx hb dX9_checked_144 (by decide) ?_
      refine lv_lstore (lv' := [(9, .long (jL 0)), (7, .long (jL (X 56 0 ((5 * x) + (X 51 0 cq))))), (0, .ref (ad 40 0)), (1, .int (jI x)), (2, .int (jI cq)), (3, .int (jI (X 50 0 cq))), (4, .int (jI (X 51 0 cq))), (5, .int (jI (X 52 0 cq)))]) hx hb dX9_checked_145 hl (by decide) rfl (fun ls hl => ?_)
      exact lp147 (X 56 0 ((5 * x) + (X 51 0 cq))) 0 _ _ _ (by omega) (by omega) (by omega) (by omega) (by omega) (by omega) (by omega) (hfi) hw hS (lv_sub hl [2, 3, 4, 5, 6, 7, 1, 0] rfl)
    · refine lv_aload_n hx hb dX9_checked_130 rfl (lv_at hl 1 rfl) ?_
      refine x_geto hx hb hf9 hw (by first | exact Int.le_refl 0 | omega) (by first | exact zlt hc40 | omega) sl_40_15 lk48 dX9_checked_131 ?_
      refine lv_iconst (v := jI 5) hx hb dX9_checked_134 rfl ?_
      refine lv_iload_n hx hb dX9_checked_135 rfl (lv_at hl 2 rfl) ?_
      refine x_imul hx hb dX9_checked_136 ?_
      refine lv_iload hx hb dX9_checked_137 (lv_at hl 6 rfl) ?_
      refine x_iadd hx hb dX9_checked_139 ?_
      refine x_lald hx hb hK.1 hw (by first | exact Int.le_refl 0 | omega) (by first | exact zlt hc56 | omega) ar_56 (len_E ar_56 (by first | exact Nat.ne_of_beq_eq_false rfl | decide)) (by omega) (by omega) (by omega) dX9_checked_140 ?_
      have f56 : (-9223372036854775808) ≤ X 56 0 ((5 * x) + (X 52 0 cq)) ∧ X 56 0 ((5 * x) + (X 52 0 cq)) ≤ 9223372036854775807 := hR 56 0 ((5 * x) + (X 52 0 cq))
      refine lv_goto (tgt := 145) hx hb dX9_checked_141 (by decide) ?_
      refine lv_lstore (lv' := [(9, .long (jL (X 56 0 ((5 * x) + (X 52 0 cq))))), (7, .long (jL (X 56 0 ((5 * x) + (X 51 0 cq))))), (0, .ref (ad 40 0)), (1, .int (jI x)), (2, .int (jI cq)), (3, .int (jI (X 50 0 cq))), (4, .int (jI (X 51 0 cq))), (5, .int (jI (X 52 0 cq)))]) hx hb dX9_checked_145 hl (by decide) rfl (fun ls hl => ?_)
      exact lp147 (X 56 0 ((5 * x) + (X 51 0 cq))) (X 56 0 ((5 * x) + (X 52 0 cq))) _ _ _ (by omega) (by omega) (by omega) (by omega) (by omega) (by omega) (by omega) (hfi) hw hS (lv_sub hl [2, 3, 4, 5, 6, 7, 1, 0] rfl)
  have lp73 : ∀ (fz : Int) (H : Heap) (locs : List Loc) (ls : Array Slot), (0 ≤ fz ∧ fz ≤ 1) → ((fz = 1 → ((X 51 0 cq) < X 44 0 (X 55 0 x) ∧ ((X 50 0 cq) = 2 → 3 ≤ X 46 0 (5 * X 55 0 x + (X 51 0 cq))) ∧ (((X 50 0 cq) = 1 ∨ (X 50 0 cq) = 5) → X 46 0 (5 * X 55 0 x + (X 51 0 cq)) = 2) ∧ (((X 50 0 cq) = 0 ∨ (X 50 0 cq) = 3 ∨ (X 50 0 cq) = 4) → X 46 0 (5 * X 55 0 x + (X 51 0 cq)) = 0))) ∧ (fz = 0 → ¬ ((X 51 0 cq) < X 44 0 (X 55 0 x) ∧ ((X 50 0 cq) = 2 → 3 ≤ X 46 0 (5 * X 55 0 x + (X 51 0 cq))) ∧ (((X 50 0 cq) = 1 ∨ (X 50 0 cq) = 5) → X 46 0 (5 * X 55 0 x + (X 51 0 cq)) = 2) ∧ (((X 50 0 cq) = 0 ∨ (X 50 0 cq) = 3 ∨ (X 50 0 cq) = 4) → X 46 0 (5 * X 55 0 x + (X 51 0 cq)) = 0)))) → wd D tc base (ad, cnt, X, Y, ln) H → va_S (frA base) s.heap H locs → lv_has ls 13 [(0, .ref (ad 40 0)), (1, .int (jI x)), (2, .int (jI cq)), (3, .int (jI (X 50 0 cq))), (4, .int (jI (X 51 0 cq))), (5, .int (jI (X 52 0 cq))), (6, .int (jI fz))] → W p l e ({ frames := 2, cells := 0, slots := 0, locals := 46 } : Room) s m av9 below meth c H locs 0 0 Q9 (F0 m 73 ls []) := by
    intro fz H locs ls hfz hfi hw hS hl
    refine lv_iload hx hb dX9_checked_73 (lv_at hl 6 rfl) ?_
    refine x_if_eq (tgt := 99) hx hb (by omega) dX9_checked_75 (by decide) (fun c57 => ?_) (fun c57 => ?_)
    · refine lv_iconst (v := jI 4) hx hb dX9_checked_99 rfl ?_
      rw [hQ9]
      refine ret_i (mc := 0) (ms := 0) hx hb hr hlocks hw hS (by first | exact Nat.le_of_ble_eq_true rfl | omega) (by first | exact Nat.le_of_ble_eq_true rfl | omega) dX9_checked_100 ?_
      exact ⟨rfl, by omega, (by unfold ckM; rw [ckF_c ⟨by omega, by omega⟩ (by (try delta Hid at *); omega)])⟩
    · refine lv_iload_n hx hb dX9_checked_78 rfl (lv_at hl 3 rfl) ?_
      refine x_if_eq (tgt := 87) hx hb (by omega) dX9_checked_79 (by decide) (fun c58 => ?_) (fun c58 => ?_)
      · refine lv_aload_n hx hb dX9_checked_87 rfl (lv_at hl 0 rfl) ?_
        refine lv_iload_n hx hb dX9_checked_88 rfl (lv_at hl 1 rfl) ?_
        refine lv_iload hx hb dX9_checked_89 (lv_at hl 5 rfl) ?_
        refine lv_iconst (v := jI 0) hx hb dX9_checked_91 rfl ?_
        refine lv_iconst (v := jI 0) hx hb dX9_checked_92 rfl ?_
        refine gos_i (run_V (As := [.int (jI x), .int (jI (X 52 0 cq)), .int (jI 0), .int (jI 0)]) (rest := []) hx hb hml hown hts (c_X9_isLane l D tc base ad cnt X Y ln hR hFx x (X 52 0 cq) 0 0 (by omega) (by omega) (by omega) (by omega)) (cwV 4 hts gX9_checked_X9_isLane rfl rfl rfl (by first | exact hd_X9_isLane | decide +kernel) ⟨Nat.le_of_ble_eq_true rfl, Nat.le_of_ble_eq_true rfl⟩) hK hw (by first | exact Int.le_refl 0 | omega) (by first | exact zlt hc40 | omega) sl_40_0 rfl rfl hl.1 rfl (Nat.le_of_ble_eq_true rfl) dX9_checked_93 ⟨Nat.le_of_ble_eq_true rfl, Nat.le_of_ble_eq_true rfl⟩) hS (fun z59 u60 H locs p61 hw hS => ?_)
        obtain ⟨eu60, p61⟩ := p61
        subst eu60
        rcases p61 with ⟨ez59, p61⟩ | ⟨ez59, p61⟩
        · subst ez59
          refine x_if_neT (tgt := 101) hx hb (by omega) (by decide) dX9_checked_96 (by decide) ?_
          exact lp101  _ _ _ ((by (try delta Hid at *); omega)) hw hS (lv_sub hl [0, 1, 2, 3, 4, 5] rfl)
        · subst ez59
          refine x_if_neF (tgt := 101) hx hb (by omega) (by decide) dX9_checked_96 (by decide) ?_
          refine lv_iconst (v := jI 4) hx hb dX9_checked_99 rfl ?_
          rw [hQ9]
          refine ret_i (mc := 0) (ms := 0) hx hb hr hlocks hw hS (by first | exact Nat.le_of_ble_eq_true rfl | omega) (by first | exact Nat.le_of_ble_eq_true rfl | omega) dX9_checked_100 ?_
          exact ⟨rfl, by omega, (by unfold ckM; rw [ckF_c ⟨by omega, by omega⟩ (by (try delta Hid at *); omega)])⟩
      · refine lv_iload_n hx hb dX9_checked_82 rfl (lv_at hl 3 rfl) ?_
        refine lv_iconst (v := jI 2) hx hb dX9_checked_83 rfl ?_
        refine x_icmp_ne (tgt := 101) hx hb (by omega) (by omega) dX9_checked_84 (by decide) (fun c62 => ?_) (fun c62 => ?_)
        · exact lp101  _ _ _ ((by (try delta Hid at *); omega)) hw hS (lv_sub hl [0, 1, 2, 3, 4, 5] rfl)
        · refine lv_aload_n hx hb dX9_checked_87 rfl (lv_at hl 0 rfl) ?_
          refine lv_iload_n hx hb dX9_checked_88 rfl (lv_at hl 1 rfl) ?_
          refine lv_iload hx hb dX9_checked_89 (lv_at hl 5 rfl) ?_
          refine lv_iconst (v := jI 0) hx hb dX9_checked_91 rfl ?_
          refine lv_iconst (v := jI 0) hx hb dX9_checked_92 rfl ?_
          refine gos_i (run_V (As := [.int (jI x), .int (jI (X 52 0 cq)), .int (jI 0), .int (jI 0)]) (rest := []) hx hb hml hown hts (c_X9_isLane l D tc base ad cnt X Y ln hR hFx x (X 52 0 cq) 0 0 (by omega) (by omega) (by omega) (by omega)) (cwV 4 hts gX9_checked_X9_isLane rfl rfl rfl (by first | exact hd_X9_isLane | decide +kernel) ⟨Nat.le_of_ble_eq_true rfl, Nat.le_of_ble_eq_true rfl⟩) hK hw (by first | exact Int.le_refl 0 | omega) (by first | exact zlt hc40 | omega) sl_40_0 rfl rfl hl.1 rfl (Nat.le_of_ble_eq_true rfl) dX9_checked_93 ⟨Nat.le_of_ble_eq_true rfl, Nat.le_of_ble_eq_true rfl⟩) hS (fun z63 u64 H locs p65 hw hS => ?_)
          obtain ⟨eu64, p65⟩ := p65
          subst eu64
          rcases p65 with ⟨ez63, p65⟩ | ⟨ez63, p65⟩
          · subst ez63
            refine x_if_neT (tgt := 101) hx hb (by omega) (by decide) dX9_checked_96 (by decide) ?_
            exact lp101  _ _ _ ((by (try delta Hid at *); omega)) hw hS (lv_sub hl [0, 1, 2, 3, 4, 5] rfl)
          · subst ez63
            refine x_if_neF (tgt := 101) hx hb (by omega) (by decide) dX9_checked_96 (by decide) ?_
            refine lv_iconst (v := jI 4) hx hb dX9_checked_99 rfl ?_
            rw [hQ9]
            refine ret_i (mc := 0) (ms := 0) hx hb hr hlocks hw hS (by first | exact Nat.le_of_ble_eq_true rfl | omega) (by first | exact Nat.le_of_ble_eq_true rfl | omega) dX9_checked_100 ?_
            exact ⟨rfl, by omega, (by unfold ckM; rw [ckF_c ⟨by omega, by omega⟩ (by (try delta Hid at *); omega)])⟩
  refine lv_iload_n hx hb dX9_checked_23 rfl (lv_at hl 2 rfl) ?_
  refine lv_iconst (v := jI 2) hx hb dX9_checked_24 rfl ?_
  refine x_icmp_ne (tgt := 40) hx hb (by omega) (by omega) dX9_checked_25 (by decide) (fun c66 => ?_) (fun c66 => ?_)
  · refine lv_iload_n hx hb dX9_checked_40 rfl (lv_at hl 2 rfl) ?_
    refine lv_iconst (v := jI 1) hx hb dX9_checked_41 rfl ?_
    refine x_icmp_eq (tgt := 50) hx hb (by omega) (by omega) dX9_checked_42 (by decide) (fun c67 => ?_) (fun c67 => ?_)
    · refine lv_aload_n hx hb dX9_checked_50 rfl (lv_at hl 3 rfl) ?_
      refine lv_iload_n hx hb dX9_checked_51 rfl (lv_at hl 4 rfl) ?_
      refine lv_iload hx hb dX9_checked_52 (lv_at hl 1 rfl) ?_
      refine lv_iconst (v := jI 2) hx hb dX9_checked_54 rfl ?_
      refine lv_iconst (v := jI 2) hx hb dX9_checked_55 rfl ?_
      refine gos_i (run_V (As := [.int (jI x), .int (jI (X 51 0 cq)), .int (jI 2), .int (jI 2)]) (rest := []) hx hb hml hown hts (c_X9_isLane l D tc base ad cnt X Y ln hR hFx x (X 51 0 cq) 2 2 (by omega) (by omega) (by omega) (by omega)) (cwV 4 hts gX9_checked_X9_isLane rfl rfl rfl (by first | exact hd_X9_isLane | decide +kernel) ⟨Nat.le_of_ble_eq_true rfl, Nat.le_of_ble_eq_true rfl⟩) hK hw (by first | exact Int.le_refl 0 | omega) (by first | exact zlt hc40 | omega) sl_40_0 rfl rfl hl.1 rfl (Nat.le_of_ble_eq_true rfl) dX9_checked_56 ⟨Nat.le_of_ble_eq_true rfl, Nat.le_of_ble_eq_true rfl⟩) hS (fun z68 u69 H locs p70 hw hS => ?_)
      obtain ⟨eu69, p70⟩ := p70
      subst eu69
      rcases p70 with ⟨ez68, p70⟩ | ⟨ez68, p70⟩
      · subst ez68
        refine lv_goto (tgt := 71) hx hb dX9_checked_59 (by decide) ?_
        refine lv_istore (lv' := [(6, .int (jI 1)), (5, .int (jI (X 52 0 cq))), (4, .int (jI (X 51 0 cq))), (3, .int (jI (X 50 0 cq))), (0, .ref (ad 40 0)), (1, .int (jI x)), (2, .int (jI cq))]) hx hb dX9_checked_71 hl (by decide) rfl (fun ls hl => ?_)
        exact lp73 1 _ _ _ (by omega) ((by (try delta Hid at *); omega)) hw hS (lv_sub hl [4, 5, 6, 3, 2, 1, 0] rfl)
      · subst ez68
        refine lv_goto (tgt := 71) hx hb dX9_checked_59 (by decide) ?_
        refine lv_istore (lv' := [(6, .int (jI 0)), (5, .int (jI (X 52 0 cq))), (4, .int (jI (X 51 0 cq))), (3, .int (jI (X 50 0 cq))), (0, .ref (ad 40 0)), (1, .int (jI x)), (2, .int (jI cq))]) hx hb dX9_checked_71 hl (by decide) rfl (fun ls hl => ?_)
        exact lp73 0 _ _ _ (by omega) ((by (try delta Hid at *); omega)) hw hS (lv_sub hl [4, 5, 6, 3, 2, 1, 0] rfl)
    · refine lv_iload_n hx hb dX9_checked_45 rfl (lv_at hl 2 rfl) ?_
      refine lv_iconst (v := jI 5) hx hb dX9_checked_46 rfl ?_
      refine x_icmp_ne (tgt := 62) hx hb (by omega) (by omega) dX9_checked_47 (by decide) (fun c71 => ?_) (fun c71 => ?_)
      · refine lv_aload_n hx hb dX9_checked_62 rfl (lv_at hl 3 rfl) ?_
        refine lv_iload_n hx hb dX9_checked_63 rfl (lv_at hl 4 rfl) ?_
        refine lv_iload hx hb dX9_checked_64 (lv_at hl 1 rfl) ?_
        refine lv_iconst (v := jI 0) hx hb dX9_checked_66 rfl ?_
        refine lv_iconst (v := jI 0) hx hb dX9_checked_67 rfl ?_
        refine gos_i (run_V (As := [.int (jI x), .int (jI (X 51 0 cq)), .int (jI 0), .int (jI 0)]) (rest := []) hx hb hml hown hts (c_X9_isLane l D tc base ad cnt X Y ln hR hFx x (X 51 0 cq) 0 0 (by omega) (by omega) (by omega) (by omega)) (cwV 4 hts gX9_checked_X9_isLane rfl rfl rfl (by first | exact hd_X9_isLane | decide +kernel) ⟨Nat.le_of_ble_eq_true rfl, Nat.le_of_ble_eq_true rfl⟩) hK hw (by first | exact Int.le_refl 0 | omega) (by first | exact zlt hc40 | omega) sl_40_0 rfl rfl hl.1 rfl (Nat.le_of_ble_eq_true rfl) dX9_checked_68 ⟨Nat.le_of_ble_eq_true rfl, Nat.le_of_ble_eq_true rfl⟩) hS (fun z72 u73 H locs p74 hw hS => ?_)
        obtain ⟨eu73, p74⟩ := p74
        subst eu73
        rcases p74 with ⟨ez72, p74⟩ | ⟨ez72, p74⟩
        · subst ez72
          refine lv_istore (lv' := [(6, .int (jI 1)), (5, .int (jI (X 52 0 cq))), (4, .int (jI (X 51 0 cq))), (3, .int (jI (X 50 0 cq))), (0, .ref (ad 40 0)), (1, .int (jI x)), (2, .int (jI cq))]) hx hb dX9_checked_71 hl (by decide) rfl (fun ls hl => ?_)
          exact lp73 1 _ _ _ (by omega) ((by (try delta Hid at *); omega)) hw hS (lv_sub hl [4, 5, 6, 3, 2, 1, 0] rfl)
        · subst ez72
          refine lv_istore (lv' := [(6, .int (jI 0)), (5, .int (jI (X 52 0 cq))), (4, .int (jI (X 51 0 cq))), (3, .int (jI (X 50 0 cq))), (0, .ref (ad 40 0)), (1, .int (jI x)), (2, .int (jI cq))]) hx hb dX9_checked_71 hl (by decide) rfl (fun ls hl => ?_)
          exact lp73 0 _ _ _ (by omega) ((by (try delta Hid at *); omega)) hw hS (lv_sub hl [4, 5, 6, 3, 2, 1, 0] rfl)
      · refine lv_aload_n hx hb dX9_checked_50 rfl (lv_at hl 3 rfl) ?_
        refine lv_iload_n hx hb dX9_checked_51 rfl (lv_at hl 4 rfl) ?_
        refine lv_iload hx hb dX9_checked_52 (lv_at hl 1 rfl) ?_
        refine lv_iconst (v := jI 2) hx hb dX9_checked_54 rfl ?_
        refine lv_iconst (v := jI 2) hx hb dX9_checked_55 rfl ?_
        refine gos_i (run_V (As := [.int (jI x), .int (jI (X 51 0 cq)), .int (jI 2), .int (jI 2)]) (rest := []) hx hb hml hown hts (c_X9_isLane l D tc base ad cnt X Y ln hR hFx x (X 51 0 cq) 2 2 (by omega) (by omega) (by omega) (by omega)) (cwV 4 hts gX9_checked_X9_isLane rfl rfl rfl (by first | exact hd_X9_isLane | decide +kernel) ⟨Nat.le_of_ble_eq_true rfl, Nat.le_of_ble_eq_true rfl⟩) hK hw (by first | exact Int.le_refl 0 | omega) (by first | exact zlt hc40 | omega) sl_40_0 rfl rfl hl.1 rfl (Nat.le_of_ble_eq_true rfl) dX9_checked_56 ⟨Nat.le_of_ble_eq_true rfl, Nat.le_of_ble_eq_true rfl⟩) hS (fun z75 u76 H locs p77 hw hS => ?_)
        obtain ⟨eu76, p77⟩ := p77
        subst eu76
        rcases p77 with ⟨ez75, p77⟩ | ⟨ez75, p77⟩
        · subst ez75
          refine lv_goto (tgt := 71) hx hb dX9_checked_59 (by decide) ?_
          refine lv_istore (lv' := [(6, .int (jI 1)), (5, .int (jI (X 52 0 cq))), (4, .int (jI (X 51 0 cq))), (3, .int (jI (X 50 0 cq))), (0, .ref (ad 40 0)), (1, .int (jI x)), (2, .int (jI cq))]) hx hb dX9_checked_71 hl (by decide) rfl (fun ls hl => ?_)
          exact lp73 1 _ _ _ (by omega) ((by (try delta Hid at *); omega)) hw hS (lv_sub hl [4, 5, 6, 3, 2, 1, 0] rfl)
        · subst ez75
          refine lv_goto (tgt := 71) hx hb dX9_checked_59 (by decide) ?_
          refine lv_istore (lv' := [(6, .int (jI 0)), (5, .int (jI (X 52 0 cq))), (4, .int (jI (X 51 0 cq))), (3, .int (jI (X 50 0 cq))), (0, .ref (ad 40 0)), (1, .int (jI x)), (2, .int (jI cq))]) hx hb dX9_checked_71 hl (by decide) rfl (fun ls hl => ?_)
          exact lp73 0 _ _ _ (by omega) ((by (try delta Hid at *); omega)) hw hS (lv_sub hl [4, 5, 6, 3, 2, 1, 0] rfl)
  · refine lv_aload_n hx hb dX9_checked_28 rfl (lv_at hl 3 rfl) ?_
    refine lv_iload_n hx hb dX9_checked_29 rfl (lv_at hl 4 rfl) ?_
    refine lv_iload hx hb dX9_checked_30 (lv_at hl 1 rfl) ?_
    refine lv_iconst (v := jI 3) hx hb dX9_checked_32 rfl ?_
    refine lv_iconst (v := jI 5) hx hb dX9_checked_33 rfl ?_
    refine gos_i (run_V (As := [.int (jI x), .int (jI (X 51 0 cq)), .int (jI 3), .int (jI 5)]) (rest := []) hx hb hml hown hts (c_X9_isLane l D tc base ad cnt X Y ln hR hFx x (X 51 0 cq) 3 5 (by omega) (by omega) (by omega) (by omega)) (cwV 4 hts gX9_checked_X9_isLane rfl rfl rfl (by first | exact hd_X9_isLane | decide +kernel) ⟨Nat.le_of_ble_eq_true rfl, Nat.le_of_ble_eq_true rfl⟩) hK hw (by first | exact Int.le_refl 0 | omega) (by first | exact zlt hc40 | omega) sl_40_0 rfl rfl hl.1 rfl (Nat.le_of_ble_eq_true rfl) dX9_checked_34 ⟨Nat.le_of_ble_eq_true rfl, Nat.le_of_ble_eq_true rfl⟩) hS (fun z78 u79 H locs p80 hw hS => ?_)
    obtain ⟨eu79, p80⟩ := p80
    subst eu79
    rcases p80 with ⟨ez78, p80⟩ | ⟨ez78, p80⟩
    · subst ez78
      refine lv_goto (tgt := 71) hx hb dX9_checked_37 (by decide) ?_
      refine lv_istore (lv' := [(6, .int (jI 1)), (5, .int (jI (X 52 0 cq))), (4, .int (jI (X 51 0 cq))), (3, .int (jI (X 50 0 cq))), (0, .ref (ad 40 0)), (1, .int (jI x)), (2, .int (jI cq))]) hx hb dX9_checked_71 hl (by decide) rfl (fun ls hl => ?_)
      exact lp73 1 _ _ _ (by omega) ((by (try delta Hid at *); omega)) hw hS (lv_sub hl [4, 5, 6, 3, 2, 1, 0] rfl)
    · subst ez78
      refine lv_goto (tgt := 71) hx hb dX9_checked_37 (by decide) ?_
      refine lv_istore (lv' := [(6, .int (jI 0)), (5, .int (jI (X 52 0 cq))), (4, .int (jI (X 51 0 cq))), (3, .int (jI (X 50 0 cq))), (0, .ref (ad 40 0)), (1, .int (jI x)), (2, .int (jI cq))]) hx hb dX9_checked_71 hl (by decide) rfl (fun ls hl => ?_)
      exact lp73 0 _ _ _ (by omega) ((by (try delta Hid at *); omega)) hw hS (lv_sub hl [4, 5, 6, 3, 2, 1, 0] rfl)

set_option maxHeartbeats 4000000 in
set_option maxRecDepth 100000 in
theorem c_X9_judged (l : Launch) (D : va_G) (tc : Nat → ClassId) (base : Nat) (ad : Nat → Int → Nat) (cnt : Nat → Int) (X : Nat → Int → Int → Int) (Y : Nat → Int → Int → Option Int) (ln : Int → Int) (hR : Rng X) (hFx : Fx cnt) (hMI : MInv X) (x : Int) (hx0 : 0 ≤ x ∧ x ≤ 29) (hxt : x < X 40 0 13) : KI l D tc base yX9_judged wsX9_judged ({ frames := 3, cells := 0, slots := 0, locals := 78 } : Room) [.ref (ad 40 0), .int (jI x)] (ad, cnt, X, Y, ln) 0 0 (fun z u => ∃ X1 : Nat → Int → Int → Int, u = (ad, cnt, X1, Y, ln) ∧ Rng X1 ∧ Frm [4029] X X1 ∧ MInv X1 ∧ (0 ≤ z ∧ z ≤ 10) ∧ jdM X x z) := by
  refine K_of (cc := cX9_judged) (maxL := 5) (ret := (some .int)) (by decide) rfl (Nat.le_of_ble_eq_true rfl) ?_
  intro p e s m below meth c ls hx hb hr hml hown hts hlocks hl hK hw hS
  have hown : s.vm.findClass RX9 = some m.cls := hown
  obtain ⟨av9, hav9⟩ : ∃ a9 : Array Value, a9 = ([.ref (ad 40 0), .int (jI x)] : List Value).toArray := ⟨_, rfl⟩
  rw [← hav9] at hts ⊢
  obtain ⟨Q9, hQ9⟩ : ∃ q9Q : State → Prop, q9Q = MQ below (QI D tc base (fun z u => ∃ X1 : Nat → Int → Int → Int, u = (ad, cnt, X1, Y, ln) ∧ Rng X1 ∧ Frm [4029] X X1 ∧ MInv X1 ∧ (0 ≤ z ∧ z ≤ 10) ∧ jdM X x z)) av9 s 0 0 (frA base) := ⟨_, rfl⟩
  rw [← hQ9]
  have hi9 : ∀ w ∈ wsX90, w ∈ wsX9_judged := fun w h => List.mem_cons_of_mem _ (List.mem_append_right _ h)
  have hf9 : fctx s m _ RX9 wsX9_judged D tc RX9 TX9 51 9 := ⟨hts, hi9, hown, hK.1, rfl⟩
  have lk30 := hts (.fieldLink RX9 30 (TX9 8).1 (TX9 8).2.1 (TX9 8).2.2.1) (gj_X9_judged_0 _ (gp_1 gp_h))
  have lk45 := hts (.fieldLink RX9 45 (TX9 14).1 (TX9 14).2.1 (TX9 14).2.2.1) (gj_X9_judged_0 _ (gp_h))
  have lk206 := hts (.fieldLink RX9 206 (TX9 28).1 (TX9 28).2.1 (TX9 28).2.2.1) (gj_X9_judged_0 _ (gp_1 (gp_1 gp_h)))
  have hc40 : cnt 40 = 1 := hFx.at 40 1 (by decide)
  have hc49 : cnt 49 = 1 := hFx.at 49 1 (by decide)
  have hc55 : cnt 55 = 1 := hFx.at 55 1 (by decide)
  have hl : lv_has ls 5 [(0, .ref (ad 40 0)), (1, .int (jI x))] := hl
  have fstypes : 0 ≤ X 40 0 2 ∧ X 40 0 2 ≤ 8 := hR 40 0 2
  have fsthings : 0 ≤ X 40 0 13 ∧ X 40 0 13 ≤ 30 := hR 40 0 13
  have fsmarks : 0 ≤ X 40 0 20 ∧ X 40 0 20 ≤ 4 := hR 40 0 20
  have fsnotes : 0 ≤ X 40 0 22 ∧ X 40 0 22 ≤ 80 := hR 40 0 22
  refine lv_aload_n hx hb dX9_judged_0 rfl (lv_at hl 0 rfl) ?_
  refine x_geto hx hb hf9 hw (by first | exact Int.le_refl 0 | omega) (by first | exact zlt hc40 | omega) sl_40_14 lk45 dX9_judged_1 ?_
  refine lv_iload_n hx hb dX9_judged_4 rfl (lv_at hl 1 rfl) ?_
  refine x_iald hx hb hK.1 hw (by first | exact Int.le_refl 0 | omega) (by first | exact zlt hc55 | omega) ar_55 (len_E ar_55 (by first | exact Nat.ne_of_beq_eq_false rfl | decide)) (by omega) (by omega) (by omega) dX9_judged_5 ?_
  have f1 : 0 ≤ X 55 0 x ∧ X 55 0 x ≤ 7 := hR 55 0 x
  refine lv_istore_n (lv' := [(2, .int (jI (X 55 0 x))), (0, .ref (ad 40 0)), (1, .int (jI x))]) hx hb dX9_judged_6 rfl hl (by decide) rfl (fun ls hl => ?_)
  refine lv_iconst (v := jI 0) hx hb dX9_judged_7 rfl ?_
  refine lv_istore_n (lv' := [(3, .int (jI 0)), (2, .int (jI (X 55 0 x))), (0, .ref (ad 40 0)), (1, .int (jI x))]) hx hb dX9_judged_8 rfl hl (by decide) rfl (fun ls hl => ?_)
  have lp9 : ∀ (nn : Nat) (cz : Int) (H : Heap) (locs : List Loc) (ls : Array Slot), (4 - cz) < (nn : Int) → (0 ≤ cz ∧ cz ≤ 4) → (∀ c', 0 ≤ c' → c' < cz → ckM X x (4 * X 55 0 x + c') = 0) → wd D tc base (ad, cnt, X, Y, ln) H → va_S (frA base) s.heap H locs → lv_has ls 5 [(0, .ref (ad 40 0)), (1, .int (jI x)), (2, .int (jI (X 55 0 x))), (3, .int (jI cz))] → W p l e ({ frames := 3, cells := 0, slots := 0, locals := 78 } : Room) s m av9 below meth c H locs 0 0 Q9 (F0 m 9 ls []) := by
    intro nn
    induction nn with
    | zero => intro cz H locs ls hm hcz hcl hw hS hl; exfalso; omega
    | succ nn ih9 =>
      intro cz H locs ls hm hcz hcl hw hS hl
      refine lv_iload_n hx hb dX9_judged_9 rfl (lv_at hl 3 rfl) ?_
      refine lv_aload_n hx hb dX9_judged_10 rfl (lv_at hl 0 rfl) ?_
      refine x_geto hx hb hf9 hw (by first | exact Int.le_refl 0 | omega) (by first | exact zlt hc40 | omega) sl_40_8 lk30 dX9_judged_11 ?_
      refine lv_iload_n hx hb dX9_judged_14 rfl (lv_at hl 2 rfl) ?_
      refine x_iald hx hb hK.1 hw (by first | exact Int.le_refl 0 | omega) (by first | exact zlt hc49 | omega) ar_49 (len_E ar_49 (by first | exact Nat.ne_of_beq_eq_false rfl | decide)) (by omega) (by omega) (by omega) dX9_judged_15 ?_
      have f2 : 0 ≤ X 49 0 (X 55 0 x) ∧ X 49 0 (X 55 0 x) ≤ 4 := hR 49 0 (X 55 0 x)
      refine x_icmp_ge (tgt := 50) hx hb (by omega) (by omega) dX9_judged_16 (by decide) (fun c3 => ?_) (fun c3 => ?_)
      · refine lv_iconst (v := jI 0) hx hb dX9_judged_50 rfl ?_
        rw [hQ9]
        refine ret_i (mc := 0) (ms := 0) hx hb hr hlocks hw hS (by first | exact Nat.le_of_ble_eq_true rfl | omega) (by first | exact Nat.le_of_ble_eq_true rfl | omega) dX9_judged_51 ?_
        exact ⟨X, rfl, hR, Frm.rf, hMI, by omega, Or.inl ⟨by omega, fun c a b => hcl c a (by omega)⟩⟩
      · refine lv_aload_n hx hb dX9_judged_19 rfl (lv_at hl 0 rfl) ?_
        refine lv_iload_n hx hb dX9_judged_20 rfl (lv_at hl 1 rfl) ?_
        refine lv_iconst (v := jI 4) hx hb dX9_judged_21 rfl ?_
        refine lv_iload_n hx hb dX9_judged_22 rfl (lv_at hl 2 rfl) ?_
        refine x_imul hx hb dX9_judged_23 ?_
        refine lv_iload_n hx hb dX9_judged_24 rfl (lv_at hl 3 rfl) ?_
        refine x_iadd hx hb dX9_judged_25 ?_
        refine gos_i (run_V (As := [.int (jI x), .int (jI ((4 * (X 55 0 x)) + cz))]) (rest := []) hx hb hml hown hts (c_X9_checked l D tc base ad cnt X Y ln hR hFx hMI x ((4 * (X 55 0 x)) + cz) (by omega) (by omega) (by omega)) (cwV 2 hts gX9_judged_X9_checked rfl rfl rfl (by first | exact hd_X9_checked | decide +kernel) ⟨Nat.le_of_ble_eq_true rfl, Nat.le_of_ble_eq_true rfl⟩) hK hw (by first | exact Int.le_refl 0 | omega) (by first | exact zlt hc40 | omega) sl_40_0 rfl rfl hl.1 rfl (Nat.le_of_ble_eq_true rfl) dX9_judged_26 ⟨Nat.le_of_ble_eq_true rfl, Nat.le_of_ble_eq_true rfl⟩) hS (fun z4 u5 H locs p6 hw hS => ?_)
        obtain ⟨eu5, p6⟩ := p6
        subst eu5
        refine lv_istore (lv' := [(4, .int (jI z4)), (0, .ref (ad 40 0)), (1, .int (jI x)), (2, .int (jI (X 55 0 x))), (3, .int (jI cz))]) hx hb dX9_judged_29 hl (by decide) rfl (fun ls hl => ?_)
        refine lv_iload hx hb dX9_judged_31 (lv_at hl 0 rfl) ?_
        refine x_if_eq (tgt := 44) hx hb (by omega) dX9_judged_33 (by decide) (fun c7 => ?_) (fun c7 => ?_)
        · refine lv_iinc (v := jI (cz + 1)) (lv' := [(3, .int (jI (cz + 1))), (4, .int (jI z4)), (0, .ref (ad 40 0)), (1, .int (jI x)), (2, .int (jI (X 55 0 x)))]) hx hb dX9_judged_44 hl (k := 4) rfl (jI_add _ _) (by decide) rfl (fun ls hl => ?_)
          refine lv_goto (tgt := 9) hx hb dX9_judged_47 (by decide) ?_
          exact ih9 (cz + 1) _ _ _ (by omega) (by omega) (fun c a b => if hc : c = cz then (by rw [hc]; omega) else hcl c a (by omega)) hw hS (lv_sub hl [2, 3, 4, 0] rfl)
        · refine lv_aload_n hx hb dX9_judged_36 rfl (lv_at hl 1 rfl) ?_
          refine lv_iload_n hx hb dX9_judged_37 rfl (lv_at hl 4 rfl) ?_
          refine x_puti (jz := 28) hx hb hf9 ⟨tyX9_ok, nmX9⟩ hw hS (by first | exact Int.le_refl 0 | omega) (by first | exact zlt hc40 | omega) sl_40_28 rfl lk206 rfl (tyX9_ok 28 (by decide)) rfl rfl dX9_judged_38 (fun H locs hw hS => ?_)
          obtain ⟨X8, hX8⟩ : ∃ Xq, Xq = u3 X 40 0 28 cz := ⟨_, rfl⟩
          rw [← hX8] at hw
          have hRX8 : Rng X8 := by rw [hX8]; exact rng_set hR (show 0 ≤ cz ∧ cz ≤ 3 by omega)
          have hVX8 : X8 40 0 28 = cz := by rw [hX8]; exact u3_s _ _ _ _ _
          have hFX8 : Frm [4029] X X8 := by rw [hX8]; exact Frm.set Frm.rf (show 4029 ∈ [4029] by first | exact nlm_in rfl | decide)
          refine lv_iload hx hb dX9_judged_41 (lv_at hl 0 rfl) ?_
          rw [hQ9]
          refine ret_i (mc := 0) (ms := 0) hx hb hr hlocks hw hS (by first | exact Nat.le_of_ble_eq_true rfl | omega) (by first | exact Nat.le_of_ble_eq_true rfl | omega) dX9_judged_43 ?_
          have q10 : Frm [4029] X X8 := by rw [hX8]; exact Frm.set Frm.rf (show 4029 ∈ [4029] by first | exact nlm_in rfl | decide)
          have hMq9 : MInv X8 := minv_frm hMI q10 (by decide)
          exact ⟨X8, rfl, hRX8, hFX8, hMq9, by omega, Or.inr ⟨by omega, cz, by omega, by omega, hcl, by omega⟩⟩
  exact lp9 (4 - 0 : Int).toNat.succ 0 _ _ _ (by omega) (by omega) (fun c a b => by omega) hw hS (lv_sub hl [2, 3, 1, 0] rfl)

set_option maxHeartbeats 4000000 in
set_option maxRecDepth 100000 in
theorem c_X9_judge (l : Launch) (D : va_G) (tc : Nat → ClassId) (base : Nat) (ad : Nat → Int → Nat) (cnt : Nat → Int) (X : Nat → Int → Int → Int) (Y : Nat → Int → Int → Option Int) (ln : Int → Int) (hR : Rng X) (hFx : Fx cnt) (hMI : MInv X) (x : Int) (hx : -2147483648 ≤ x ∧ x ≤ 2147483647) : KI l D tc base yX9_judge wsX9_judge ({ frames := 4, cells := 0, slots := 0, locals := 102 } : Room) [.ref (ad 40 0), .int (jI x)] (ad, cnt, X, Y, ln) 0 0 (fun z u => ∃ X1 : Nat → Int → Int → Int, u = (ad, cnt, X1, Y, ln) ∧ Rng X1 ∧ Frm [4001, 4029] X X1 ∧ MInv X1 ∧ (-2147483648 ≤ z ∧ z ≤ 2147483647) ∧ ((¬ (0 ≤ x ∧ x < X 40 0 13) ∧ z = -1) ∨ ((0 ≤ x ∧ x < X 40 0 13) ∧ ∃ how, jdM X x how ∧ ((how = 0 ∧ z = 1) ∨ (how ≠ 0 ∧ z = -10 - how))))) := by
  refine K_of (cc := cX9_judge) (maxL := 3) (ret := (some .int)) (by decide) rfl (Nat.le_of_ble_eq_true rfl) ?_
  intro p e s m below meth c ls hx hb hr hml hown hts hlocks hl hK hw hS
  have hown : s.vm.findClass RX9 = some m.cls := hown
  obtain ⟨av9, hav9⟩ : ∃ a9 : Array Value, a9 = ([.ref (ad 40 0), .int (jI x)] : List Value).toArray := ⟨_, rfl⟩
  rw [← hav9] at hts ⊢
  obtain ⟨Q9, hQ9⟩ : ∃ q9Q : State → Prop, q9Q = MQ below (QI D tc base (fun z u => ∃ X1 : Nat → Int → Int → Int, u = (ad, cnt, X1, Y, ln) ∧ Rng X1 ∧ Frm [4001, 4029] X X1 ∧ MInv X1 ∧ (-2147483648 ≤ z ∧ z ≤ 2147483647) ∧ ((¬ (0 ≤ x ∧ x < X 40 0 13) ∧ z = -1) ∨ ((0 ≤ x ∧ x < X 40 0 13) ∧ ∃ how, jdM X x how ∧ ((how = 0 ∧ z = 1) ∨ (how ≠ 0 ∧ z = -10 - how)))))) av9 s 0 0 (frA base) := ⟨_, rfl⟩
  rw [← hQ9]
  have hi9 : ∀ w ∈ wsX90, w ∈ wsX9_judge := fun w h => List.mem_cons_of_mem _ (List.mem_append_right _ h)
  have hf9 : fctx s m _ RX9 wsX9_judge D tc RX9 TX9 51 9 := ⟨hts, hi9, hown, hK.1, rfl⟩
  have lk145 := hts (.fieldLink RX9 145 (TX9 0).1 (TX9 0).2.1 (TX9 0).2.2.1) (gj_X9_judge_0 _ (gp_h))
  have hc40 : cnt 40 = 1 := hFx.at 40 1 (by decide)
  have hl : lv_has ls 3 [(0, .ref (ad 40 0)), (1, .int (jI x))] := hl
  have fstypes : 0 ≤ X 40 0 2 ∧ X 40 0 2 ≤ 8 := hR 40 0 2
  have fsthings : 0 ≤ X 40 0 13 ∧ X 40 0 13 ≤ 30 := hR 40 0 13
  have fsmarks : 0 ≤ X 40 0 20 ∧ X 40 0 20 ≤ 4 := hR 40 0 20
  have fsnotes : 0 ≤ X 40 0 22 ∧ X 40 0 22 ≤ 80 := hR 40 0 22
  refine lv_aload_n hx hb dX9_judge_0 rfl (lv_at hl 0 rfl) ?_
  refine lv_iconst (v := jI 0) hx hb dX9_judge_1 rfl ?_
  refine x_puti (jz := 0) hx hb hf9 ⟨tyX9_ok, nmX9⟩ hw hS (by first | exact Int.le_refl 0 | omega) (by first | exact zlt hc40 | omega) sl_40_0 rfl lk145 rfl (tyX9_ok 0 (by decide)) rfl rfl dX9_judge_2 (fun H locs hw hS => ?_)
  obtain ⟨X1, hX1⟩ : ∃ Xq, Xq = u3 X 40 0 0 0 := ⟨_, rfl⟩
  rw [← hX1] at hw
  have hRX1 : Rng X1 := by rw [hX1]; exact rng_set hR (show (-2147483648) ≤ 0 ∧ 0 ≤ 2147483647 by omega)
  have hVX1 : X1 40 0 0 = 0 := by rw [hX1]; exact u3_s _ _ _ _ _
  have hFX1 : Frm [4001, 4029] X X1 := by rw [hX1]; exact Frm.set Frm.rf (show 4001 ∈ [4001, 4029] by first | exact nlm_in rfl | decide)
  refine lv_aload_n hx hb dX9_judge_5 rfl (lv_at hl 0 rfl) ?_
  refine lv_iload_n hx hb dX9_judge_6 rfl (lv_at hl 1 rfl) ?_
  refine gos_i (run_V (As := [.int (jI x)]) (rest := []) hx hb hml hown hts (c_X9_isThing l D tc base ad cnt X1 Y ln hRX1 hFx x (by omega)) (cwV 1 hts gX9_judge_X9_isThing rfl rfl rfl (by first | exact hd_X9_isThing | decide +kernel) ⟨Nat.le_of_ble_eq_true rfl, Nat.le_of_ble_eq_true rfl⟩) hK hw (by first | exact Int.le_refl 0 | omega) (by first | exact zlt hc40 | omega) sl_40_0 rfl rfl hl.1 rfl (Nat.le_of_ble_eq_true rfl) dX9_judge_7 ⟨Nat.le_of_ble_eq_true rfl, Nat.le_of_ble_eq_true rfl⟩) hS (fun z2 u3 H locs p4 hw hS => ?_)
  obtain ⟨eu3, p4⟩ := p4
  subst eu3
  have e5 : X1 40 0 13 = X 40 0 13 := by rw [hX1, u3_j _ _ _ _ (by decide)]
  simp only [e5] at p4
  rcases p4 with ⟨ez2, p4⟩ | ⟨ez2, p4⟩
  · subst ez2
    refine x_if_neT (tgt := 15) hx hb (by omega) (by decide) dX9_judge_10 (by decide) ?_
    refine lv_aload_n hx hb dX9_judge_15 rfl (lv_at hl 0 rfl) ?_
    refine lv_iload_n hx hb dX9_judge_16 rfl (lv_at hl 1 rfl) ?_
    have q7 : Frm [4001] X X1 := by rw [hX1]; exact Frm.set Frm.rf (show 4001 ∈ [4001] by first | exact nlm_in rfl | decide)
    have hMq6 : MInv X1 := minv_frm hMI q7 (by decide)
    have e8 : X1 40 0 13 = X 40 0 13 := by rw [hX1, u3_j _ _ _ _ (by decide)]
    refine gos_i (run_V (As := [.int (jI x)]) (rest := []) hx hb hml hown hts (c_X9_judged l D tc base ad cnt X1 Y ln hRX1 hFx hMq6 x (by omega) (by simp only [e8]; omega)) (cwV 1 hts gX9_judge_X9_judged rfl rfl rfl (by first | exact hd_X9_judged | decide +kernel) ⟨Nat.le_of_ble_eq_true rfl, Nat.le_of_ble_eq_true rfl⟩) hK hw (by first | exact Int.le_refl 0 | omega) (by first | exact zlt hc40 | omega) sl_40_0 rfl rfl hl.1 rfl (Nat.le_of_ble_eq_true rfl) dX9_judge_17 ⟨Nat.le_of_ble_eq_true rfl, Nat.le_of_ble_eq_true rfl⟩) hS (fun z9 u10 H locs p11 hw hS => ?_)
    obtain ⟨X12, eu10, hRX12, hG13, hMIX12, p11, hjdX12⟩ := p11
    subst eu10
    have hFX12 : Frm [4001, 4029] X X12 := Frm.tr hFX1 (Frm.mono hG13 (by first | exact nls_of rfl | decide))
    refine lv_istore_n (lv' := [(2, .int (jI z9)), (0, .ref (ad 40 0)), (1, .int (jI x))]) hx hb dX9_judge_20 rfl hl (by decide) rfl (fun ls hl => ?_)
    refine lv_iload_n hx hb dX9_judge_21 rfl (lv_at hl 0 rfl) ?_
    refine x_if_ne (tgt := 29) hx hb (by omega) dX9_judge_22 (by decide) (fun c14 => ?_) (fun c14 => ?_)
    · refine lv_bipush (v := jI (-10)) hx hb dX9_judge_29 (by decide) ?_
      refine lv_iload_n hx hb dX9_judge_31 rfl (lv_at hl 0 rfl) ?_
      refine x_isub hx hb dX9_judge_32 ?_
      rw [hQ9]
      refine ret_i (mc := 0) (ms := 0) hx hb hr hlocks hw hS (by first | exact Nat.le_of_ble_eq_true rfl | omega) (by first | exact Nat.le_of_ble_eq_true rfl | omega) dX9_judge_33 ?_
      have q15 : Frm [4001] X X1 := by rw [hX1]; exact Frm.set Frm.rf (show 4001 ∈ [4001] by first | exact nlm_in rfl | decide)
      exact ⟨X12, rfl, hRX12, hFX12, hMIX12, by omega, Or.inr ⟨(by (try delta Hid at *); omega), z9, jdM.from hjdX12 q15 (by decide), by omega⟩⟩
    · refine lv_iconst (v := jI 1) hx hb dX9_judge_25 rfl ?_
      refine lv_goto (tgt := 33) hx hb dX9_judge_26 (by decide) ?_
      rw [hQ9]
      refine ret_i (mc := 0) (ms := 0) hx hb hr hlocks hw hS (by first | exact Nat.le_of_ble_eq_true rfl | omega) (by first | exact Nat.le_of_ble_eq_true rfl | omega) dX9_judge_33 ?_
      have q16 : Frm [4001] X X1 := by rw [hX1]; exact Frm.set Frm.rf (show 4001 ∈ [4001] by first | exact nlm_in rfl | decide)
      exact ⟨X12, rfl, hRX12, hFX12, hMIX12, by omega, Or.inr ⟨(by (try delta Hid at *); omega), z9, jdM.from hjdX12 q16 (by decide), by omega⟩⟩
  · subst ez2
    refine x_if_neF (tgt := 15) hx hb (by omega) (by decide) dX9_judge_10 (by decide) ?_
    refine lv_iconst (v := jI (-1)) hx hb dX9_judge_13 rfl ?_
    rw [hQ9]
    refine ret_i (mc := 0) (ms := 0) hx hb hr hlocks hw hS (by first | exact Nat.le_of_ble_eq_true rfl | omega) (by first | exact Nat.le_of_ble_eq_true rfl | omega) dX9_judge_14 ?_
    have q18 : Frm [4001] X X1 := by rw [hX1]; exact Frm.set Frm.rf (show 4001 ∈ [4001] by first | exact nlm_in rfl | decide)
    have hMq17 : MInv X1 := minv_frm hMI q18 (by decide)
    exact ⟨X1, rfl, hRX1, hFX1, hMq17, by omega, Or.inl ⟨(fun q => by (try delta Hid at *); omega), by omega⟩⟩
end
section
set_option maxHeartbeats 4000000 in
set_option maxRecDepth 100000 in
theorem c_X9_recordOf (l : Launch) (D : va_G) (tc : Nat → ClassId) (base : Nat) (ad : Nat → Int → Nat) (cnt : Nat → Int) (X : Nat → Int → Int → Int) (Y : Nat → Int → Int → Option Int) (ln : Int → Int) (hR : Rng X) (hFx : Fx cnt) (hMI : MInv X) (x : Int) (hx0 : 0 ≤ x ∧ x ≤ 29) (hxt : x < X 40 0 13) (hO : ordOK X) (sg : Nat → Int → Int) (hsg : rmT X sg) : KI l D tc base yX9_recordOf wsX9_recordOf ({ frames := 0, cells := 0, slots := 0, locals := 0 } : Room) [.ref (ad 40 0), .int (jI 4), .int (jI x)] (ad, cnt, X, Y, ln) 0 0 (fun z u => ∃ X1 : Nat → Int → Int → Int, u = (ad, cnt, X1, Y, ln) ∧ Rng X1 ∧ Frm [8000, 7000] X X1 ∧ MInv X1 ∧ (0 ≤ z ∧ z < X1 70 0 4 ∧ X1 70 0 4 ≤ 30) ∧ S4 X X1 ∧ ordOK X1 ∧ X 70 0 4 ≤ X1 70 0 4 ∧ z = (if nmAt (sg 1) x (sg 0 0).toNat = -1 then sg 0 0 else nmAt (sg 1) x (sg 0 0).toNat) ∧ rmT X1 (if nmAt (sg 1) x (sg 0 0).toNat = -1 then u2 (u2 sg 1 (sg 0 0) x) 0 0 (sg 0 0 + 1) else sg)) := by
  refine K_of (cc := cX9_recordOf) (maxL := 4) (ret := (some .int)) (by decide) rfl (Nat.le_of_ble_eq_true rfl) ?_
  intro p e s m below meth c ls hx hb hr hml hown hts hlocks hl hK hw hS
  have hown : s.vm.findClass RX9 = some m.cls := hown
  obtain ⟨av9, hav9⟩ : ∃ a9 : Array Value, a9 = ([.ref (ad 40 0), .int (jI 4), .int (jI x)] : List Value).toArray := ⟨_, rfl⟩
  rw [← hav9] at hts ⊢
  obtain ⟨Q9, hQ9⟩ : ∃ q9Q : State → Prop, q9Q = MQ below (QI D tc base (fun z u => ∃ X1 : Nat → Int → Int → Int, u = (ad, cnt, X1, Y, ln) ∧ Rng X1 ∧ Frm [8000, 7000] X X1 ∧ MInv X1 ∧ (0 ≤ z ∧ z < X1 70 0 4 ∧ X1 70 0 4 ≤ 30) ∧ S4 X X1 ∧ ordOK X1 ∧ X 70 0 4 ≤ X1 70 0 4 ∧ z = (if nmAt (sg 1) x (sg 0 0).toNat = -1 then sg 0 0 else nmAt (sg 1) x (sg 0 0).toNat) ∧ rmT X1 (if nmAt (sg 1) x (sg 0 0).toNat = -1 then u2 (u2 sg 1 (sg 0 0) x) 0 0 (sg 0 0 + 1) else sg))) av9 s 0 0 (frA base) := ⟨_, rfl⟩
  rw [← hQ9]
  have hi9 : ∀ w ∈ wsX90, w ∈ wsX9_recordOf := fun w h => List.mem_cons_of_mem _ (List.mem_append_right _ h)
  have hf9 : fctx s m _ RX9 wsX9_recordOf D tc RX9 TX9 51 9 := ⟨hts, hi9, hown, hK.1, rfl⟩
  have lk81 := hts (.fieldLink RX9 81 (TX9 29).1 (TX9 29).2.1 (TX9 29).2.2.1) (gj_X9_recordOf_0 _ (gp_h))
  have lk111 := hts (.fieldLink RX9 111 (TX9 39).1 (TX9 39).2.1 (TX9 39).2.2.1) (gj_X9_recordOf_0 _ (gp_1 gp_h))
  have hc40 : cnt 40 = 1 := hFx.at 40 1 (by decide)
  have hc70 : cnt 70 = 1 := hFx.at 70 1 (by decide)
  have hc80 : cnt 80 = 1 := hFx.at 80 1 (by decide)
  have hl : lv_has ls 4 [(0, .ref (ad 40 0)), (1, .int (jI 4)), (2, .int (jI x))] := hl
  have fstypes : 0 ≤ X 40 0 2 ∧ X 40 0 2 ≤ 8 := hR 40 0 2
  have fsthings : 0 ≤ X 40 0 13 ∧ X 40 0 13 ≤ 30 := hR 40 0 13
  have fsmarks : 0 ≤ X 40 0 20 ∧ X 40 0 20 ≤ 4 := hR 40 0 20
  have fsnotes : 0 ≤ X 40 0 22 ∧ X 40 0 22 ≤ 80 := hR 40 0 22
  have hsg1 : X 70 0 4 = sg 0 0 := hsg.1
  have hsg0 : 0 ≤ X 70 0 4 ∧ X 70 0 4 ≤ 30 := hR 70 0 4
  refine lv_iconst (v := jI 0) hx hb dX9_recordOf_0 rfl ?_
  refine lv_istore_n (lv' := [(3, .int (jI 0)), (0, .ref (ad 40 0)), (1, .int (jI 4)), (2, .int (jI x))]) hx hb dX9_recordOf_1 rfl hl (by decide) rfl (fun ls hl => ?_)
  have lp2 : ∀ (nn : Nat) (r : Int) (H : Heap) (locs : List Loc) (ls : Array Slot), (30 - r) < (nn : Int) → (0 ≤ r ∧ r ≤ 30) → (∀ j, 0 ≤ j → j < r → X 80 0 j ≠ x) → wd D tc base (ad, cnt, X, Y, ln) H → va_S (frA base) s.heap H locs → lv_has ls 4 [(0, .ref (ad 40 0)), (1, .int (jI 4)), (2, .int (jI x)), (3, .int (jI r))] → W p l e ({ frames := 0, cells := 0, slots := 0, locals := 0 } : Room) s m av9 below meth c H locs 0 0 Q9 (F0 m 2 ls []) := by
    intro nn
    induction nn with
    | zero => intro r H locs ls hm hr0 hne hw hS hl; exfalso; omega
    | succ nn ih2 =>
      intro r H locs ls hm hr0 hne hw hS hl
      refine lv_iload_n hx hb dX9_recordOf_2 rfl (lv_at hl 3 rfl) ?_
      refine lv_aload_n hx hb dX9_recordOf_3 rfl (lv_at hl 0 rfl) ?_
      refine x_geto hx hb hf9 hw (by first | exact Int.le_refl 0 | omega) (by first | exact zlt hc40 | omega) sl_40_29 lk81 dX9_recordOf_4 ?_
      refine lv_iload_n hx hb dX9_recordOf_7 rfl (lv_at hl 1 rfl) ?_
      refine x_iald hx hb hK.1 hw (by first | exact Int.le_refl 0 | omega) (by first | exact zlt hc70 | omega) ar_70 (len_E ar_70 (by first | exact Nat.ne_of_beq_eq_false rfl | decide)) (by omega) (by omega) (by omega) dX9_recordOf_8 ?_
      have f1 : 0 ≤ X 70 0 4 ∧ X 70 0 4 ≤ 30 := hR 70 0 4
      refine x_icmp_ge (tgt := 30) hx hb (by omega) (by omega) dX9_recordOf_9 (by decide) (fun c2 => ?_) (fun c2 => ?_)
      · have hO30 := hO.room hR (by omega) hxt (fun j a b => hne j a (by omega))
        refine lv_aload_n hx hb dX9_recordOf_30 rfl (lv_at hl 0 rfl) ?_
        refine x_geto hx hb hf9 hw (by first | exact Int.le_refl 0 | omega) (by first | exact zlt hc40 | omega) sl_40_39 lk111 dX9_recordOf_31 ?_
        refine lv_aload_n hx hb dX9_recordOf_34 rfl (lv_at hl 0 rfl) ?_
        refine x_geto hx hb hf9 hw (by first | exact Int.le_refl 0 | omega) (by first | exact zlt hc40 | omega) sl_40_29 lk81 dX9_recordOf_35 ?_
        refine lv_iload_n hx hb dX9_recordOf_38 rfl (lv_at hl 1 rfl) ?_
        refine x_iald hx hb hK.1 hw (by first | exact Int.le_refl 0 | omega) (by first | exact zlt hc70 | omega) ar_70 (len_E ar_70 (by first | exact Nat.ne_of_beq_eq_false rfl | decide)) (by omega) (by omega) (by omega) dX9_recordOf_39 ?_
        have f3 : 0 ≤ X 70 0 4 ∧ X 70 0 4 ≤ 30 := hR 70 0 4
        refine lv_iload_n hx hb dX9_recordOf_40 rfl (lv_at hl 2 rfl) ?_
        refine x_iast hx hb hK.1 hw hS (by first | exact Int.le_refl 0 | omega) (by first | exact zlt hc80 | omega) ar_80 (len_E ar_80 (by first | exact Nat.ne_of_beq_eq_false rfl | decide)) (by omega) (by omega) (by omega) dX9_recordOf_41 (fun H locs hw hS => ?_)
        obtain ⟨X4, hX4⟩ : ∃ Xq, Xq = u3 X 80 0 (X 70 0 4) x := ⟨_, rfl⟩
        rw [← hX4] at hw
        have hRX4 : Rng X4 := by rw [hX4]; exact rng_set hR (show 0 ≤ x ∧ x ≤ 29 by omega)
        have hVX4 : X4 80 0 (X 70 0 4) = x := by rw [hX4]; exact u3_s _ _ _ _ _
        have hFX4 : Frm [8000, 7000] X X4 := by rw [hX4]; exact Frm.set Frm.rf (show 8000 ∈ [8000, 7000] by first | exact nlm_in rfl | decide)
        refine lv_aload_n hx hb dX9_recordOf_42 rfl (lv_at hl 0 rfl) ?_
        refine x_geto hx hb hf9 hw (by first | exact Int.le_refl 0 | omega) (by first | exact zlt hc40 | omega) sl_40_29 lk81 dX9_recordOf_43 ?_
        refine lv_iload_n hx hb dX9_recordOf_46 rfl (lv_at hl 1 rfl) ?_
        refine lv_dup2_11 hx hb dX9_recordOf_47 rfl rfl ?_
        refine x_iald hx hb hK.1 hw (by first | exact Int.le_refl 0 | omega) (by first | exact zlt hc70 | omega) ar_70 (len_E ar_70 (by first | exact Nat.ne_of_beq_eq_false rfl | decide)) (by omega) (by omega) (by omega) dX9_recordOf_48 ?_
        have e5 : ∀ p9 q9 : Int, X4 70 p9 q9 = X 70 p9 q9 := fun p9 q9 => by rw [hX4, u3_k _ _ _ _ (by first | exact Nat.ne_of_beq_eq_false rfl | decide)]
        rw [e5 0 4]
        have f6 : 0 ≤ X 70 0 4 ∧ X 70 0 4 ≤ 30 := hR 70 0 4
        refine lv_iconst (v := jI 1) hx hb dX9_recordOf_49 rfl ?_
        refine x_iadd hx hb dX9_recordOf_50 ?_
        refine x_iast hx hb hK.1 hw hS (by first | exact Int.le_refl 0 | omega) (by first | exact zlt hc70 | omega) ar_70 (len_E ar_70 (by first | exact Nat.ne_of_beq_eq_false rfl | decide)) (by omega) (by omega) (by omega) dX9_recordOf_51 (fun H locs hw hS => ?_)
        obtain ⟨X7, hX7⟩ : ∃ Xq, Xq = u3 X4 70 0 4 ((X 70 0 4) + 1) := ⟨_, rfl⟩
        rw [← hX7] at hw
        have hRX7 : Rng X7 := by rw [hX7]; exact rng_set hRX4 (show 0 ≤ ((X 70 0 4) + 1) ∧ ((X 70 0 4) + 1) ≤ 30 by omega)
        have hVX7 : X7 70 0 4 = ((X 70 0 4) + 1) := by rw [hX7]; exact u3_s _ _ _ _ _
        have hFX7 : Frm [8000, 7000] X X7 := by rw [hX7]; exact Frm.set hFX4 (show 7000 ∈ [8000, 7000] by first | exact nlm_in rfl | decide)
        refine lv_aload_n hx hb dX9_recordOf_52 rfl (lv_at hl 0 rfl) ?_
        refine x_geto hx hb hf9 hw (by first | exact Int.le_refl 0 | omega) (by first | exact zlt hc40 | omega) sl_40_29 lk81 dX9_recordOf_53 ?_
        refine lv_iload_n hx hb dX9_recordOf_56 rfl (lv_at hl 1 rfl) ?_
        refine x_iald hx hb hK.1 hw (by first | exact Int.le_refl 0 | omega) (by first | exact zlt hc70 | omega) ar_70 (len_E ar_70 (by first | exact Nat.ne_of_beq_eq_false rfl | decide)) (by omega) (by omega) (by omega) dX9_recordOf_57 ?_
        rw [hVX7]
        refine lv_iconst (v := jI 1) hx hb dX9_recordOf_58 rfl ?_
        refine x_isub hx hb dX9_recordOf_59 ?_
        rw [hQ9]
        refine ret_i (mc := 0) (ms := 0) hx hb hr hlocks hw hS (by first | exact Nat.le_of_ble_eq_true rfl | omega) (by first | exact Nat.le_of_ble_eq_true rfl | omega) dX9_recordOf_60 ?_
        have q8 : S4 X X4 := by rw [hX4]; exact S4.set S4.rf ⟨by first | exact fun h => absurd h (Nat.ne_of_beq_eq_false rfl) | omega, by first | exact fun h => absurd h (Nat.ne_of_beq_eq_false rfl) | omega, by first | exact fun h => absurd h (Nat.ne_of_beq_eq_false rfl) | omega, by first | exact fun h => absurd h (Nat.ne_of_beq_eq_false rfl) | omega, by first | exact fun h => absurd h (Nat.ne_of_beq_eq_false rfl) | omega⟩
        have q9 : S4 X X7 := by rw [hX7]; exact S4.set q8 ⟨by first | exact fun h => absurd h (Nat.ne_of_beq_eq_false rfl) | omega, by first | exact fun h => absurd h (Nat.ne_of_beq_eq_false rfl) | omega, by first | exact fun h => absurd h (Nat.ne_of_beq_eq_false rfl) | omega, by first | exact fun h => absurd h (Nat.ne_of_beq_eq_false rfl) | omega, by first | exact fun h => absurd h (Nat.ne_of_beq_eq_false rfl) | omega⟩
        have q10 : S4 X X4 := by rw [hX4]; exact S4.set S4.rf ⟨by first | exact fun h => absurd h (Nat.ne_of_beq_eq_false rfl) | omega, by first | exact fun h => absurd h (Nat.ne_of_beq_eq_false rfl) | omega, by first | exact fun h => absurd h (Nat.ne_of_beq_eq_false rfl) | omega, by first | exact fun h => absurd h (Nat.ne_of_beq_eq_false rfl) | omega, by first | exact fun h => absurd h (Nat.ne_of_beq_eq_false rfl) | omega⟩
        have q11 : S4 X X7 := by rw [hX7]; exact S4.set q10 ⟨by first | exact fun h => absurd h (Nat.ne_of_beq_eq_false rfl) | omega, by first | exact fun h => absurd h (Nat.ne_of_beq_eq_false rfl) | omega, by first | exact fun h => absurd h (Nat.ne_of_beq_eq_false rfl) | omega, by first | exact fun h => absurd h (Nat.ne_of_beq_eq_false rfl) | omega, by first | exact fun h => absurd h (Nat.ne_of_beq_eq_false rfl) | omega⟩
        have hm12 : nmAt (sg 1) x (sg 0 0).toNat = -1 := nmAt_no (fun j a b => by rw [← hsg.2 j a (by omega)]; exact hne j a (by omega)) (by omega)
        exact ⟨X7, rfl, hRX7, hFX7, minv_s4 hMI hRX7 hFX7 q9 (by decide), by omega, q11, ordOK.push hO hxt (fun j a b => hne j a (by omega)) hX4 hX7, (by rw [hX7, u3_s]; omega), (by rw [hm12, if_pos rfl]; omega), (by rw [hm12, if_pos rfl]; exact rmT.push hsg (by omega) (by rw [hX7, u3_s]) (by rw [hX7, u3_k _ _ _ _ (by first | exact Nat.ne_of_beq_eq_false rfl | decide), hX4, u3_s]) (fun j hj => by rw [hX7, u3_k _ _ _ _ (by first | exact Nat.ne_of_beq_eq_false rfl | decide), hX4, u3_j _ _ _ _ hj]))⟩
      · refine lv_aload_n hx hb dX9_recordOf_12 rfl (lv_at hl 0 rfl) ?_
        refine x_geto hx hb hf9 hw (by first | exact Int.le_refl 0 | omega) (by first | exact zlt hc40 | omega) sl_40_39 lk111 dX9_recordOf_13 ?_
        refine lv_iload_n hx hb dX9_recordOf_16 rfl (lv_at hl 3 rfl) ?_
        refine x_iald hx hb hK.1 hw (by first | exact Int.le_refl 0 | omega) (by first | exact zlt hc80 | omega) ar_80 (len_E ar_80 (by first | exact Nat.ne_of_beq_eq_false rfl | decide)) (by omega) (by omega) (by omega) dX9_recordOf_17 ?_
        have f13 : 0 ≤ X 80 0 r ∧ X 80 0 r ≤ 29 := hR 80 0 r
        refine lv_iload_n hx hb dX9_recordOf_18 rfl (lv_at hl 2 rfl) ?_
        refine x_icmp_ne (tgt := 24) hx hb (by omega) (by omega) dX9_recordOf_19 (by decide) (fun c14 => ?_) (fun c14 => ?_)
        · refine lv_iinc (v := jI (r + 1)) (lv' := [(3, .int (jI (r + 1))), (0, .ref (ad 40 0)), (1, .int (jI 4)), (2, .int (jI x))]) hx hb dX9_recordOf_24 hl (k := 3) rfl (jI_add _ _) (by decide) rfl (fun ls hl => ?_)
          refine lv_goto (tgt := 2) hx hb dX9_recordOf_27 (by decide) ?_
          exact ih2 (r + 1) _ _ _ (by omega) (by omega) (fun j a b => if hj : j = r then (by rw [hj]; omega) else hne j a (by omega)) hw hS (lv_sub hl [1, 2, 3, 0] rfl)
        · refine lv_iload_n hx hb dX9_recordOf_22 rfl (lv_at hl 3 rfl) ?_
          rw [hQ9]
          refine ret_i (mc := 0) (ms := 0) hx hb hr hlocks hw hS (by first | exact Nat.le_of_ble_eq_true rfl | omega) (by first | exact Nat.le_of_ble_eq_true rfl | omega) dX9_recordOf_23 ?_
          have hm15 : nmAt (sg 1) x (sg 0 0).toNat = r := nmAt_yes (fun j a b => by rw [← hsg.2 j a (by omega)]; exact hne j a b) ⟨by omega, by omega⟩ (by rw [← hsg.2 r (by omega) (by omega)]; omega)
          exact ⟨X, rfl, hR, Frm.rf, hMI, by omega, S4.rf, hO, Int.le_refl _, (by rw [hm15, if_neg (by omega)]), (by rw [hm15, if_neg (by omega)]; exact hsg)⟩
  exact lp2 (30 - 0 : Int).toNat.succ 0 _ _ _ (by omega) (by omega) (fun j a b => by omega) hw hS (lv_sub hl [1, 2, 3, 0] rfl)

set_option maxHeartbeats 4000000 in
set_option maxRecDepth 100000 in
theorem c_X9_rowOf (l : Launch) (D : va_G) (tc : Nat → ClassId) (base : Nat) (ad : Nat → Int → Nat) (cnt : Nat → Int) (X : Nat → Int → Int → Int) (Y : Nat → Int → Int → Option Int) (ln : Int → Int) (hR : Rng X) (hFx : Fx cnt) (hMI : MInv X) (row : Int) (hrow : 0 ≤ row ∧ row ≤ 399) (hsr : X 76 0 4 ≤ 149) (sg : Nat → Int → Int) (hsg : rmR X sg) (yy kk : Int) (hrw : row = mRid X yy kk) : KI l D tc base yX9_rowOf wsX9_rowOf ({ frames := 0, cells := 0, slots := 0, locals := 0 } : Room) [.ref (ad 40 0), .int (jI 4), .int (jI row)] (ad, cnt, X, Y, ln) 0 0 (fun z u => ∃ X1 : Nat → Int → Int → Int, u = (ad, cnt, X1, Y, ln) ∧ Rng X1 ∧ Frm [8100, 7700, 7800, 7900, 7600] X X1 ∧ MInv X1 ∧ (0 ≤ z ∧ z ≤ 149) ∧ X1 76 0 4 ≤ X 76 0 4 + 1 ∧ z = (if nmAt (fun q => mRid X (sg 3 q) (sg 4 q)) row (sg 2 0).toNat = -1 then sg 2 0 else nmAt (fun q => mRid X (sg 3 q) (sg 4 q)) row (sg 2 0).toNat) ∧ rmR X1 (if nmAt (fun q => mRid X (sg 3 q) (sg 4 q)) row (sg 2 0).toNat = -1 then u2 (u2 (u2 sg 3 (sg 2 0) yy) 4 (sg 2 0) kk) 2 0 (sg 2 0 + 1) else sg) ∧ S5 X X1) := by
  refine K_of (cc := cX9_rowOf) (maxL := 5) (ret := (some .int)) (by decide) rfl (Nat.le_of_ble_eq_true rfl) ?_
  intro p e s m below meth c ls hx hb hr hml hown hts hlocks hl hK hw hS
  have hown : s.vm.findClass RX9 = some m.cls := hown
  obtain ⟨av9, hav9⟩ : ∃ a9 : Array Value, a9 = ([.ref (ad 40 0), .int (jI 4), .int (jI row)] : List Value).toArray := ⟨_, rfl⟩
  rw [← hav9] at hts ⊢
  obtain ⟨Q9, hQ9⟩ : ∃ q9Q : State → Prop, q9Q = MQ below (QI D tc base (fun z u => ∃ X1 : Nat → Int → Int → Int, u = (ad, cnt, X1, Y, ln) ∧ Rng X1 ∧ Frm [8100, 7700, 7800, 7900, 7600] X X1 ∧ MInv X1 ∧ (0 ≤ z ∧ z ≤ 149) ∧ X1 76 0 4 ≤ X 76 0 4 + 1 ∧ z = (if nmAt (fun q => mRid X (sg 3 q) (sg 4 q)) row (sg 2 0).toNat = -1 then sg 2 0 else nmAt (fun q => mRid X (sg 3 q) (sg 4 q)) row (sg 2 0).toNat) ∧ rmR X1 (if nmAt (fun q => mRid X (sg 3 q) (sg 4 q)) row (sg 2 0).toNat = -1 then u2 (u2 (u2 sg 3 (sg 2 0) yy) 4 (sg 2 0) kk) 2 0 (sg 2 0 + 1) else sg) ∧ S5 X X1)) av9 s 0 0 (frA base) := ⟨_, rfl⟩
  rw [← hQ9]
  have hi9 : ∀ w ∈ wsX90, w ∈ wsX9_rowOf := fun w h => List.mem_cons_of_mem _ (List.mem_append_right _ h)
  have hf9 : fctx s m _ RX9 wsX9_rowOf D tc RX9 TX9 51 9 := ⟨hts, hi9, hown, hK.1, rfl⟩
  have lk51 := hts (.fieldLink RX9 51 (TX9 16).1 (TX9 16).2.1 (TX9 16).2.2.1) (gj_X9_rowOf_0 _ (gp_1 (gp_1 (gp_1 gp_h))))
  have lk54 := hts (.fieldLink RX9 54 (TX9 17).1 (TX9 17).2.1 (TX9 17).2.2.1) (gj_X9_rowOf_0 _ (gp_4 (gp_1 gp_h)))
  have lk57 := hts (.fieldLink RX9 57 (TX9 18).1 (TX9 18).2.1 (TX9 18).2.2.1) (gj_X9_rowOf_0 _ (gp_4 (gp_1 (gp_1 (gp_1 gp_h)))))
  have lk99 := hts (.fieldLink RX9 99 (TX9 35).1 (TX9 35).2.1 (TX9 35).2.2.1) (gj_X9_rowOf_0 _ (gp_h))
  have lk102 := hts (.fieldLink RX9 102 (TX9 36).1 (TX9 36).2.1 (TX9 36).2.2.1) (gj_X9_rowOf_0 _ (gp_1 (gp_1 gp_h)))
  have lk105 := hts (.fieldLink RX9 105 (TX9 37).1 (TX9 37).2.1 (TX9 37).2.2.1) (gj_X9_rowOf_0 _ (gp_4 gp_h))
  have lk108 := hts (.fieldLink RX9 108 (TX9 38).1 (TX9 38).2.1 (TX9 38).2.2.1) (gj_X9_rowOf_0 _ (gp_4 (gp_1 (gp_1 gp_h))))
  have lk114 := hts (.fieldLink RX9 114 (TX9 40).1 (TX9 40).2.1 (TX9 40).2.2.1) (gj_X9_rowOf_0 _ (gp_1 gp_h))
  have hc40 : cnt 40 = 1 := hFx.at 40 1 (by decide)
  have hc57 : cnt 57 = 1 := hFx.at 57 1 (by decide)
  have hc58 : cnt 58 = 1 := hFx.at 58 1 (by decide)
  have hc59 : cnt 59 = 1 := hFx.at 59 1 (by decide)
  have hc76 : cnt 76 = 1 := hFx.at 76 1 (by decide)
  have hc77 : cnt 77 = 1 := hFx.at 77 1 (by decide)
  have hc78 : cnt 78 = 1 := hFx.at 78 1 (by decide)
  have hc79 : cnt 79 = 1 := hFx.at 79 1 (by decide)
  have hc81 : cnt 81 = 1 := hFx.at 81 1 (by decide)
  have hl : lv_has ls 5 [(0, .ref (ad 40 0)), (1, .int (jI 4)), (2, .int (jI row))] := hl
  have fstypes : 0 ≤ X 40 0 2 ∧ X 40 0 2 ≤ 8 := hR 40 0 2
  have fsthings : 0 ≤ X 40 0 13 ∧ X 40 0 13 ≤ 30 := hR 40 0 13
  have fsmarks : 0 ≤ X 40 0 20 ∧ X 40 0 20 ≤ 4 := hR 40 0 20
  have fsnotes : 0 ≤ X 40 0 22 ∧ X 40 0 22 ≤ 80 := hR 40 0 22
  have hsg1 : X 76 0 4 = sg 2 0 := hsg.1
  have hsg0 : 0 ≤ X 76 0 4 ∧ X 76 0 4 ≤ 150 := hR 76 0 4
  refine lv_iconst (v := jI 0) hx hb dX9_rowOf_0 rfl ?_
  refine lv_istore_n (lv' := [(3, .int (jI 0)), (0, .ref (ad 40 0)), (1, .int (jI 4)), (2, .int (jI row))]) hx hb dX9_rowOf_1 rfl hl (by decide) rfl (fun ls hl => ?_)
  have lp2 : ∀ (nn : Nat) (r : Int) (H : Heap) (locs : List Loc) (ls : Array Slot), (150 - r) < (nn : Int) → (0 ≤ r ∧ r ≤ 150) → (∀ j, 0 ≤ j → j < r → X 81 0 j ≠ row) → wd D tc base (ad, cnt, X, Y, ln) H → va_S (frA base) s.heap H locs → lv_has ls 5 [(0, .ref (ad 40 0)), (1, .int (jI 4)), (2, .int (jI row)), (3, .int (jI r))] → W p l e ({ frames := 0, cells := 0, slots := 0, locals := 0 } : Room) s m av9 below meth c H locs 0 0 Q9 (F0 m 2 ls []) := by
    intro nn
    induction nn with
    | zero => intro r H locs ls hm hr0 hne hw hS hl; exfalso; omega
    | succ nn ih2 =>
      intro r H locs ls hm hr0 hne hw hS hl
      refine lv_iload_n hx hb dX9_rowOf_2 rfl (lv_at hl 3 rfl) ?_
      refine lv_aload_n hx hb dX9_rowOf_3 rfl (lv_at hl 0 rfl) ?_
      refine x_geto hx hb hf9 hw (by first | exact Int.le_refl 0 | omega) (by first | exact zlt hc40 | omega) sl_40_35 lk99 dX9_rowOf_4 ?_
      refine lv_iload_n hx hb dX9_rowOf_7 rfl (lv_at hl 1 rfl) ?_
      refine x_iald hx hb hK.1 hw (by first | exact Int.le_refl 0 | omega) (by first | exact zlt hc76 | omega) ar_76 (len_E ar_76 (by first | exact Nat.ne_of_beq_eq_false rfl | decide)) (by omega) (by omega) (by omega) dX9_rowOf_8 ?_
      have f1 : 0 ≤ X 76 0 4 ∧ X 76 0 4 ≤ 150 := hR 76 0 4
      refine x_icmp_ge (tgt := 30) hx hb (by omega) (by omega) dX9_rowOf_9 (by decide) (fun c2 => ?_) (fun c2 => ?_)
      · refine lv_aload_n hx hb dX9_rowOf_30 rfl (lv_at hl 0 rfl) ?_
        refine x_geto hx hb hf9 hw (by first | exact Int.le_refl 0 | omega) (by first | exact zlt hc40 | omega) sl_40_35 lk99 dX9_rowOf_31 ?_
        refine lv_iload_n hx hb dX9_rowOf_34 rfl (lv_at hl 1 rfl) ?_
        refine x_iald hx hb hK.1 hw (by first | exact Int.le_refl 0 | omega) (by first | exact zlt hc76 | omega) ar_76 (len_E ar_76 (by first | exact Nat.ne_of_beq_eq_false rfl | decide)) (by omega) (by omega) (by omega) dX9_rowOf_35 ?_
        have f3 : 0 ≤ X 76 0 4 ∧ X 76 0 4 ≤ 150 := hR 76 0 4
        refine lv_istore_n (lv' := [(3, .int (jI (X 76 0 4))), (0, .ref (ad 40 0)), (1, .int (jI 4)), (2, .int (jI row))]) hx hb dX9_rowOf_36 rfl hl (by decide) rfl (fun ls hl => ?_)
        refine lv_aload_n hx hb dX9_rowOf_37 rfl (lv_at hl 1 rfl) ?_
        refine x_geto hx hb hf9 hw (by first | exact Int.le_refl 0 | omega) (by first | exact zlt hc40 | omega) sl_40_40 lk114 dX9_rowOf_38 ?_
        refine lv_iload_n hx hb dX9_rowOf_41 rfl (lv_at hl 0 rfl) ?_
        refine lv_iload_n hx hb dX9_rowOf_42 rfl (lv_at hl 3 rfl) ?_
        refine x_iast hx hb hK.1 hw hS (by first | exact Int.le_refl 0 | omega) (by first | exact zlt hc81 | omega) ar_81 (len_E ar_81 (by first | exact Nat.ne_of_beq_eq_false rfl | decide)) (by omega) (by omega) (by omega) dX9_rowOf_43 (fun H locs hw hS => ?_)
        obtain ⟨X4, hX4⟩ : ∃ Xq, Xq = u3 X 81 0 (X 76 0 4) row := ⟨_, rfl⟩
        rw [← hX4] at hw
        have hRX4 : Rng X4 := by rw [hX4]; exact rng_set hR (show 0 ≤ row ∧ row ≤ 399 by omega)
        have hVX4 : X4 81 0 (X 76 0 4) = row := by rw [hX4]; exact u3_s _ _ _ _ _
        have hFX4 : Frm [8100, 7700, 7800, 7900, 7600] X X4 := by rw [hX4]; exact Frm.set Frm.rf (show 8100 ∈ [8100, 7700, 7800, 7900, 7600] by first | exact nlm_in rfl | decide)
        refine lv_aload_n hx hb dX9_rowOf_44 rfl (lv_at hl 1 rfl) ?_
        refine x_geto hx hb hf9 hw (by first | exact Int.le_refl 0 | omega) (by first | exact zlt hc40 | omega) sl_40_36 lk102 dX9_rowOf_45 ?_
        refine lv_sipush (v := jI 150) hx hb dX9_rowOf_48 (by decide) ?_
        refine lv_iload_n hx hb dX9_rowOf_51 rfl (lv_at hl 2 rfl) ?_
        refine x_imul hx hb dX9_rowOf_52 ?_
        refine lv_iload_n hx hb dX9_rowOf_53 rfl (lv_at hl 0 rfl) ?_
        refine x_iadd hx hb dX9_rowOf_54 ?_
        refine lv_aload_n hx hb dX9_rowOf_55 rfl (lv_at hl 1 rfl) ?_
        refine x_geto hx hb hf9 hw (by first | exact Int.le_refl 0 | omega) (by first | exact zlt hc40 | omega) sl_40_16 lk51 dX9_rowOf_56 ?_
        refine lv_iload_n hx hb dX9_rowOf_59 rfl (lv_at hl 3 rfl) ?_
        refine x_iald hx hb hK.1 hw (by first | exact Int.le_refl 0 | omega) (by first | exact zlt hc57 | omega) ar_57 (len_E ar_57 (by first | exact Nat.ne_of_beq_eq_false rfl | decide)) (by omega) (by omega) (by omega) dX9_rowOf_60 ?_
        have e5 : ∀ p9 q9 : Int, X4 57 p9 q9 = X 57 p9 q9 := fun p9 q9 => by rw [hX4, u3_k _ _ _ _ (by first | exact Nat.ne_of_beq_eq_false rfl | decide)]
        rw [e5 0 row]
        have f6 : 0 ≤ X 57 0 row ∧ X 57 0 row ≤ 5 := hR 57 0 row
        refine x_iast hx hb hK.1 hw hS (by first | exact Int.le_refl 0 | omega) (by first | exact zlt hc77 | omega) ar_77 (len_E ar_77 (by first | exact Nat.ne_of_beq_eq_false rfl | decide)) (by omega) (by omega) (by omega) dX9_rowOf_61 (fun H locs hw hS => ?_)
        obtain ⟨X7, hX7⟩ : ∃ Xq, Xq = u3 X4 77 0 ((150 * 4) + (X 76 0 4)) (X 57 0 row) := ⟨_, rfl⟩
        rw [← hX7] at hw
        have hRX7 : Rng X7 := by rw [hX7]; exact rng_set hRX4 (show 0 ≤ (X 57 0 row) ∧ (X 57 0 row) ≤ 5 by omega)
        have hVX7 : X7 77 0 ((150 * 4) + (X 76 0 4)) = (X 57 0 row) := by rw [hX7]; exact u3_s _ _ _ _ _
        have hFX7 : Frm [8100, 7700, 7800, 7900, 7600] X X7 := by rw [hX7]; exact Frm.set hFX4 (show 7700 ∈ [8100, 7700, 7800, 7900, 7600] by first | exact nlm_in rfl | decide)
        refine lv_aload_n hx hb dX9_rowOf_62 rfl (lv_at hl 1 rfl) ?_
        refine x_geto hx hb hf9 hw (by first | exact Int.le_refl 0 | omega) (by first | exact zlt hc40 | omega) sl_40_37 lk105 dX9_rowOf_63 ?_
        refine lv_sipush (v := jI 150) hx hb dX9_rowOf_66 (by decide) ?_
        refine lv_iload_n hx hb dX9_rowOf_69 rfl (lv_at hl 2 rfl) ?_
        refine x_imul hx hb dX9_rowOf_70 ?_
        refine lv_iload_n hx hb dX9_rowOf_71 rfl (lv_at hl 0 rfl) ?_
        refine x_iadd hx hb dX9_rowOf_72 ?_
        refine lv_aload_n hx hb dX9_rowOf_73 rfl (lv_at hl 1 rfl) ?_
        refine x_geto hx hb hf9 hw (by first | exact Int.le_refl 0 | omega) (by first | exact zlt hc40 | omega) sl_40_17 lk54 dX9_rowOf_74 ?_
        refine lv_iload_n hx hb dX9_rowOf_77 rfl (lv_at hl 3 rfl) ?_
        refine x_iald hx hb hK.1 hw (by first | exact Int.le_refl 0 | omega) (by first | exact zlt hc58 | omega) ar_58 (len_E ar_58 (by first | exact Nat.ne_of_beq_eq_false rfl | decide)) (by omega) (by omega) (by omega) dX9_rowOf_78 ?_
        have e8 : ∀ p9 q9 : Int, X7 58 p9 q9 = X 58 p9 q9 := fun p9 q9 => by rw [hX7, u3_k _ _ _ _ (by first | exact Nat.ne_of_beq_eq_false rfl | decide), hX4, u3_k _ _ _ _ (by first | exact Nat.ne_of_beq_eq_false rfl | decide)]
        rw [e8 0 row]
        have f9 : 0 ≤ X 58 0 row ∧ X 58 0 row ≤ 12 := hR 58 0 row
        refine x_iast hx hb hK.1 hw hS (by first | exact Int.le_refl 0 | omega) (by first | exact zlt hc78 | omega) ar_78 (len_E ar_78 (by first | exact Nat.ne_of_beq_eq_false rfl | decide)) (by omega) (by omega) (by omega) dX9_rowOf_79 (fun H locs hw hS => ?_)
        obtain ⟨X10, hX10⟩ : ∃ Xq, Xq = u3 X7 78 0 ((150 * 4) + (X 76 0 4)) (X 58 0 row) := ⟨_, rfl⟩
        rw [← hX10] at hw
        have hRX10 : Rng X10 := by rw [hX10]; exact rng_set hRX7 (show 0 ≤ (X 58 0 row) ∧ (X 58 0 row) ≤ 12 by omega)
        have hVX10 : X10 78 0 ((150 * 4) + (X 76 0 4)) = (X 58 0 row) := by rw [hX10]; exact u3_s _ _ _ _ _
        have hFX10 : Frm [8100, 7700, 7800, 7900, 7600] X X10 := by rw [hX10]; exact Frm.set hFX7 (show 7800 ∈ [8100, 7700, 7800, 7900, 7600] by first | exact nlm_in rfl | decide)
        refine lv_iconst (v := jI 0) hx hb dX9_rowOf_80 rfl ?_
        refine lv_istore (lv' := [(4, .int (jI 0)), (3, .int (jI (X 76 0 4))), (0, .ref (ad 40 0)), (1, .int (jI 4)), (2, .int (jI row))]) hx hb dX9_rowOf_81 hl (by decide) rfl (fun ls hl => ?_)
        have lp83 : ∀ (nn : Nat) (k : Int) (Xa : Nat → Int → Int → Int) (H : Heap) (locs : List Loc) (ls : Array Slot), (12 - k) < (nn : Int) → (Rng Xa) → (Frm [7900] X10 Xa) → (0 ≤ k ∧ k ≤ 12) → (∀ j, 0 ≤ j → j < k → Xa 79 0 (12 * (600 + X 76 0 4) + j) = X 59 0 (12 * row + j)) → (∀ j, j < 12 * (600 + X 76 0 4) → Xa 79 0 j = X 79 0 j) → (S5 X10 Xa) → wd D tc base (ad, cnt, Xa, Y, ln) H → va_S (frA base) s.heap H locs → lv_has ls 5 [(0, .ref (ad 40 0)), (1, .int (jI 4)), (2, .int (jI row)), (3, .int (jI (X 76 0 4))), (4, .int (jI k))] → W p l e ({ frames := 0, cells := 0, slots := 0, locals := 0 } : Room) s m av9 below meth c H locs 0 0 Q9 (F0 m 83 ls []) := by
          intro nn
          induction nn with
          | zero => intro k Xa H locs ls hm hRXa hGXa hk hcp hcl9 h5Xa hw hS hl; exfalso; omega
          | succ nn ih83 =>
            intro k Xa H locs ls hm hRXa hGXa hk hcp hcl9 h5Xa hw hS hl
            have hFXa : Frm [8100, 7700, 7800, 7900, 7600] X Xa := Frm.tr hFX10 (Frm.mono hGXa (by first | exact nls_of rfl | decide))
            refine lv_iload hx hb dX9_rowOf_83 (lv_at hl 4 rfl) ?_
            refine lv_bipush (v := jI 12) hx hb dX9_rowOf_85 (by decide) ?_
            refine x_icmp_ge (tgt := 126) hx hb (by omega) (by omega) dX9_rowOf_87 (by decide) (fun c11 => ?_) (fun c11 => ?_)
            · refine lv_aload_n hx hb dX9_rowOf_126 rfl (lv_at hl 0 rfl) ?_
              refine x_geto hx hb hf9 hw (by first | exact Int.le_refl 0 | omega) (by first | exact zlt hc40 | omega) sl_40_35 lk99 dX9_rowOf_127 ?_
              refine lv_iload_n hx hb dX9_rowOf_130 rfl (lv_at hl 1 rfl) ?_
              refine lv_dup2_11 hx hb dX9_rowOf_131 rfl rfl ?_
              refine x_iald hx hb hK.1 hw (by first | exact Int.le_refl 0 | omega) (by first | exact zlt hc76 | omega) ar_76 (len_E ar_76 (by first | exact Nat.ne_of_beq_eq_false rfl | decide)) (by omega) (by omega) (by omega) dX9_rowOf_132 ?_
              have e12 : ∀ p9 q9 : Int, Xa 76 p9 q9 = X 76 p9 q9 := fun p9 q9 => by rw [hGXa 76 p9 q9 (show 7600 ∉ [7900] by first | exact nlm_ni rfl | decide), hX10, u3_k _ _ _ _ (by first | exact Nat.ne_of_beq_eq_false rfl | decide), hX7, u3_k _ _ _ _ (by first | exact Nat.ne_of_beq_eq_false rfl | decide), hX4, u3_k _ _ _ _ (by first | exact Nat.ne_of_beq_eq_false rfl | decide)]
              rw [e12 0 4]
              have f13 : 0 ≤ X 76 0 4 ∧ X 76 0 4 ≤ 150 := hR 76 0 4
              refine lv_iconst (v := jI 1) hx hb dX9_rowOf_133 rfl ?_
              refine x_iadd hx hb dX9_rowOf_134 ?_
              refine x_iast hx hb hK.1 hw hS (by first | exact Int.le_refl 0 | omega) (by first | exact zlt hc76 | omega) ar_76 (len_E ar_76 (by first | exact Nat.ne_of_beq_eq_false rfl | decide)) (by omega) (by omega) (by omega) dX9_rowOf_135 (fun H locs hw hS => ?_)
              obtain ⟨X14, hX14⟩ : ∃ Xq, Xq = u3 Xa 76 0 4 ((X 76 0 4) + 1) := ⟨_, rfl⟩
              rw [← hX14] at hw
              have hRX14 : Rng X14 := by rw [hX14]; exact rng_set hRXa (show 0 ≤ ((X 76 0 4) + 1) ∧ ((X 76 0 4) + 1) ≤ 150 by omega)
              have hVX14 : X14 76 0 4 = ((X 76 0 4) + 1) := by rw [hX14]; exact u3_s _ _ _ _ _
              have hFX14 : Frm [8100, 7700, 7800, 7900, 7600] X X14 := by rw [hX14]; exact Frm.set hFXa (show 7600 ∈ [8100, 7700, 7800, 7900, 7600] by first | exact nlm_in rfl | decide)
              refine lv_iload_n hx hb dX9_rowOf_136 rfl (lv_at hl 3 rfl) ?_
              rw [hQ9]
              refine ret_i (mc := 0) (ms := 0) hx hb hr hlocks hw hS (by first | exact Nat.le_of_ble_eq_true rfl | omega) (by first | exact Nat.le_of_ble_eq_true rfl | omega) dX9_rowOf_137 ?_
              have q16 : Frm [7600, 7700, 7800, 7900, 8100] X X4 := by rw [hX4]; exact Frm.set Frm.rf (show 8100 ∈ [7600, 7700, 7800, 7900, 8100] by first | exact nlm_in rfl | decide)
              have q17 : Frm [7600, 7700, 7800, 7900, 8100] X X7 := by rw [hX7]; exact Frm.set q16 (show 7700 ∈ [7600, 7700, 7800, 7900, 8100] by first | exact nlm_in rfl | decide)
              have q18 : Frm [7600, 7700, 7800, 7900, 8100] X X10 := by rw [hX10]; exact Frm.set q17 (show 7800 ∈ [7600, 7700, 7800, 7900, 8100] by first | exact nlm_in rfl | decide)
              have q19 : Frm [7600, 7700, 7800, 7900, 8100] X Xa := Frm.tr q18 (Frm.mono hGXa (by first | exact nls_of rfl | decide))
              have q20 : Frm [7600, 7700, 7800, 7900, 8100] X X14 := by rw [hX14]; exact Frm.set q19 (show 7600 ∈ [7600, 7700, 7800, 7900, 8100] by first | exact nlm_in rfl | decide)
              have hMq15 : MInv X14 := minv_frm hMI q20 (by decide)
              have hm21 : nmAt (fun q => mRid X (sg 3 q) (sg 4 q)) row (sg 2 0).toNat = -1 := nmAt_no (f := fun q => mRid X (sg 3 q) (sg 4 q)) (fun j a b => by show mRid X (sg 3 j) (sg 4 j) ≠ row; rw [← (hsg.2 j a (by omega)).1]; exact hne j a (by omega)) (by omega)
              have q22 : Frm [7600, 7700, 7800, 7900, 8100] X X4 := by rw [hX4]; exact Frm.set Frm.rf (show 8100 ∈ [7600, 7700, 7800, 7900, 8100] by first | exact nlm_in rfl | decide)
              have q23 : Frm [7600, 7700, 7800, 7900, 8100] X X7 := by rw [hX7]; exact Frm.set q22 (show 7700 ∈ [7600, 7700, 7800, 7900, 8100] by first | exact nlm_in rfl | decide)
              have q24 : Frm [7600, 7700, 7800, 7900, 8100] X X10 := by rw [hX10]; exact Frm.set q23 (show 7800 ∈ [7600, 7700, 7800, 7900, 8100] by first | exact nlm_in rfl | decide)
              have q25 : Frm [7600, 7700, 7800, 7900, 8100] X Xa := Frm.tr q24 (Frm.mono hGXa (by first | exact nls_of rfl | decide))
              have q27 : S5 X X4 := by rw [hX4]; exact S5.set S5.rf ⟨by first | exact fun h => absurd h (Nat.ne_of_beq_eq_false rfl) | omega, by first | exact fun h => absurd h (Nat.ne_of_beq_eq_false rfl) | omega, by first | exact fun h => absurd h (Nat.ne_of_beq_eq_false rfl) | omega, by first | exact fun h => absurd h (Nat.ne_of_beq_eq_false rfl) | omega, by first | exact fun h => absurd h (Nat.ne_of_beq_eq_false rfl) | omega⟩
              have q28 : S5 X X7 := by rw [hX7]; exact S5.set q27 ⟨by first | exact fun h => absurd h (Nat.ne_of_beq_eq_false rfl) | omega, by first | exact fun h => absurd h (Nat.ne_of_beq_eq_false rfl) | omega, by first | exact fun h => absurd h (Nat.ne_of_beq_eq_false rfl) | omega, by first | exact fun h => absurd h (Nat.ne_of_beq_eq_false rfl) | omega, by first | exact fun h => absurd h (Nat.ne_of_beq_eq_false rfl) | omega⟩
              have q29 : S5 X X10 := by rw [hX10]; exact S5.set q28 ⟨by first | exact fun h => absurd h (Nat.ne_of_beq_eq_false rfl) | omega, by first | exact fun h => absurd h (Nat.ne_of_beq_eq_false rfl) | omega, by first | exact fun h => absurd h (Nat.ne_of_beq_eq_false rfl) | omega, by first | exact fun h => absurd h (Nat.ne_of_beq_eq_false rfl) | omega, by first | exact fun h => absurd h (Nat.ne_of_beq_eq_false rfl) | omega⟩
              have q30 : S5 X Xa := S5.tr q29 h5Xa
              have q31 : S5 X X14 := by rw [hX14]; exact S5.set q30 ⟨by first | exact fun h => absurd h (Nat.ne_of_beq_eq_false rfl) | omega, by first | exact fun h => absurd h (Nat.ne_of_beq_eq_false rfl) | omega, by first | exact fun h => absurd h (Nat.ne_of_beq_eq_false rfl) | omega, by first | exact fun h => absurd h (Nat.ne_of_beq_eq_false rfl) | omega, by first | exact fun h => absurd h (Nat.ne_of_beq_eq_false rfl) | omega⟩
              exact ⟨X14, rfl, hRX14, hFX14, hMq15, by omega, (by rw [hX14, u3_s]; omega), (by rw [hm21, if_pos rfl]; omega), (by rw [hm21, if_pos rfl]; exact rmR.push hsg (by omega) (by rw [hVX14]) (by rw [← hrw]; exact (by rw [hX14, u3_k _ _ _ _ (by first | exact Nat.ne_of_beq_eq_false rfl | decide), hGXa 81 0 (X 76 0 4) (show 8100 ∉ [7900] by first | exact nlm_ni rfl | decide), hX10, u3_k _ _ _ _ (by first | exact Nat.ne_of_beq_eq_false rfl | decide), hX7, u3_k _ _ _ _ (by first | exact Nat.ne_of_beq_eq_false rfl | decide)]; exact hVX4)) (fun j hj => (by rw [hX14, u3_k _ _ _ _ (by first | exact Nat.ne_of_beq_eq_false rfl | decide), hGXa 81 0 j (show 8100 ∉ [7900] by first | exact nlm_ni rfl | decide), hX10, u3_k _ _ _ _ (by first | exact Nat.ne_of_beq_eq_false rfl | decide), hX7, u3_k _ _ _ _ (by first | exact Nat.ne_of_beq_eq_false rfl | decide), hX4, u3_j _ _ _ _ hj])) ⟨(by rw [← hrw]; exact (by rw [hX14, u3_k _ _ _ _ (by first | exact Nat.ne_of_beq_eq_false rfl | decide), hGXa 77 0 (600 + X 76 0 4) (show 7700 ∉ [7900] by first | exact nlm_ni rfl | decide), hX10, u3_k _ _ _ _ (by first | exact Nat.ne_of_beq_eq_false rfl | decide)]; exact hVX7)), (by rw [← hrw]; exact (by rw [hX14, u3_k _ _ _ _ (by first | exact Nat.ne_of_beq_eq_false rfl | decide), hGXa 78 0 (600 + X 76 0 4) (show 7800 ∉ [7900] by first | exact nlm_ni rfl | decide)]; exact hVX10))⟩ (fun j hj => ⟨(by rw [hX14, u3_k _ _ _ _ (by first | exact Nat.ne_of_beq_eq_false rfl | decide), hGXa 77 0 j (show 7700 ∉ [7900] by first | exact nlm_ni rfl | decide), hX10, u3_k _ _ _ _ (by first | exact Nat.ne_of_beq_eq_false rfl | decide), hX7, u3_j _ _ _ _ (by omega), hX4, u3_k _ _ _ _ (by first | exact Nat.ne_of_beq_eq_false rfl | decide)]), (by rw [hX14, u3_k _ _ _ _ (by first | exact Nat.ne_of_beq_eq_false rfl | decide), hGXa 78 0 j (show 7800 ∉ [7900] by first | exact nlm_ni rfl | decide), hX10, u3_j _ _ _ _ (by omega), hX7, u3_k _ _ _ _ (by first | exact Nat.ne_of_beq_eq_false rfl | decide), hX4, u3_k _ _ _ _ (by first | exact Nat.ne_of_beq_eq_false rfl | decide)])⟩) (fun j a b => by rw [← hrw, hX14, u3_k _ _ _ _ (by first | exact Nat.ne_of_beq_eq_false rfl | decide)]; exact hcp j a (by omega)) (fun j hj => by rw [hX14, u3_k _ _ _ _ (by first | exact Nat.ne_of_beq_eq_false rfl | decide)]; exact hcl9 j hj) (fun q9 hq9 => by simp only [List.mem_cons, List.not_mem_nil, or_false] at hq9; rcases hq9 with rfl | rfl | rfl | rfl <;> exact Frm.arr q20 _ (by decide +kernel) (by decide))), q31⟩
            · refine lv_aload_n hx hb dX9_rowOf_90 rfl (lv_at hl 0 rfl) ?_
              refine x_geto hx hb hf9 hw (by first | exact Int.le_refl 0 | omega) (by first | exact zlt hc40 | omega) sl_40_38 lk108 dX9_rowOf_91 ?_
              refine lv_bipush (v := jI 12) hx hb dX9_rowOf_94 (by decide) ?_
              refine lv_sipush (v := jI 150) hx hb dX9_rowOf_96 (by decide) ?_
              refine lv_iload_n hx hb dX9_rowOf_99 rfl (lv_at hl 1 rfl) ?_
              refine x_imul hx hb dX9_rowOf_100 ?_
              refine lv_iload_n hx hb dX9_rowOf_101 rfl (lv_at hl 3 rfl) ?_
              refine x_iadd hx hb dX9_rowOf_102 ?_
              refine x_imul hx hb dX9_rowOf_103 ?_
              refine lv_iload hx hb dX9_rowOf_104 (lv_at hl 4 rfl) ?_
              refine x_iadd hx hb dX9_rowOf_106 ?_
              refine lv_aload_n hx hb dX9_rowOf_107 rfl (lv_at hl 0 rfl) ?_
              refine x_geto hx hb hf9 hw (by first | exact Int.le_refl 0 | omega) (by first | exact zlt hc40 | omega) sl_40_18 lk57 dX9_rowOf_108 ?_
              refine lv_bipush (v := jI 12) hx hb dX9_rowOf_111 (by decide) ?_
              refine lv_iload_n hx hb dX9_rowOf_113 rfl (lv_at hl 2 rfl) ?_
              refine x_imul hx hb dX9_rowOf_114 ?_
              refine lv_iload hx hb dX9_rowOf_115 (lv_at hl 4 rfl) ?_
              refine x_iadd hx hb dX9_rowOf_117 ?_
              refine x_lald hx hb hK.1 hw (by first | exact Int.le_refl 0 | omega) (by first | exact zlt hc59 | omega) ar_59 (len_E ar_59 (by first | exact Nat.ne_of_beq_eq_false rfl | decide)) (by omega) (by omega) (by omega) dX9_rowOf_118 ?_
              have e32 : ∀ p9 q9 : Int, Xa 59 p9 q9 = X 59 p9 q9 := fun p9 q9 => by rw [hGXa 59 p9 q9 (show 5900 ∉ [7900] by first | exact nlm_ni rfl | decide), hX10, u3_k _ _ _ _ (by first | exact Nat.ne_of_beq_eq_false rfl | decide), hX7, u3_k _ _ _ _ (by first | exact Nat.ne_of_beq_eq_false rfl | decide), hX4, u3_k _ _ _ _ (by first | exact Nat.ne_of_beq_eq_false rfl | decide)]
              rw [e32 0 ((12 * row) + k)]
              have f33 : (-9223372036854775808) ≤ X 59 0 ((12 * row) + k) ∧ X 59 0 ((12 * row) + k) ≤ 9223372036854775807 := hR 59 0 ((12 * row) + k)
              refine x_last hx hb hK.1 hw hS (by first | exact Int.le_refl 0 | omega) (by first | exact zlt hc79 | omega) ar_79 (len_E ar_79 (by first | exact Nat.ne_of_beq_eq_false rfl | decide)) (by omega) (by omega) (by omega) dX9_rowOf_119 (fun H locs hw hS => ?_)
              obtain ⟨X34, hX34⟩ : ∃ Xq, Xq = u3 Xa 79 0 ((12 * ((150 * 4) + (X 76 0 4))) + k) (X 59 0 ((12 * row) + k)) := ⟨_, rfl⟩
              rw [← hX34] at hw
              have hRX34 : Rng X34 := by rw [hX34]; exact rng_set hRXa (show (-9223372036854775808) ≤ (X 59 0 ((12 * row) + k)) ∧ (X 59 0 ((12 * row) + k)) ≤ 9223372036854775807 by omega)
              have hVX34 : X34 79 0 ((12 * ((150 * 4) + (X 76 0 4))) + k) = (X 59 0 ((12 * row) + k)) := by rw [hX34]; exact u3_s _ _ _ _ _
              have hFX34 : Frm [8100, 7700, 7800, 7900, 7600] X X34 := by rw [hX34]; exact Frm.set hFXa (show 7900 ∈ [8100, 7700, 7800, 7900, 7600] by first | exact nlm_in rfl | decide)
              refine lv_iinc (v := jI (k + 1)) (lv' := [(4, .int (jI (k + 1))), (0, .ref (ad 40 0)), (1, .int (jI 4)), (2, .int (jI row)), (3, .int (jI (X 76 0 4)))]) hx hb dX9_rowOf_120 hl (k := 4) rfl (jI_add _ _) (by decide) rfl (fun ls hl => ?_)
              refine lv_goto (tgt := 83) hx hb dX9_rowOf_123 (by decide) ?_
              have q35 : Frm [7900] X10 Xa := Frm.tr Frm.rf (Frm.mono hGXa (by first | exact nls_of rfl | decide))
              have q36 : Frm [7900] X10 X34 := by rw [hX34]; exact Frm.set q35 (show 7900 ∈ [7900] by first | exact nlm_in rfl | decide)
              have q37 : S5 X10 Xa := S5.tr S5.rf h5Xa
              have q38 : S5 X10 X34 := by rw [hX34]; exact S5.set q37 ⟨by first | exact fun h => absurd h (Nat.ne_of_beq_eq_false rfl) | omega, by first | exact fun h => absurd h (Nat.ne_of_beq_eq_false rfl) | omega, by first | exact fun h => absurd h (Nat.ne_of_beq_eq_false rfl) | omega, by first | exact fun h => absurd h (Nat.ne_of_beq_eq_false rfl) | omega, by first | exact fun h => absurd h (Nat.ne_of_beq_eq_false rfl) | omega⟩
              exact ih83 (k + 1) X34 _ _ _ (by omega) hRX34 q36 (by omega) (fun j a b => if hj : j = k then (by rw [hj]; exact hVX34) else (by rw [hX34, u3_j _ _ _ _ (by omega)]; exact hcp j a (by omega))) (fun j hj => (by rw [hX34, u3_j _ _ _ _ (by omega)]; exact hcl9 j hj)) (q38) hw hS (lv_sub hl [1, 2, 3, 4, 0] rfl)
        exact lp83 (12 - 0 : Int).toNat.succ 0 X10 _ _ _ (by omega) hRX10 Frm.rf (by omega) (fun j a b => by omega) (fun j hj => (by rw [hX10, u3_k _ _ _ _ (by first | exact Nat.ne_of_beq_eq_false rfl | decide), hX7, u3_k _ _ _ _ (by first | exact Nat.ne_of_beq_eq_false rfl | decide), hX4, u3_k _ _ _ _ (by first | exact Nat.ne_of_beq_eq_false rfl | decide)])) (S5.rf) hw hS (lv_sub hl [2, 3, 4, 1, 0] rfl)
      · refine lv_aload_n hx hb dX9_rowOf_12 rfl (lv_at hl 0 rfl) ?_
        refine x_geto hx hb hf9 hw (by first | exact Int.le_refl 0 | omega) (by first | exact zlt hc40 | omega) sl_40_40 lk114 dX9_rowOf_13 ?_
        refine lv_iload_n hx hb dX9_rowOf_16 rfl (lv_at hl 3 rfl) ?_
        refine x_iald hx hb hK.1 hw (by first | exact Int.le_refl 0 | omega) (by first | exact zlt hc81 | omega) ar_81 (len_E ar_81 (by first | exact Nat.ne_of_beq_eq_false rfl | decide)) (by omega) (by omega) (by omega) dX9_rowOf_17 ?_
        have f39 : 0 ≤ X 81 0 r ∧ X 81 0 r ≤ 399 := hR 81 0 r
        refine lv_iload_n hx hb dX9_rowOf_18 rfl (lv_at hl 2 rfl) ?_
        refine x_icmp_ne (tgt := 24) hx hb (by omega) (by omega) dX9_rowOf_19 (by decide) (fun c40 => ?_) (fun c40 => ?_)
        · refine lv_iinc (v := jI (r + 1)) (lv' := [(3, .int (jI (r + 1))), (0, .ref (ad 40 0)), (1, .int (jI 4)), (2, .int (jI row))]) hx hb dX9_rowOf_24 hl (k := 3) rfl (jI_add _ _) (by decide) rfl (fun ls hl => ?_)
          refine lv_goto (tgt := 2) hx hb dX9_rowOf_27 (by decide) ?_
          exact ih2 (r + 1) _ _ _ (by omega) (by omega) (fun j a b => if hj : j = r then (by rw [hj]; omega) else hne j a (by omega)) hw hS (lv_sub hl [1, 2, 3, 0] rfl)
        · refine lv_iload_n hx hb dX9_rowOf_22 rfl (lv_at hl 3 rfl) ?_
          rw [hQ9]
          refine ret_i (mc := 0) (ms := 0) hx hb hr hlocks hw hS (by first | exact Nat.le_of_ble_eq_true rfl | omega) (by first | exact Nat.le_of_ble_eq_true rfl | omega) dX9_rowOf_23 ?_
          have hm41 : nmAt (fun q => mRid X (sg 3 q) (sg 4 q)) row (sg 2 0).toNat = r := nmAt_yes (f := fun q => mRid X (sg 3 q) (sg 4 q)) (fun j a b => by show mRid X (sg 3 j) (sg 4 j) ≠ row; rw [← (hsg.2 j a (by omega)).1]; exact hne j a b) ⟨by omega, by omega⟩ (by show mRid X (sg 3 r) (sg 4 r) = row; rw [← (hsg.2 r (by omega) (by omega)).1]; omega)
          exact ⟨X, rfl, hR, Frm.rf, hMI, by omega, by omega, (by rw [hm41, if_neg (by omega)]), (by rw [hm41, if_neg (by omega)]; exact hsg), S5.rf⟩
  exact lp2 (150 - 0 : Int).toNat.succ 0 _ _ _ (by omega) (by omega) (fun j a b => by omega) hw hS (lv_sub hl [1, 2, 3, 0] rfl)
end
