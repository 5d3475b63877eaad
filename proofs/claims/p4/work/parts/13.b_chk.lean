section
set_option maxHeartbeats 4000000 in
set_option maxRecDepth 100000 in
theorem c_X9_checked (l : Launch) (D : va_G) (tc : Nat → ClassId) (base : Nat) (ad : Nat → Int → Nat) (cnt : Nat → Int) (X : Nat → Int → Int → Int) (Y : Nat → Int → Int → Option Int) (ln : Int → Int) (hR : Rng X) (hFx : Fx cnt) (hMI : MInv X) (x cq : Int) (hx0 : 0 ≤ x ∧ x ≤ 29) (hxt : x < X 40 0 13) (hcq : 0 ≤ cq ∧ cq ≤ 31) : KI l D tc base yX9_checked wsX9_checked ({ frames := 2, cells := 0, slots := 0, locals := 46 } : Room) [.ref (ad 40 0), .int (jI x), .int (jI cq)] (ad, cnt, X, Y, ln) 0 0 (fun z u => u = (ad, cnt, X, Y, ln) ∧ (0 ≤ z ∧ z ≤ 10) ∧ z = ckM X x cq) := by
  refine K_of (cc := cX9_checked) (maxL := 13) (ret := (some .int)) (by decide) rfl (Nat.le_of_ble_eq_true rfl) ?_
  intro p e s m below meth c ls hx hb hr hml hown hts hlocks hl hK hw hS
  have hown : s.vm.findClass RX9 = some m.cls := hown
  obtain ⟨av9, hav9⟩ : ∃ a9 : Array Value, a9 = ([.ref (ad 40 0), .int (jI x), .int (jI cq)] : List Value).toArray := ⟨_, rfl⟩
  rw [← hav9] at hts ⊢
  obtain ⟨Q9, hQ9⟩ : ∃ q9Q : State → Prop, q9Q = MQ below (QI D tc base (fun z u => u = (ad, cnt, X, Y, ln) ∧ (0 ≤ z ∧ z ≤ 10) ∧ z = ckM X x cq)) av9 s 0 0 (frA base) := ⟨_, rfl⟩
  rw [← hQ9]
  have hi9 : ∀ w ∈ wsX90, w ∈ wsX9_checked := fun w h => List.mem_cons_of_mem _ (List.mem_append_right _ h)
  have hf9 : fctx s m _ RX9 wsX9_checked D tc RX9 TX9 51 9 := ⟨hts, hi9, hown, hK.1, rfl⟩
  have lk13 := hts (.fieldLink RX9 13 (TX9 3).1 (TX9 3).2.1 (TX9 3).2.2.1) (gj_X9_checked_0 _ (gp_4 gp_h))
  have lk17 := hts (.fieldLink RX9 17 (TX9 4).1 (TX9 4).2.1 (TX9 4).2.2.1) (gj_X9_checked_0 _ (gp_4 (gp_4 (gp_1 (gp_1 gp_h)))))
  have lk33 := hts (.fieldLink RX9 33 (TX9 9).1 (TX9 9).2.1 (TX9 9).2.2.1) (gj_X9_checked_0 _ (gp_h))
  have lk36 := hts (.fieldLink RX9 36 (TX9 10).1 (TX9 10).2.1 (TX9 10).2.2.1) (gj_X9_checked_0 _ (gp_1 gp_h))
  have lk39 := hts (.fieldLink RX9 39 (TX9 11).1 (TX9 11).2.1 (TX9 11).2.2.1) (gj_X9_checked_0 _ (gp_1 (gp_1 gp_h)))
  have lk42 := hts (.fieldLink RX9 42 (TX9 12).1 (TX9 12).2.1 (TX9 12).2.2.1) (gj_X9_checked_0 _ (gp_4 (gp_1 (gp_1 gp_h))))
  have lk45 := hts (.fieldLink RX9 45 (TX9 14).1 (TX9 14).2.1 (TX9 14).2.2.1) (gj_X9_checked_0 _ (gp_4 (gp_1 gp_h)))
  have lk48 := hts (.fieldLink RX9 48 (TX9 15).1 (TX9 15).2.1 (TX9 15).2.2.1) (gj_X9_checked_0 _ (gp_1 (gp_1 (gp_1 gp_h))))
  have lk54 := hts (.fieldLink RX9 54 (TX9 17).1 (TX9 17).2.1 (TX9 17).2.2.1) (gj_X9_checked_0 _ (gp_4 (gp_1 (gp_1 (gp_1 gp_h)))))
  have lk57 := hts (.fieldLink RX9 57 (TX9 18).1 (TX9 18).2.1 (TX9 18).2.2.1) (gj_X9_checked_0 _ (gp_4 (gp_4 gp_h)))
  have hc40 : cnt 40 = 1 := hFx.at 40 1 (by decide)
  have hc44 : cnt 44 = 1 := hFx.at 44 1 (by decide)
  have hc45 : cnt 45 = 1 := hFx.at 45 1 (by decide)
  have hc50 : cnt 50 = 1 := hFx.at 50 1 (by decide)
  have hc51 : cnt 51 = 1 := hFx.at 51 1 (by decide)
  have hc52 : cnt 52 = 1 := hFx.at 52 1 (by decide)
  have hc53 : cnt 53 = 1 := hFx.at 53 1 (by decide)
  have hc55 : cnt 55 = 1 := hFx.at 55 1 (by decide)
  have hc56 : cnt 56 = 1 := hFx.at 56 1 (by decide)
  have hc58 : cnt 58 = 1 := hFx.at 58 1 (by decide)
  have hc59 : cnt 59 = 1 := hFx.at 59 1 (by decide)
  have hl : lv_has ls 13 [(0, .ref (ad 40 0)), (1, .int (jI x)), (2, .int (jI cq))] := hl
  have fstypes : 0 ≤ X 40 0 2 ∧ X 40 0 2 ≤ 8 := hR 40 0 2
  have fsthings : 0 ≤ X 40 0 13 ∧ X 40 0 13 ≤ 30 := hR 40 0 13
  have fsmarks : 0 ≤ X 40 0 20 ∧ X 40 0 20 ≤ 4 := hR 40 0 20
  have fsnotes : 0 ≤ X 40 0 22 ∧ X 40 0 22 ≤ 80 := hR 40 0 22
  have fka : 0 ≤ X 51 0 cq ∧ X 51 0 cq ≤ 4 := hR 51 0 cq
  have fkb : 0 ≤ X 52 0 cq ∧ X 52 0 cq ≤ 4 := hR 52 0 cq
  have fkk : 0 ≤ X 50 0 cq ∧ X 50 0 cq ≤ 5 := hR 50 0 cq
  have fkl : 0 ≤ X 46 0 (5 * X 55 0 x + (X 51 0 cq)) ∧ X 46 0 (5 * X 55 0 x + (X 51 0 cq)) ≤ 5 := hR 46 0 _
  refine lv_aload_n hx hb dX9_checked_0 rfl (lv_at hl 0 rfl) ?_
  refine x_geto hx hb hf9 hw (by first | exact Int.le_refl 0 | omega) (by first | exact zlt hc40 | omega) sl_40_9 lk33 dX9_checked_1 ?_
  refine lv_iload_n hx hb dX9_checked_4 rfl (lv_at hl 2 rfl) ?_
  refine x_iald hx hb hK.1 hw (by first | exact Int.le_refl 0 | omega) (by first | exact zlt hc50 | omega) ar_50 (len_E ar_50 (by first | exact Nat.ne_of_beq_eq_false rfl | decide)) (by omega) (by omega) (by omega) dX9_checked_5 ?_
  have f1 : 0 ≤ X 50 0 cq ∧ X 50 0 cq ≤ 5 := hR 50 0 cq
  refine lv_istore_n (lv' := [(3, .int (jI (X 50 0 cq))), (0, .ref (ad 40 0)), (1, .int (jI x)), (2, .int (jI cq))]) hx hb dX9_checked_6 rfl hl (by decide) rfl (fun ls hl => ?_)
  refine lv_aload_n hx hb dX9_checked_7 rfl (lv_at hl 1 rfl) ?_
  refine x_geto hx hb hf9 hw (by first | exact Int.le_refl 0 | omega) (by first | exact zlt hc40 | omega) sl_40_10 lk36 dX9_checked_8 ?_
  refine lv_iload_n hx hb dX9_checked_11 rfl (lv_at hl 3 rfl) ?_
  refine x_iald hx hb hK.1 hw (by first | exact Int.le_refl 0 | omega) (by first | exact zlt hc51 | omega) ar_51 (len_E ar_51 (by first | exact Nat.ne_of_beq_eq_false rfl | decide)) (by omega) (by omega) (by omega) dX9_checked_12 ?_
  have f2 : 0 ≤ X 51 0 cq ∧ X 51 0 cq ≤ 4 := hR 51 0 cq
  refine lv_istore (lv' := [(4, .int (jI (X 51 0 cq))), (3, .int (jI (X 50 0 cq))), (0, .ref (ad 40 0)), (1, .int (jI x)), (2, .int (jI cq))]) hx hb dX9_checked_13 hl (by decide) rfl (fun ls hl => ?_)
  refine lv_aload_n hx hb dX9_checked_15 rfl (lv_at hl 2 rfl) ?_
  refine x_geto hx hb hf9 hw (by first | exact Int.le_refl 0 | omega) (by first | exact zlt hc40 | omega) sl_40_11 lk39 dX9_checked_16 ?_
  refine lv_iload_n hx hb dX9_checked_19 rfl (lv_at hl 4 rfl) ?_
  refine x_iald hx hb hK.1 hw (by first | exact Int.le_refl 0 | omega) (by first | exact zlt hc52 | omega) ar_52 (len_E ar_52 (by first | exact Nat.ne_of_beq_eq_false rfl | decide)) (by omega) (by omega) (by omega) dX9_checked_20 ?_
  have f3 : 0 ≤ X 52 0 cq ∧ X 52 0 cq ≤ 4 := hR 52 0 cq
  refine lv_istore (lv' := [(5, .int (jI (X 52 0 cq))), (4, .int (jI (X 51 0 cq))), (3, .int (jI (X 50 0 cq))), (0, .ref (ad 40 0)), (1, .int (jI x)), (2, .int (jI cq))]) hx hb dX9_checked_21 hl (by decide) rfl (fun ls hl => ?_)
  have lp147 : ∀ (vz : Int) (wz : Int) (H : Heap) (locs : List Loc) (ls : Array Slot), (-9223372036854775808 ≤ vz ∧ vz ≤ 9223372036854775807) → (-9223372036854775808 ≤ wz ∧ wz ≤ 9223372036854775807) → ((X 50 0 cq) = 2 → vz ≤ 399) → ((X 50 0 cq) = 1 → vz ≤ 29) → ((X 50 0 cq) = 5 → vz ≤ 29) → (vz = X 56 0 (5 * x + (X 51 0 cq))) → ((X 52 0 cq) < X 44 0 (X 55 0 x) → wz = X 56 0 (5 * x + (X 52 0 cq))) → ((((X 51 0 cq) < X 44 0 (X 55 0 x) ∧ ((X 50 0 cq) = 2 → 3 ≤ X 46 0 (5 * X 55 0 x + (X 51 0 cq))) ∧ (((X 50 0 cq) = 1 ∨ (X 50 0 cq) = 5) → X 46 0 (5 * X 55 0 x + (X 51 0 cq)) = 2) ∧ (((X 50 0 cq) = 0 ∨ (X 50 0 cq) = 3 ∨ (X 50 0 cq) = 4) → X 46 0 (5 * X 55 0 x + (X 51 0 cq)) = 0)) ∧ (((X 50 0 cq) = 0 ∨ (X 50 0 cq) = 2) → (X 52 0 cq) < X 44 0 (X 55 0 x) ∧ X 46 0 (5 * X 55 0 x + (X 52 0 cq)) = 0))) → wd D tc base (ad, cnt, X, Y, ln) H → va_S (frA base) s.heap H locs → lv_has ls 13 [(0, .ref (ad 40 0)), (1, .int (jI x)), (2, .int (jI cq)), (3, .int (jI (X 50 0 cq))), (4, .int (jI (X 51 0 cq))), (5, .int (jI (X 52 0 cq))), (7, .long (jL vz)), (9, .long (jL wz))] → W p l e ({ frames := 2, cells := 0, slots := 0, locals := 46 } : Room) s m av9 below meth c H locs 0 0 Q9 (F0 m 147 ls []) := by
    intro vz wz H locs ls hvz hwz hk2 hk1 hk5 hvv hww hfi hw hS hl
    refine lv_iload_n hx hb dX9_checked_147 rfl (lv_at hl 3 rfl) ?_
    have tc4 : (jI (X 50 0 cq)).toInt = (X 50 0 cq) := jI_toInt (by omega)
    by_cases c4 : (X 50 0 cq) < 0 ∨ 4 < (X 50 0 cq)
    · refine lv_tableOut (tgt := 344) hx hb dX9_checked_148 (by rw [tc4]; exact c4) (by decide) ?_
      refine lv_lload hx hb dX9_checked_344 (lv_at hl 6 rfl) ?_
      refine lv_lconst (v := jL 0) hx hb dX9_checked_346 (by decide) ?_
      refine x_lcmp hx hb (by omega) (by omega) dX9_checked_347 ?_
      obtain ⟨z5, ez5⟩ : ∃ y : Int, y = cmpZ vz 0 := ⟨_, rfl⟩
      rw [← ez5]
      have gz5 : (z5 < 0 ↔ (vz : Int) < 0) ∧ (z5 = 0 ↔ (vz : Int) = 0) ∧ -1 ≤ z5 ∧ z5 ≤ 1 := by rw [ez5]; exact ⟨cmpZ_lt, cmpZ_eq, (cmpZ_r _ _).1, (cmpZ_r _ _).2⟩
      clear ez5
      refine x_if_ge (tgt := 353) hx hb (by omega) dX9_checked_348 (by decide) (fun c6 => ?_) (fun c6 => ?_)
      · replace c6 := cz_geT gz5 c6
        clear gz5
        refine lv_lload hx hb dX9_checked_353 (lv_at hl 6 rfl) ?_
        refine x_l2i hx hb dX9_checked_355 ?_
        refine lv_istore (lv' := [(11, .int (jI vz)), (0, .ref (ad 40 0)), (1, .int (jI x)), (2, .int (jI cq)), (3, .int (jI (X 50 0 cq))), (4, .int (jI (X 51 0 cq))), (5, .int (jI (X 52 0 cq))), (7, .long (jL vz)), (9, .long (jL wz))]) hx hb dX9_checked_356 hl (by decide) rfl (fun ls hl => ?_)
        refine lv_aload_n hx hb dX9_checked_358 rfl (lv_at hl 1 rfl) ?_
        refine lv_aload_n hx hb dX9_checked_359 rfl (lv_at hl 1 rfl) ?_
        refine x_geto hx hb hf9 hw (by first | exact Int.le_refl 0 | omega) (by first | exact zlt hc40 | omega) sl_40_14 lk45 dX9_checked_360 ?_
        refine lv_iload hx hb dX9_checked_363 (lv_at hl 0 rfl) ?_
        refine x_iald hx hb hK.1 hw (by first | exact Int.le_refl 0 | omega) (by first | exact zlt hc55 | omega) ar_55 (len_E ar_55 (by first | exact Nat.ne_of_beq_eq_false rfl | decide)) (by omega) (by omega) (by omega) dX9_checked_365 ?_
        have f7 : 0 ≤ X 55 0 vz ∧ X 55 0 vz ≤ 7 := hR 55 0 vz
        refine lv_aload_n hx hb dX9_checked_366 rfl (lv_at hl 1 rfl) ?_
        refine x_geto hx hb hf9 hw (by first | exact Int.le_refl 0 | omega) (by first | exact zlt hc40 | omega) sl_40_4 lk17 dX9_checked_367 ?_
        refine lv_iconst (v := jI 5) hx hb dX9_checked_370 rfl ?_
        refine lv_aload_n hx hb dX9_checked_371 rfl (lv_at hl 1 rfl) ?_
        refine x_geto hx hb hf9 hw (by first | exact Int.le_refl 0 | omega) (by first | exact zlt hc40 | omega) sl_40_14 lk45 dX9_checked_372 ?_
        refine lv_iload_n hx hb dX9_checked_375 rfl (lv_at hl 2 rfl) ?_
        refine x_iald hx hb hK.1 hw (by first | exact Int.le_refl 0 | omega) (by first | exact zlt hc55 | omega) ar_55 (len_E ar_55 (by first | exact Nat.ne_of_beq_eq_false rfl | decide)) (by omega) (by omega) (by omega) dX9_checked_376 ?_
        have f8 : 0 ≤ X 55 0 x ∧ X 55 0 x ≤ 7 := hR 55 0 x
        refine x_imul hx hb dX9_checked_377 ?_
        refine lv_iload hx hb dX9_checked_378 (lv_at hl 5 rfl) ?_
        refine x_iadd hx hb dX9_checked_380 ?_
        refine x_iald hx hb hK.1 hw (by first | exact Int.le_refl 0 | omega) (by first | exact zlt hc45 | omega) ar_45 (len_E ar_45 (by first | exact Nat.ne_of_beq_eq_false rfl | decide)) (by omega) (by omega) (by omega) dX9_checked_381 ?_
        have f9 : 0 ≤ X 45 0 ((5 * (X 55 0 x)) + (X 51 0 cq)) ∧ X 45 0 ((5 * (X 55 0 x)) + (X 51 0 cq)) ≤ 19 := hR 45 0 ((5 * (X 55 0 x)) + (X 51 0 cq))
        refine gos_i (run_V (As := [.int (jI (X 55 0 vz)), .int (jI (X 45 0 ((5 * (X 55 0 x)) + (X 51 0 cq))))]) (rest := []) hx hb hml hown hts (c_X9_named l D tc base ad cnt X Y ln hR hFx (X 55 0 vz) (X 45 0 ((5 * (X 55 0 x)) + (X 51 0 cq))) (by omega) (by omega)) (cwV 2 hts gX9_checked_X9_named rfl rfl rfl (by first | exact hd_X9_named | decide +kernel) ⟨Nat.le_of_ble_eq_true rfl, Nat.le_of_ble_eq_true rfl⟩) hK hw (by first | exact Int.le_refl 0 | omega) (by first | exact zlt hc40 | omega) sl_40_0 rfl rfl hl.1 rfl (Nat.le_of_ble_eq_true rfl) dX9_checked_382 ⟨Nat.le_of_ble_eq_true rfl, Nat.le_of_ble_eq_true rfl⟩) hS (fun z10 u11 H locs p12 hw hS => ?_)
        obtain ⟨eu11, p12⟩ := p12
        subst eu11
        refine lv_istore (lv' := [(12, .int (jI z10)), (11, .int (jI vz)), (0, .ref (ad 40 0)), (1, .int (jI x)), (2, .int (jI cq)), (3, .int (jI (X 50 0 cq))), (4, .int (jI (X 51 0 cq))), (5, .int (jI (X 52 0 cq))), (7, .long (jL vz)), (9, .long (jL wz))]) hx hb dX9_checked_385 hl (by decide) rfl (fun ls hl => ?_)
        refine lv_iload hx hb dX9_checked_387 (lv_at hl 0 rfl) ?_
        refine x_if_lt (tgt := 404) hx hb (by omega) dX9_checked_389 (by decide) (fun c13 => ?_) (fun c13 => ?_)
        · refine lv_iconst (v := jI 4) hx hb dX9_checked_404 rfl ?_
          rw [hQ9]
          refine ret_i (mc := 0) (ms := 0) hx hb hr hlocks hw hS (by first | exact Nat.le_of_ble_eq_true rfl | omega) (by first | exact Nat.le_of_ble_eq_true rfl | omega) dX9_checked_405 ?_
          exact ⟨rfl, by omega, (by unfold ckM; rw [ckF_5 (by (try delta Hid at *); omega) (by (try delta Hid at *); omega)]; rw [← hvv]; have f55 : 0 ≤ X 55 0 vz ∧ X 55 0 vz ≤ 7 := hR 55 0 vz; unfold ldM; rw [← p12.2.2.2]; (repeat' split) <;> omega)⟩
        · refine lv_aload_n hx hb dX9_checked_392 rfl (lv_at hl 2 rfl) ?_
          refine lv_iload hx hb dX9_checked_393 (lv_at hl 1 rfl) ?_
          refine lv_iload hx hb dX9_checked_395 (lv_at hl 0 rfl) ?_
          refine gos_i (run_V (As := [.int (jI vz), .int (jI z10)]) (rest := []) hx hb hml hown hts (c_X9_lane l D tc base ad cnt X Y ln hR hFx vz z10 (by omega) (by omega)) (cwV 2 hts gX9_checked_X9_lane rfl rfl rfl (by first | exact hd_X9_lane | decide +kernel) ⟨Nat.le_of_ble_eq_true rfl, Nat.le_of_ble_eq_true rfl⟩) hK hw (by first | exact Int.le_refl 0 | omega) (by first | exact zlt hc40 | omega) sl_40_0 rfl rfl hl.1 rfl (Nat.le_of_ble_eq_true rfl) dX9_checked_397 ⟨Nat.le_of_ble_eq_true rfl, Nat.le_of_ble_eq_true rfl⟩) hS (fun z14 u15 H locs p16 hw hS => ?_)
          obtain ⟨eu15, p16⟩ := p16
          subst eu15
          refine lv_iconst (v := jI 2) hx hb dX9_checked_400 rfl ?_
          refine x_icmp_eq (tgt := 406) hx hb (by omega) (by omega) dX9_checked_401 (by decide) (fun c17 => ?_) (fun c17 => ?_)
          · refine lv_aload_n hx hb dX9_checked_406 rfl (lv_at hl 2 rfl) ?_
            refine x_geto hx hb hf9 hw (by first | exact Int.le_refl 0 | omega) (by first | exact zlt hc40 | omega) sl_40_15 lk48 dX9_checked_407 ?_
            refine lv_iconst (v := jI 5) hx hb dX9_checked_410 rfl ?_
            refine lv_iload hx hb dX9_checked_411 (lv_at hl 1 rfl) ?_
            refine x_imul hx hb dX9_checked_413 ?_
            refine lv_iload hx hb dX9_checked_414 (lv_at hl 0 rfl) ?_
            refine x_iadd hx hb dX9_checked_416 ?_
            skip
            refine x_lald hx hb hK.1 hw (by first | exact Int.le_refl 0 | omega) (by first | exact zlt hc56 | omega) ar_56 (len_E ar_56 (by first | exact Nat.ne_of_beq_eq_false rfl | decide)) (by omega) (by omega) (by omega) dX9_checked_417 ?_
            have f18 : (-9223372036854775808) ≤ X 56 0 ((5 * vz) + z10) ∧ X 56 0 ((5 * vz) + z10) ≤ 9223372036854775807 := hR 56 0 ((5 * vz) + z10)
            refine lv_lconst (v := jL 0) hx hb dX9_checked_418 (by decide) ?_
            refine x_lcmp hx hb (by omega) (by omega) dX9_checked_419 ?_
            obtain ⟨z19, ez19⟩ : ∃ y : Int, y = cmpZ (X 56 0 ((5 * vz) + z10)) 0 := ⟨_, rfl⟩
            rw [← ez19]
            have gz19 : (z19 < 0 ↔ ((X 56 0 ((5 * vz) + z10)) : Int) < 0) ∧ (z19 = 0 ↔ ((X 56 0 ((5 * vz) + z10)) : Int) = 0) ∧ -1 ≤ z19 ∧ z19 ≤ 1 := by rw [ez19]; exact ⟨cmpZ_lt, cmpZ_eq, (cmpZ_r _ _).1, (cmpZ_r _ _).2⟩
            clear ez19
            refine x_if_ge (tgt := 427) hx hb (by omega) dX9_checked_420 (by decide) (fun c20 => ?_) (fun c20 => ?_)
            · replace c20 := cz_geT gz19 c20
              clear gz19
              refine lv_iconst (v := jI 0) hx hb dX9_checked_427 rfl ?_
              rw [hQ9]
              refine ret_i (mc := 0) (ms := 0) hx hb hr hlocks hw hS (by first | exact Nat.le_of_ble_eq_true rfl | omega) (by first | exact Nat.le_of_ble_eq_true rfl | omega) dX9_checked_428 ?_
              exact ⟨rfl, by omega, (by unfold ckM; rw [ckF_5 (by (try delta Hid at *); omega) (by (try delta Hid at *); omega)]; have g1 := (hMI.1 x (X 51 0 cq) hx0.1 hxt fka.1 (by (try delta Hid at *); omega)).2.1 (by (try delta Hid at *); omega); have g2 := (hMI.1 vz z10 (by omega) (by omega) (by omega) (by omega)).2.1 (by omega); rw [← hvv]; have f55 : 0 ≤ X 55 0 vz ∧ X 55 0 vz ≤ 7 := hR 55 0 vz; unfold ldM; rw [← p12.2.2.2]; (repeat' split) <;> omega)⟩
            · replace c20 := cz_geF gz19 c20
              clear gz19
              refine lv_iconst (v := jI 1) hx hb dX9_checked_423 rfl ?_
              refine lv_goto (tgt := 428) hx hb dX9_checked_424 (by decide) ?_
              rw [hQ9]
              refine ret_i (mc := 0) (ms := 0) hx hb hr hlocks hw hS (by first | exact Nat.le_of_ble_eq_true rfl | omega) (by first | exact Nat.le_of_ble_eq_true rfl | omega) dX9_checked_428 ?_
              exact ⟨rfl, by omega, (by unfold ckM; rw [ckF_5 (by (try delta Hid at *); omega) (by (try delta Hid at *); omega)]; have g1 := (hMI.1 x (X 51 0 cq) hx0.1 hxt fka.1 (by (try delta Hid at *); omega)).2.1 (by (try delta Hid at *); omega); have g2 := (hMI.1 vz z10 (by omega) (by omega) (by omega) (by omega)).2.1 (by omega); rw [← hvv]; have f55 : 0 ≤ X 55 0 vz ∧ X 55 0 vz ≤ 7 := hR 55 0 vz; unfold ldM; rw [← p12.2.2.2]; (repeat' split) <;> omega)⟩
          · refine lv_iconst (v := jI 4) hx hb dX9_checked_404 rfl ?_
            rw [hQ9]
            refine ret_i (mc := 0) (ms := 0) hx hb hr hlocks hw hS (by first | exact Nat.le_of_ble_eq_true rfl | omega) (by first | exact Nat.le_of_ble_eq_true rfl | omega) dX9_checked_405 ?_
            exact ⟨rfl, by omega, (by unfold ckM; rw [ckF_5 (by (try delta Hid at *); omega) (by (try delta Hid at *); omega)]; rw [← hvv]; have f55 : 0 ≤ X 55 0 vz ∧ X 55 0 vz ≤ 7 := hR 55 0 vz; unfold ldM; rw [← p12.2.2.2]; (repeat' split) <;> omega)⟩
      · replace c6 := cz_geF gz5 c6
        clear gz5
        refine lv_iconst (v := jI 1) hx hb dX9_checked_351 rfl ?_
        rw [hQ9]
        refine ret_i (mc := 0) (ms := 0) hx hb hr hlocks hw hS (by first | exact Nat.le_of_ble_eq_true rfl | omega) (by first | exact Nat.le_of_ble_eq_true rfl | omega) dX9_checked_352 ?_
        exact ⟨rfl, by omega, (by unfold ckM; rw [ckF_5 (by (try delta Hid at *); omega) (by (try delta Hid at *); omega)]; rw [← hvv]; have f55 : 0 ≤ X 55 0 vz ∧ X 55 0 vz ≤ 7 := hR 55 0 vz; (repeat' split) <;> omega)⟩
    by_cases c21 : (X 50 0 cq) = 0
    · refine lv_tableIn (off := 36) (tgt := 184) hx hb dX9_checked_148 (by rw [tc4]; omega) (by rw [tc4]; omega) (by rw [tc4, c21]; rfl) (by decide) ?_
      refine lv_lload hx hb dX9_checked_184 (lv_at hl 7 rfl) ?_
      refine lv_lconst (v := jL 0) hx hb dX9_checked_186 (by decide) ?_
      refine x_lcmp hx hb (by omega) (by omega) dX9_checked_187 ?_
      obtain ⟨z22, ez22⟩ : ∃ y : Int, y = cmpZ wz 0 := ⟨_, rfl⟩
      rw [← ez22]
      have gz22 : (z22 < 0 ↔ (wz : Int) < 0) ∧ (z22 = 0 ↔ (wz : Int) = 0) ∧ -1 ≤ z22 ∧ z22 ≤ 1 := by rw [ez22]; exact ⟨cmpZ_lt, cmpZ_eq, (cmpZ_r _ _).1, (cmpZ_r _ _).2⟩
      clear ez22
      refine x_if_ne (tgt := 195) hx hb (by omega) dX9_checked_188 (by decide) (fun c23 => ?_) (fun c23 => ?_)
      · replace c23 := cz_neT gz22 c23
        clear gz22
        refine lv_iconst (v := jI 0) hx hb dX9_checked_195 rfl ?_
        rw [hQ9]
        refine ret_i (mc := 0) (ms := 0) hx hb hr hlocks hw hS (by first | exact Nat.le_of_ble_eq_true rfl | omega) (by first | exact Nat.le_of_ble_eq_true rfl | omega) dX9_checked_196 ?_
        exact ⟨rfl, by omega, (by unfold ckM; rw [ckF_0 (by (try delta Hid at *); omega) (by (try delta Hid at *); omega)]; have h9 := hww (by omega); split <;> omega)⟩
      · replace c23 := cz_neF gz22 c23
        clear gz22
        refine lv_iconst (v := jI 5) hx hb dX9_checked_191 rfl ?_
        refine lv_goto (tgt := 196) hx hb dX9_checked_192 (by decide) ?_
        rw [hQ9]
        refine ret_i (mc := 0) (ms := 0) hx hb hr hlocks hw hS (by first | exact Nat.le_of_ble_eq_true rfl | omega) (by first | exact Nat.le_of_ble_eq_true rfl | omega) dX9_checked_196 ?_
        exact ⟨rfl, by omega, (by unfold ckM; rw [ckF_0 (by (try delta Hid at *); omega) (by (try delta Hid at *); omega)]; have h9 := hww (by omega); split <;> omega)⟩
    by_cases c24 : (X 50 0 cq) = 1
    · refine lv_tableIn (off := 49) (tgt := 197) hx hb dX9_checked_148 (by rw [tc4]; omega) (by rw [tc4]; omega) (by rw [tc4, c24]; rfl) (by decide) ?_
      refine lv_lload hx hb dX9_checked_197 (lv_at hl 6 rfl) ?_
      refine lv_lconst (v := jL 0) hx hb dX9_checked_199 (by decide) ?_
      refine x_lcmp hx hb (by omega) (by omega) dX9_checked_200 ?_
      obtain ⟨z25, ez25⟩ : ∃ y : Int, y = cmpZ vz 0 := ⟨_, rfl⟩
      rw [← ez25]
      have gz25 : (z25 < 0 ↔ (vz : Int) < 0) ∧ (z25 = 0 ↔ (vz : Int) = 0) ∧ -1 ≤ z25 ∧ z25 ≤ 1 := by rw [ez25]; exact ⟨cmpZ_lt, cmpZ_eq, (cmpZ_r _ _).1, (cmpZ_r _ _).2⟩
      clear ez25
      refine x_if_ge (tgt := 208) hx hb (by omega) dX9_checked_201 (by decide) (fun c26 => ?_) (fun c26 => ?_)
      · replace c26 := cz_geT gz25 c26
        clear gz25
        refine lv_aload_n hx hb dX9_checked_208 rfl (lv_at hl 0 rfl) ?_
        refine x_geto hx hb hf9 hw (by first | exact Int.le_refl 0 | omega) (by first | exact zlt hc40 | omega) sl_40_14 lk45 dX9_checked_209 ?_
        refine lv_lload hx hb dX9_checked_212 (lv_at hl 6 rfl) ?_
        refine x_l2i hx hb dX9_checked_214 ?_
        refine x_iald hx hb hK.1 hw (by first | exact Int.le_refl 0 | omega) (by first | exact zlt hc55 | omega) ar_55 (len_E ar_55 (by first | exact Nat.ne_of_beq_eq_false rfl | decide)) (by omega) (by omega) (by omega) dX9_checked_215 ?_
        have f27 : 0 ≤ X 55 0 vz ∧ X 55 0 vz ≤ 7 := hR 55 0 vz
        refine x_i2l hx hb (by omega) dX9_checked_216 ?_
        refine lv_aload_n hx hb dX9_checked_217 rfl (lv_at hl 0 rfl) ?_
        refine x_geto hx hb hf9 hw (by first | exact Int.le_refl 0 | omega) (by first | exact zlt hc40 | omega) sl_40_12 lk42 dX9_checked_218 ?_
        refine lv_iload_n hx hb dX9_checked_221 rfl (lv_at hl 2 rfl) ?_
        refine x_lald hx hb hK.1 hw (by first | exact Int.le_refl 0 | omega) (by first | exact zlt hc53 | omega) ar_53 (len_E ar_53 (by first | exact Nat.ne_of_beq_eq_false rfl | decide)) (by omega) (by omega) (by omega) dX9_checked_222 ?_
        have f28 : (-9223372036854775808) ≤ X 53 0 cq ∧ X 53 0 cq ≤ 9223372036854775807 := hR 53 0 cq
        refine x_lcmp hx hb (by omega) (by omega) dX9_checked_223 ?_
        obtain ⟨z29, ez29⟩ : ∃ y : Int, y = cmpZ (X 55 0 vz) (X 53 0 cq) := ⟨_, rfl⟩
        rw [← ez29]
        have gz29 : (z29 < 0 ↔ ((X 55 0 vz) : Int) < (X 53 0 cq)) ∧ (z29 = 0 ↔ ((X 55 0 vz) : Int) = (X 53 0 cq)) ∧ -1 ≤ z29 ∧ z29 ≤ 1 := by rw [ez29]; exact ⟨cmpZ_lt, cmpZ_eq, (cmpZ_r _ _).1, (cmpZ_r _ _).2⟩
        clear ez29
        refine x_if_eq (tgt := 231) hx hb (by omega) dX9_checked_224 (by decide) (fun c30 => ?_) (fun c30 => ?_)
        · replace c30 := cz_eqT gz29 c30
          clear gz29
          refine lv_iconst (v := jI 0) hx hb dX9_checked_231 rfl ?_
          rw [hQ9]
          refine ret_i (mc := 0) (ms := 0) hx hb hr hlocks hw hS (by first | exact Nat.le_of_ble_eq_true rfl | omega) (by first | exact Nat.le_of_ble_eq_true rfl | omega) dX9_checked_232 ?_
          exact ⟨rfl, by omega, (by unfold ckM; rw [ckF_1 (by (try delta Hid at *); omega) (by (try delta Hid at *); omega)]; rw [← hvv]; have f55 : 0 ≤ X 55 0 vz ∧ X 55 0 vz ≤ 7 := hR 55 0 vz; (repeat' split) <;> omega)⟩
        · replace c30 := cz_eqF gz29 c30
          clear gz29
          refine lv_iconst (v := jI 4) hx hb dX9_checked_227 rfl ?_
          refine lv_goto (tgt := 232) hx hb dX9_checked_228 (by decide) ?_
          rw [hQ9]
          refine ret_i (mc := 0) (ms := 0) hx hb hr hlocks hw hS (by first | exact Nat.le_of_ble_eq_true rfl | omega) (by first | exact Nat.le_of_ble_eq_true rfl | omega) dX9_checked_232 ?_
          exact ⟨rfl, by omega, (by unfold ckM; rw [ckF_1 (by (try delta Hid at *); omega) (by (try delta Hid at *); omega)]; rw [← hvv]; have f55 : 0 ≤ X 55 0 vz ∧ X 55 0 vz ≤ 7 := hR 55 0 vz; (repeat' split) <;> omega)⟩
      · replace c26 := cz_geF gz25 c26
        clear gz25
        refine lv_iconst (v := jI 1) hx hb dX9_checked_204 rfl ?_
        refine lv_goto (tgt := 232) hx hb dX9_checked_205 (by decide) ?_
        rw [hQ9]
        refine ret_i (mc := 0) (ms := 0) hx hb hr hlocks hw hS (by first | exact Nat.le_of_ble_eq_true rfl | omega) (by first | exact Nat.le_of_ble_eq_true rfl | omega) dX9_checked_232 ?_
        exact ⟨rfl, by omega, (by unfold ckM; rw [ckF_1 (by (try delta Hid at *); omega) (by (try delta Hid at *); omega)]; rw [← hvv]; have f55 : 0 ≤ X 55 0 vz ∧ X 55 0 vz ≤ 7 := hR 55 0 vz; (repeat' split) <;> omega)⟩
    by_cases c31 : (X 50 0 cq) = 2
    · refine lv_tableIn (off := 85) (tgt := 233) hx hb dX9_checked_148 (by rw [tc4]; omega) (by rw [tc4]; omega) (by rw [tc4, c31]; rfl) (by decide) ?_
      refine lv_lload hx hb dX9_checked_233 (lv_at hl 6 rfl) ?_
      refine lv_lconst (v := jL 0) hx hb dX9_checked_235 (by decide) ?_
      refine x_lcmp hx hb (by omega) (by omega) dX9_checked_236 ?_
      obtain ⟨z32, ez32⟩ : ∃ y : Int, y = cmpZ vz 0 := ⟨_, rfl⟩
      rw [← ez32]
      have gz32 : (z32 < 0 ↔ (vz : Int) < 0) ∧ (z32 = 0 ↔ (vz : Int) = 0) ∧ -1 ≤ z32 ∧ z32 ≤ 1 := by rw [ez32]; exact ⟨cmpZ_lt, cmpZ_eq, (cmpZ_r _ _).1, (cmpZ_r _ _).2⟩
      clear ez32
      refine x_if_ge (tgt := 242) hx hb (by omega) dX9_checked_237 (by decide) (fun c33 => ?_) (fun c33 => ?_)
      · replace c33 := cz_geT gz32 c33
        clear gz32
        refine lv_lload hx hb dX9_checked_242 (lv_at hl 7 rfl) ?_
        refine lv_lconst (v := jL 0) hx hb dX9_checked_244 (by decide) ?_
        refine x_lcmp hx hb (by omega) (by omega) dX9_checked_245 ?_
        obtain ⟨z34, ez34⟩ : ∃ y : Int, y = cmpZ wz 0 := ⟨_, rfl⟩
        rw [← ez34]
        have gz34 : (z34 < 0 ↔ (wz : Int) < 0) ∧ (z34 = 0 ↔ (wz : Int) = 0) ∧ -1 ≤ z34 ∧ z34 ≤ 1 := by rw [ez34]; exact ⟨cmpZ_lt, cmpZ_eq, (cmpZ_r _ _).1, (cmpZ_r _ _).2⟩
        clear ez34
        refine x_if_lt (tgt := 264) hx hb (by omega) dX9_checked_246 (by decide) (fun c35 => ?_) (fun c35 => ?_)
        · replace c35 := cz_ltT gz34 c35
          clear gz34
          refine lv_iconst (v := jI 2) hx hb dX9_checked_264 rfl ?_
          rw [hQ9]
          refine ret_i (mc := 0) (ms := 0) hx hb hr hlocks hw hS (by first | exact Nat.le_of_ble_eq_true rfl | omega) (by first | exact Nat.le_of_ble_eq_true rfl | omega) dX9_checked_265 ?_
          exact ⟨rfl, by omega, (by unfold ckM; rw [ckF_2 (by (try delta Hid at *); omega) (by (try delta Hid at *); omega)]; have h9 := hww (by omega); rw [← hvv, ← h9]; have f58 : 0 ≤ X 58 0 vz ∧ X 58 0 vz ≤ 12 := hR 58 0 vz; (repeat' split) <;> omega)⟩
        · replace c35 := cz_ltF gz34 c35
          clear gz34
          refine lv_lload hx hb dX9_checked_249 (lv_at hl 7 rfl) ?_
          refine lv_aload_n hx hb dX9_checked_251 rfl (lv_at hl 0 rfl) ?_
          refine x_geto hx hb hf9 hw (by first | exact Int.le_refl 0 | omega) (by first | exact zlt hc40 | omega) sl_40_17 lk54 dX9_checked_252 ?_
          refine lv_lload hx hb dX9_checked_255 (lv_at hl 6 rfl) ?_
          refine x_l2i hx hb dX9_checked_257 ?_
          refine x_iald hx hb hK.1 hw (by first | exact Int.le_refl 0 | omega) (by first | exact zlt hc58 | omega) ar_58 (len_E ar_58 (by first | exact Nat.ne_of_beq_eq_false rfl | decide)) (by omega) (by omega) (by omega) dX9_checked_258 ?_
          have f36 : 0 ≤ X 58 0 vz ∧ X 58 0 vz ≤ 12 := hR 58 0 vz
          refine x_i2l hx hb (by omega) dX9_checked_259 ?_
          refine x_lcmp hx hb (by omega) (by omega) dX9_checked_260 ?_
          obtain ⟨z37, ez37⟩ : ∃ y : Int, y = cmpZ wz (X 58 0 vz) := ⟨_, rfl⟩
          rw [← ez37]
          have gz37 : (z37 < 0 ↔ (wz : Int) < (X 58 0 vz)) ∧ (z37 = 0 ↔ (wz : Int) = (X 58 0 vz)) ∧ -1 ≤ z37 ∧ z37 ≤ 1 := by rw [ez37]; exact ⟨cmpZ_lt, cmpZ_eq, (cmpZ_r _ _).1, (cmpZ_r _ _).2⟩
          clear ez37
          refine x_if_lt (tgt := 266) hx hb (by omega) dX9_checked_261 (by decide) (fun c38 => ?_) (fun c38 => ?_)
          · replace c38 := cz_ltT gz37 c38
            clear gz37
            refine lv_aload_n hx hb dX9_checked_266 rfl (lv_at hl 0 rfl) ?_
            refine x_geto hx hb hf9 hw (by first | exact Int.le_refl 0 | omega) (by first | exact zlt hc40 | omega) sl_40_18 lk57 dX9_checked_267 ?_
            refine lv_bipush (v := jI 12) hx hb dX9_checked_270 (by decide) ?_
            refine lv_lload hx hb dX9_checked_272 (lv_at hl 6 rfl) ?_
            refine x_l2i hx hb dX9_checked_274 ?_
            refine x_imul hx hb dX9_checked_275 ?_
            refine lv_lload hx hb dX9_checked_276 (lv_at hl 7 rfl) ?_
            refine x_l2i hx hb dX9_checked_278 ?_
            refine x_iadd hx hb dX9_checked_279 ?_
            refine x_lald hx hb hK.1 hw (by first | exact Int.le_refl 0 | omega) (by first | exact zlt hc59 | omega) ar_59 (len_E ar_59 (by first | exact Nat.ne_of_beq_eq_false rfl | decide)) (by omega) (by omega) (by omega) dX9_checked_280 ?_
            have f39 : (-9223372036854775808) ≤ X 59 0 ((12 * vz) + wz) ∧ X 59 0 ((12 * vz) + wz) ≤ 9223372036854775807 := hR 59 0 ((12 * vz) + wz)
            refine lv_aload_n hx hb dX9_checked_281 rfl (lv_at hl 0 rfl) ?_
            refine x_geto hx hb hf9 hw (by first | exact Int.le_refl 0 | omega) (by first | exact zlt hc40 | omega) sl_40_12 lk42 dX9_checked_282 ?_
            refine lv_iload_n hx hb dX9_checked_285 rfl (lv_at hl 2 rfl) ?_
            refine x_lald hx hb hK.1 hw (by first | exact Int.le_refl 0 | omega) (by first | exact zlt hc53 | omega) ar_53 (len_E ar_53 (by first | exact Nat.ne_of_beq_eq_false rfl | decide)) (by omega) (by omega) (by omega) dX9_checked_286 ?_
            have f40 : (-9223372036854775808) ≤ X 53 0 cq ∧ X 53 0 cq ≤ 9223372036854775807 := hR 53 0 cq
            refine x_lcmp hx hb (by omega) (by omega) dX9_checked_287 ?_
            obtain ⟨z41, ez41⟩ : ∃ y : Int, y = cmpZ (X 59 0 ((12 * vz) + wz)) (X 53 0 cq) := ⟨_, rfl⟩
            rw [← ez41]
            have gz41 : (z41 < 0 ↔ ((X 59 0 ((12 * vz) + wz)) : Int) < (X 53 0 cq)) ∧ (z41 = 0 ↔ ((X 59 0 ((12 * vz) + wz)) : Int) = (X 53 0 cq)) ∧ -1 ≤ z41 ∧ z41 ≤ 1 := by rw [ez41]; exact ⟨cmpZ_lt, cmpZ_eq, (cmpZ_r _ _).1, (cmpZ_r _ _).2⟩
            clear ez41
            refine x_if_le (tgt := 295) hx hb (by omega) dX9_checked_288 (by decide) (fun c42 => ?_) (fun c42 => ?_)
            · replace c42 := cz_leT gz41 c42
              clear gz41
              refine lv_bipush (v := jI 6) hx hb dX9_checked_295 (by decide) ?_
              rw [hQ9]
              refine ret_i (mc := 0) (ms := 0) hx hb hr hlocks hw hS (by first | exact Nat.le_of_ble_eq_true rfl | omega) (by first | exact Nat.le_of_ble_eq_true rfl | omega) dX9_checked_297 ?_
              exact ⟨rfl, by omega, (by unfold ckM; rw [ckF_2 (by (try delta Hid at *); omega) (by (try delta Hid at *); omega)]; have h9 := hww (by omega); rw [← hvv, ← h9]; have f58 : 0 ≤ X 58 0 vz ∧ X 58 0 vz ≤ 12 := hR 58 0 vz; (repeat' split) <;> omega)⟩
            · replace c42 := cz_leF gz41 c42
              clear gz41
              refine lv_iconst (v := jI 0) hx hb dX9_checked_291 rfl ?_
              refine lv_goto (tgt := 297) hx hb dX9_checked_292 (by decide) ?_
              rw [hQ9]
              refine ret_i (mc := 0) (ms := 0) hx hb hr hlocks hw hS (by first | exact Nat.le_of_ble_eq_true rfl | omega) (by first | exact Nat.le_of_ble_eq_true rfl | omega) dX9_checked_297 ?_
              exact ⟨rfl, by omega, (by unfold ckM; rw [ckF_2 (by (try delta Hid at *); omega) (by (try delta Hid at *); omega)]; have h9 := hww (by omega); rw [← hvv, ← h9]; have f58 : 0 ≤ X 58 0 vz ∧ X 58 0 vz ≤ 12 := hR 58 0 vz; (repeat' split) <;> omega)⟩
          · replace c38 := cz_ltF gz37 c38
            clear gz37
            refine lv_iconst (v := jI 2) hx hb dX9_checked_264 rfl ?_
            rw [hQ9]
            refine ret_i (mc := 0) (ms := 0) hx hb hr hlocks hw hS (by first | exact Nat.le_of_ble_eq_true rfl | omega) (by first | exact Nat.le_of_ble_eq_true rfl | omega) dX9_checked_265 ?_
            exact ⟨rfl, by omega, (by unfold ckM; rw [ckF_2 (by (try delta Hid at *); omega) (by (try delta Hid at *); omega)]; have h9 := hww (by omega); rw [← hvv, ← h9]; have f58 : 0 ≤ X 58 0 vz ∧ X 58 0 vz ≤ 12 := hR 58 0 vz; (repeat' split) <;> omega)⟩
      · replace c33 := cz_geF gz32 c33
        clear gz32
        refine lv_iconst (v := jI 1) hx hb dX9_checked_240 rfl ?_
        rw [hQ9]
        refine ret_i (mc := 0) (ms := 0) hx hb hr hlocks hw hS (by first | exact Nat.le_of_ble_eq_true rfl | omega) (by first | exact Nat.le_of_ble_eq_true rfl | omega) dX9_checked_241 ?_
        exact ⟨rfl, by omega, (by unfold ckM; rw [ckF_2 (by (try delta Hid at *); omega) (by (try delta Hid at *); omega)]; have h9 := hww (by omega); rw [← hvv, ← h9]; have f58 : 0 ≤ X 58 0 vz ∧ X 58 0 vz ≤ 12 := hR 58 0 vz; (repeat' split) <;> omega)⟩
    by_cases c43 : (X 50 0 cq) = 3
    · refine lv_tableIn (off := 150) (tgt := 298) hx hb dX9_checked_148 (by rw [tc4]; omega) (by rw [tc4]; omega) (by rw [tc4, c43]; rfl) (by decide) ?_
      refine lv_lload hx hb dX9_checked_298 (lv_at hl 6 rfl) ?_
      refine lv_ldc2 (v := jL 12) hx hb hown (hts (.constantLong RX9 201 (12)) (by first | exact gj_X9_checked_0 _ (gp_4 (gp_4 (gp_1 gp_h))) | decide +kernel)) dX9_checked_300 ?_
      refine x_lcmp hx hb (by omega) (by omega) dX9_checked_303 ?_
      obtain ⟨z44, ez44⟩ : ∃ y : Int, y = cmpZ vz 12 := ⟨_, rfl⟩
      rw [← ez44]
      have gz44 : (z44 < 0 ↔ (vz : Int) < 12) ∧ (z44 = 0 ↔ (vz : Int) = 12) ∧ -1 ≤ z44 ∧ z44 ≤ 1 := by rw [ez44]; exact ⟨cmpZ_lt, cmpZ_eq, (cmpZ_r _ _).1, (cmpZ_r _ _).2⟩
      clear ez44
      refine x_if_le (tgt := 312) hx hb (by omega) dX9_checked_304 (by decide) (fun c45 => ?_) (fun c45 => ?_)
      · replace c45 := cz_leT gz44 c45
        clear gz44
        refine lv_lload hx hb dX9_checked_312 (lv_at hl 6 rfl) ?_
        refine lv_lconst (v := jL 0) hx hb dX9_checked_314 (by decide) ?_
        refine x_lcmp hx hb (by omega) (by omega) dX9_checked_315 ?_
        obtain ⟨z46, ez46⟩ : ∃ y : Int, y = cmpZ vz 0 := ⟨_, rfl⟩
        rw [← ez46]
        have gz46 : (z46 < 0 ↔ (vz : Int) < 0) ∧ (z46 = 0 ↔ (vz : Int) = 0) ∧ -1 ≤ z46 ∧ z46 ≤ 1 := by rw [ez46]; exact ⟨cmpZ_lt, cmpZ_eq, (cmpZ_r _ _).1, (cmpZ_r _ _).2⟩
        clear ez46
        refine x_if_ge (tgt := 323) hx hb (by omega) dX9_checked_316 (by decide) (fun c47 => ?_) (fun c47 => ?_)
        · replace c47 := cz_geT gz46 c47
          clear gz46
          refine lv_iconst (v := jI 0) hx hb dX9_checked_323 rfl ?_
          rw [hQ9]
          refine ret_i (mc := 0) (ms := 0) hx hb hr hlocks hw hS (by first | exact Nat.le_of_ble_eq_true rfl | omega) (by first | exact Nat.le_of_ble_eq_true rfl | omega) dX9_checked_324 ?_
          exact ⟨rfl, by omega, (by unfold ckM; rw [ckF_3 (by (try delta Hid at *); omega) (by (try delta Hid at *); omega)]; rw [← hvv]; (repeat' split) <;> omega)⟩
        · replace c47 := cz_geF gz46 c47
          clear gz46
          refine lv_iconst (v := jI 3) hx hb dX9_checked_319 rfl ?_
          refine lv_goto (tgt := 324) hx hb dX9_checked_320 (by decide) ?_
          rw [hQ9]
          refine ret_i (mc := 0) (ms := 0) hx hb hr hlocks hw hS (by first | exact Nat.le_of_ble_eq_true rfl | omega) (by first | exact Nat.le_of_ble_eq_true rfl | omega) dX9_checked_324 ?_
          exact ⟨rfl, by omega, (by unfold ckM; rw [ckF_3 (by (try delta Hid at *); omega) (by (try delta Hid at *); omega)]; rw [← hvv]; (repeat' split) <;> omega)⟩
      · replace c45 := cz_leF gz44 c45
        clear gz44
        refine lv_bipush (v := jI 6) hx hb dX9_checked_307 (by decide) ?_
        refine lv_goto (tgt := 324) hx hb dX9_checked_309 (by decide) ?_
        rw [hQ9]
        refine ret_i (mc := 0) (ms := 0) hx hb hr hlocks hw hS (by first | exact Nat.le_of_ble_eq_true rfl | omega) (by first | exact Nat.le_of_ble_eq_true rfl | omega) dX9_checked_324 ?_
        exact ⟨rfl, by omega, (by unfold ckM; rw [ckF_3 (by (try delta Hid at *); omega) (by (try delta Hid at *); omega)]; rw [← hvv]; (repeat' split) <;> omega)⟩
    have c48 : (X 50 0 cq) = 4 := by omega
    refine lv_tableIn (off := 177) (tgt := 325) hx hb dX9_checked_148 (by rw [tc4]; omega) (by rw [tc4]; omega) (by rw [tc4, c48]; rfl) (by decide) ?_
    refine lv_lload hx hb dX9_checked_325 (lv_at hl 6 rfl) ?_
    refine lv_aload_n hx hb dX9_checked_327 rfl (lv_at hl 0 rfl) ?_
    refine x_geto hx hb hf9 hw (by first | exact Int.le_refl 0 | omega) (by first | exact zlt hc40 | omega) sl_40_12 lk42 dX9_checked_328 ?_
    refine lv_iload_n hx hb dX9_checked_331 rfl (lv_at hl 2 rfl) ?_
    refine x_lald hx hb hK.1 hw (by first | exact Int.le_refl 0 | omega) (by first | exact zlt hc53 | omega) ar_53 (len_E ar_53 (by first | exact Nat.ne_of_beq_eq_false rfl | decide)) (by omega) (by omega) (by omega) dX9_checked_332 ?_
    have f49 : (-9223372036854775808) ≤ X 53 0 cq ∧ X 53 0 cq ≤ 9223372036854775807 := hR 53 0 cq
    refine x_lcmp hx hb (by omega) (by omega) dX9_checked_333 ?_
    obtain ⟨z50, ez50⟩ : ∃ y : Int, y = cmpZ vz (X 53 0 cq) := ⟨_, rfl⟩
    rw [← ez50]
    have gz50 : (z50 < 0 ↔ (vz : Int) < (X 53 0 cq)) ∧ (z50 = 0 ↔ (vz : Int) = (X 53 0 cq)) ∧ -1 ≤ z50 ∧ z50 ≤ 1 := by rw [ez50]; exact ⟨cmpZ_lt, cmpZ_eq, (cmpZ_r _ _).1, (cmpZ_r _ _).2⟩
    clear ez50
    refine x_if_ge (tgt := 342) hx hb (by omega) dX9_checked_334 (by decide) (fun c51 => ?_) (fun c51 => ?_)
    · replace c51 := cz_geT gz50 c51
      clear gz50
      refine lv_iconst (v := jI 0) hx hb dX9_checked_342 rfl ?_
      rw [hQ9]
      refine ret_i (mc := 0) (ms := 0) hx hb hr hlocks hw hS (by first | exact Nat.le_of_ble_eq_true rfl | omega) (by first | exact Nat.le_of_ble_eq_true rfl | omega) dX9_checked_343 ?_
      exact ⟨rfl, by omega, (by unfold ckM; rw [ckF_4 (by (try delta Hid at *); omega) (by (try delta Hid at *); omega)]; rw [← hvv]; (repeat' split) <;> omega)⟩
    · replace c51 := cz_geF gz50 c51
      clear gz50
      refine lv_bipush (v := jI 6) hx hb dX9_checked_337 (by decide) ?_
      refine lv_goto (tgt := 343) hx hb dX9_checked_339 (by decide) ?_
      rw [hQ9]
      refine ret_i (mc := 0) (ms := 0) hx hb hr hlocks hw hS (by first | exact Nat.le_of_ble_eq_true rfl | omega) (by first | exact Nat.le_of_ble_eq_true rfl | omega) dX9_checked_343 ?_
      exact ⟨rfl, by omega, (by unfold ckM; rw [ckF_4 (by (try delta Hid at *); omega) (by (try delta Hid at *); omega)]; rw [← hvv]; (repeat' split) <;> omega)⟩
  have lp101 : ∀  (H : Heap) (locs : List Loc) (ls : Array Slot), ((((X 51 0 cq) < X 44 0 (X 55 0 x) ∧ ((X 50 0 cq) = 2 → 3 ≤ X 46 0 (5 * X 55 0 x + (X 51 0 cq))) ∧ (((X 50 0 cq) = 1 ∨ (X 50 0 cq) = 5) → X 46 0 (5 * X 55 0 x + (X 51 0 cq)) = 2) ∧ (((X 50 0 cq) = 0 ∨ (X 50 0 cq) = 3 ∨ (X 50 0 cq) = 4) → X 46 0 (5 * X 55 0 x + (X 51 0 cq)) = 0)) ∧ (((X 50 0 cq) = 0 ∨ (X 50 0 cq) = 2) → (X 52 0 cq) < X 44 0 (X 55 0 x) ∧ X 46 0 (5 * X 55 0 x + (X 52 0 cq)) = 0))) → wd D tc base (ad, cnt, X, Y, ln) H → va_S (frA base) s.heap H locs → lv_has ls 13 [(0, .ref (ad 40 0)), (1, .int (jI x)), (2, .int (jI cq)), (3, .int (jI (X 50 0 cq))), (4, .int (jI (X 51 0 cq))), (5, .int (jI (X 52 0 cq)))] → W p l e ({ frames := 2, cells := 0, slots := 0, locals := 46 } : Room) s m av9 below meth c H locs 0 0 Q9 (F0 m 101 ls []) := by
    intro  H locs ls hfi hw hS hl
    refine lv_aload_n hx hb dX9_checked_101 rfl (lv_at hl 0 rfl) ?_
    refine x_geto hx hb hf9 hw (by first | exact Int.le_refl 0 | omega) (by first | exact zlt hc40 | omega) sl_40_15 lk48 dX9_checked_102 ?_
    refine lv_iconst (v := jI 5) hx hb dX9_checked_105 rfl ?_
    refine lv_iload_n hx hb dX9_checked_106 rfl (lv_at hl 1 rfl) ?_
    refine x_imul hx hb dX9_checked_107 ?_
    refine lv_iload hx hb dX9_checked_108 (lv_at hl 4 rfl) ?_
    refine x_iadd hx hb dX9_checked_110 ?_
    obtain ⟨hy1, hy2, hy3⟩ := hMI.1 x (X 51 0 cq) (by omega) (by omega) (by omega) (by omega)
    refine x_lald hx hb hK.1 hw (by first | exact Int.le_refl 0 | omega) (by first | exact zlt hc56 | omega) ar_56 (len_E ar_56 (by first | exact Nat.ne_of_beq_eq_false rfl | decide)) (by omega) (by omega) (by omega) dX9_checked_111 ?_
    have f52 : (-9223372036854775808) ≤ X 56 0 ((5 * x) + (X 51 0 cq)) ∧ X 56 0 ((5 * x) + (X 51 0 cq)) ≤ 9223372036854775807 := hR 56 0 ((5 * x) + (X 51 0 cq))
    refine lv_lstore (lv' := [(7, .long (jL (X 56 0 ((5 * x) + (X 51 0 cq))))), (0, .ref (ad 40 0)), (1, .int (jI x)), (2, .int (jI cq)), (3, .int (jI (X 50 0 cq))), (4, .int (jI (X 51 0 cq))), (5, .int (jI (X 52 0 cq)))]) hx hb dX9_checked_112 hl (by decide) rfl (fun ls hl => ?_)
    refine lv_iload hx hb dX9_checked_114 (lv_at hl 6 rfl) ?_
    refine lv_aload_n hx hb dX9_checked_116 rfl (lv_at hl 1 rfl) ?_
    refine x_geto hx hb hf9 hw (by first | exact Int.le_refl 0 | omega) (by first | exact zlt hc40 | omega) sl_40_3 lk13 dX9_checked_117 ?_
    refine lv_aload_n hx hb dX9_checked_120 rfl (lv_at hl 1 rfl) ?_
    refine x_geto hx hb hf9 hw (by first | exact Int.le_refl 0 | omega) (by first | exact zlt hc40 | omega) sl_40_14 lk45 dX9_checked_121 ?_
    refine lv_iload_n hx hb dX9_checked_124 rfl (lv_at hl 2 rfl) ?_
    refine x_iald hx hb hK.1 hw (by first | exact Int.le_refl 0 | omega) (by first | exact zlt hc55 | omega) ar_55 (len_E ar_55 (by first | exact Nat.ne_of_beq_eq_false rfl | decide)) (by omega) (by omega) (by omega) dX9_checked_125 ?_
    have f53 : 0 ≤ X 55 0 x ∧ X 55 0 x ≤ 7 := hR 55 0 x
    refine x_iald hx hb hK.1 hw (by first | exact Int.le_refl 0 | omega) (by first | exact zlt hc44 | omega) ar_44 (len_E ar_44 (by first | exact Nat.ne_of_beq_eq_false rfl | decide)) (by omega) (by omega) (by omega) dX9_checked_126 ?_
    have f54 : 0 ≤ X 44 0 (X 55 0 x) ∧ X 44 0 (X 55 0 x) ≤ 5 := hR 44 0 (X 55 0 x)
    refine x_icmp_ge (tgt := 144) hx hb (by omega) (by omega) dX9_checked_127 (by decide) (fun c55 => ?_) (fun c55 => ?_)
    · refine lv_lconst (v := jL 0) hx hb dX9_checked_144 (by decide) ?_
      refine lv_lstore (lv' := [(9, .long (jL 0)), (7, .long (jL (X 56 0 ((5 * x) + (X 51 0 cq))))), (0, .ref (ad 40 0)), (1, .int (jI x)), (2, .int (jI cq)), (3, .int (jI (X 50 0 cq))), (4, .int (jI (X 51 0 cq))), (5, .int (jI (X 52 0 cq)))]) hx hb dX9_checked_145 hl (by decide) rfl (fun ls hl => ?_)
      exact lp147 (X 56 0 ((5 * x) + (X 51 0 cq))) 0 _ _ _ (by omega) (by omega) (by omega) (by omega) (by omega) (by omega) (by omega) (hfi) hw hS (lv_sub hl [2, 3, 4, 5, 6, 7, 1, 0] rfl)
    · refine lv_aload_n hx hb dX9_checked_130 rfl (lv_at hl 1 rfl) ?_
      refine x_geto hx hb hf9 hw (by first | exact Int.le_refl 0 | omega) (by first | exact zlt hc40 | omega) sl_40_15 lk48 dX9_checked_131 ?_
      refine lv_iconst (v := jI 5) hx hb dX9_checked_134 rfl ?_
      refine lv_iload_n hx hb dX9_checked_135 rfl (lv_at hl 2 rfl) ?_
      refine x_imul hx hb dX9_checked_136 ?_
      refine lv_iload hx hb dX9_checked_137 (lv_at hl 6 rfl) ?_
      refine x_iadd hx hb dX9_checked_139 ?_
      refine x_lald hx hb hK.1 hw (by first | exact Int.le_refl 0 | omega) (by first | exact zlt hc56 | omega) ar_56 (len_E ar_56 (by first | exact Nat.ne_of_beq_eq_false rfl | decide)) (by omega) (by omega) (by omega) dX9_checked_140 ?_
      have f56 : (-9223372036854775808) ≤ X 56 0 ((5 * x) + (X 52 0 cq)) ∧ X 56 0 ((5 * x) + (X 52 0 cq)) ≤ 9223372036854775807 := hR 56 0 ((5 * x) + (X 52 0 cq))
      refine lv_goto (tgt := 145) hx hb dX9_checked_141 (by decide) ?_
      refine lv_lstore (lv' := [(9, .long (jL (X 56 0 ((5 * x) + (X 52 0 cq))))), (7, .long (jL (X 56 0 ((5 * x) + (X 51 0 cq))))), (0, .ref (ad 40 0)), (1, .int (jI x)), (2, .int (jI cq)), (3, .int (jI (X 50 0 cq))), (4, .int (jI (X 51 0 cq))), (5, .int (jI (X 52 0 cq)))]) hx hb dX9_checked_145 hl (by decide) rfl (fun ls hl => ?_)
      exact lp147 (X 56 0 ((5 * x) + (X 51 0 cq))) (X 56 0 ((5 * x) + (X 52 0 cq))) _ _ _ (by omega) (by omega) (by omega) (by omega) (by omega) (by omega) (by omega) (hfi) hw hS (lv_sub hl [2, 3, 4, 5, 6, 7, 1, 0] rfl)
  have lp73 : ∀ (fz : Int) (H : Heap) (locs : List Loc) (ls : Array Slot), (0 ≤ fz ∧ fz ≤ 1) → ((fz = 1 → ((X 51 0 cq) < X 44 0 (X 55 0 x) ∧ ((X 50 0 cq) = 2 → 3 ≤ X 46 0 (5 * X 55 0 x + (X 51 0 cq))) ∧ (((X 50 0 cq) = 1 ∨ (X 50 0 cq) = 5) → X 46 0 (5 * X 55 0 x + (X 51 0 cq)) = 2) ∧ (((X 50 0 cq) = 0 ∨ (X 50 0 cq) = 3 ∨ (X 50 0 cq) = 4) → X 46 0 (5 * X 55 0 x + (X 51 0 cq)) = 0))) ∧ (fz = 0 → ¬ ((X 51 0 cq) < X 44 0 (X 55 0 x) ∧ ((X 50 0 cq) = 2 → 3 ≤ X 46 0 (5 * X 55 0 x + (X 51 0 cq))) ∧ (((X 50 0 cq) = 1 ∨ (X 50 0 cq) = 5) → X 46 0 (5 * X 55 0 x + (X 51 0 cq)) = 2) ∧ (((X 50 0 cq) = 0 ∨ (X 50 0 cq) = 3 ∨ (X 50 0 cq) = 4) → X 46 0 (5 * X 55 0 x + (X 51 0 cq)) = 0)))) → wd D tc base (ad, cnt, X, Y, ln) H → va_S (frA base) s.heap H locs → lv_has ls 13 [(0, .ref (ad 40 0)), (1, .int (jI x)), (2, .int (jI cq)), (3, .int (jI (X 50 0 cq))), (4, .int (jI (X 51 0 cq))), (5, .int (jI (X 52 0 cq))), (6, .int (jI fz))] → W p l e ({ frames := 2, cells := 0, slots := 0, locals := 46 } : Room) s m av9 below meth c H locs 0 0 Q9 (F0 m 73 ls []) := by
    intro fz H locs ls hfz hfi hw hS hl
    refine lv_iload hx hb dX9_checked_73 (lv_at hl 6 rfl) ?_
    refine x_if_eq (tgt := 99) hx hb (by omega) dX9_checked_75 (by decide) (fun c57 => ?_) (fun c57 => ?_)
    · refine lv_iconst (v := jI 4) hx hb dX9_checked_99 rfl ?_
      rw [hQ9]
      refine ret_i (mc := 0) (ms := 0) hx hb hr hlocks hw hS (by first | exact Nat.le_of_ble_eq_true rfl | omega) (by first | exact Nat.le_of_ble_eq_true rfl | omega) dX9_checked_100 ?_
      exact ⟨rfl, by omega, (by unfold ckM; rw [ckF_c ⟨by omega, by omega⟩ (by (try delta Hid at *); omega)])⟩
    · refine lv_iload_n hx hb dX9_checked_78 rfl (lv_at hl 3 rfl) ?_
      refine x_if_eq (tgt := 87) hx hb (by omega) dX9_checked_79 (by decide) (fun c58 => ?_) (fun c58 => ?_)
      · refine lv_aload_n hx hb dX9_checked_87 rfl (lv_at hl 0 rfl) ?_
        refine lv_iload_n hx hb dX9_checked_88 rfl (lv_at hl 1 rfl) ?_
        refine lv_iload hx hb dX9_checked_89 (lv_at hl 5 rfl) ?_
        refine lv_iconst (v := jI 0) hx hb dX9_checked_91 rfl ?_
        refine lv_iconst (v := jI 0) hx hb dX9_checked_92 rfl ?_
        refine gos_i (run_V (As := [.int (jI x), .int (jI (X 52 0 cq)), .int (jI 0), .int (jI 0)]) (rest := []) hx hb hml hown hts (c_X9_isLane l D tc base ad cnt X Y ln hR hFx x (X 52 0 cq) 0 0 (by omega) (by omega) (by omega) (by omega)) (cwV 4 hts gX9_checked_X9_isLane rfl rfl rfl (by first | exact hd_X9_isLane | decide +kernel) ⟨Nat.le_of_ble_eq_true rfl, Nat.le_of_ble_eq_true rfl⟩) hK hw (by first | exact Int.le_refl 0 | omega) (by first | exact zlt hc40 | omega) sl_40_0 rfl rfl hl.1 rfl (Nat.le_of_ble_eq_true rfl) dX9_checked_93 ⟨Nat.le_of_ble_eq_true rfl, Nat.le_of_ble_eq_true rfl⟩) hS (fun z59 u60 H locs p61 hw hS => ?_)
        obtain ⟨eu60, p61⟩ := p61
        subst eu60
        rcases p61 with ⟨ez59, p61⟩ | ⟨ez59, p61⟩
        · subst ez59
          refine x_if_neT (tgt := 101) hx hb (by omega) (by decide) dX9_checked_96 (by decide) ?_
          exact lp101  _ _ _ ((by (try delta Hid at *); omega)) hw hS (lv_sub hl [0, 1, 2, 3, 4, 5] rfl)
        · subst ez59
          refine x_if_neF (tgt := 101) hx hb (by omega) (by decide) dX9_checked_96 (by decide) ?_
          refine lv_iconst (v := jI 4) hx hb dX9_checked_99 rfl ?_
          rw [hQ9]
          refine ret_i (mc := 0) (ms := 0) hx hb hr hlocks hw hS (by first | exact Nat.le_of_ble_eq_true rfl | omega) (by first | exact Nat.le_of_ble_eq_true rfl | omega) dX9_checked_100 ?_
          exact ⟨rfl, by omega, (by unfold ckM; rw [ckF_c ⟨by omega, by omega⟩ (by (try delta Hid at *); omega)])⟩
      · refine lv_iload_n hx hb dX9_checked_82 rfl (lv_at hl 3 rfl) ?_
        refine lv_iconst (v := jI 2) hx hb dX9_checked_83 rfl ?_
        refine x_icmp_ne (tgt := 101) hx hb (by omega) (by omega) dX9_checked_84 (by decide) (fun c62 => ?_) (fun c62 => ?_)
        · exact lp101  _ _ _ ((by (try delta Hid at *); omega)) hw hS (lv_sub hl [0, 1, 2, 3, 4, 5] rfl)
        · refine lv_aload_n hx hb dX9_checked_87 rfl (lv_at hl 0 rfl) ?_
          refine lv_iload_n hx hb dX9_checked_88 rfl (lv_at hl 1 rfl) ?_
          refine lv_iload hx hb dX9_checked_89 (lv_at hl 5 rfl) ?_
          refine lv_iconst (v := jI 0) hx hb dX9_checked_91 rfl ?_
          refine lv_iconst (v := jI 0) hx hb dX9_checked_92 rfl ?_
          refine gos_i (run_V (As := [.int (jI x), .int (jI (X 52 0 cq)), .int (jI 0), .int (jI 0)]) (rest := []) hx hb hml hown hts (c_X9_isLane l D tc base ad cnt X Y ln hR hFx x (X 52 0 cq) 0 0 (by omega) (by omega) (by omega) (by omega)) (cwV 4 hts gX9_checked_X9_isLane rfl rfl rfl (by first | exact hd_X9_isLane | decide +kernel) ⟨Nat.le_of_ble_eq_true rfl, Nat.le_of_ble_eq_true rfl⟩) hK hw (by first | exact Int.le_refl 0 | omega) (by first | exact zlt hc40 | omega) sl_40_0 rfl rfl hl.1 rfl (Nat.le_of_ble_eq_true rfl) dX9_checked_93 ⟨Nat.le_of_ble_eq_true rfl, Nat.le_of_ble_eq_true rfl⟩) hS (fun z63 u64 H locs p65 hw hS => ?_)
          obtain ⟨eu64, p65⟩ := p65
          subst eu64
          rcases p65 with ⟨ez63, p65⟩ | ⟨ez63, p65⟩
          · subst ez63
            refine x_if_neT (tgt := 101) hx hb (by omega) (by decide) dX9_checked_96 (by decide) ?_
            exact lp101  _ _ _ ((by (try delta Hid at *); omega)) hw hS (lv_sub hl [0, 1, 2, 3, 4, 5] rfl)
          · subst ez63
            refine x_if_neF (tgt := 101) hx hb (by omega) (by decide) dX9_checked_96 (by decide) ?_
            refine lv_iconst (v := jI 4) hx hb dX9_checked_99 rfl ?_
            rw [hQ9]
            refine ret_i (mc := 0) (ms := 0) hx hb hr hlocks hw hS (by first | exact Nat.le_of_ble_eq_true rfl | omega) (by first | exact Nat.le_of_ble_eq_true rfl | omega) dX9_checked_100 ?_
            exact ⟨rfl, by omega, (by unfold ckM; rw [ckF_c ⟨by omega, by omega⟩ (by (try delta Hid at *); omega)])⟩
  refine lv_iload_n hx hb dX9_checked_23 rfl (lv_at hl 2 rfl) ?_
  refine lv_iconst (v := jI 2) hx hb dX9_checked_24 rfl ?_
  refine x_icmp_ne (tgt := 40) hx hb (by omega) (by omega) dX9_checked_25 (by decide) (fun c66 => ?_) (fun c66 => ?_)
  · refine lv_iload_n hx hb dX9_checked_40 rfl (lv_at hl 2 rfl) ?_
    refine lv_iconst (v := jI 1) hx hb dX9_checked_41 rfl ?_
    refine x_icmp_eq (tgt := 50) hx hb (by omega) (by omega) dX9_checked_42 (by decide) (fun c67 => ?_) (fun c67 => ?_)
    · refine lv_aload_n hx hb dX9_checked_50 rfl (lv_at hl 3 rfl) ?_
      refine lv_iload_n hx hb dX9_checked_51 rfl (lv_at hl 4 rfl) ?_
      refine lv_iload hx hb dX9_checked_52 (lv_at hl 1 rfl) ?_
      refine lv_iconst (v := jI 2) hx hb dX9_checked_54 rfl ?_
      refine lv_iconst (v := jI 2) hx hb dX9_checked_55 rfl ?_
      refine gos_i (run_V (As := [.int (jI x), .int (jI (X 51 0 cq)), .int (jI 2), .int (jI 2)]) (rest := []) hx hb hml hown hts (c_X9_isLane l D tc base ad cnt X Y ln hR hFx x (X 51 0 cq) 2 2 (by omega) (by omega) (by omega) (by omega)) (cwV 4 hts gX9_checked_X9_isLane rfl rfl rfl (by first | exact hd_X9_isLane | decide +kernel) ⟨Nat.le_of_ble_eq_true rfl, Nat.le_of_ble_eq_true rfl⟩) hK hw (by first | exact Int.le_refl 0 | omega) (by first | exact zlt hc40 | omega) sl_40_0 rfl rfl hl.1 rfl (Nat.le_of_ble_eq_true rfl) dX9_checked_56 ⟨Nat.le_of_ble_eq_true rfl, Nat.le_of_ble_eq_true rfl⟩) hS (fun z68 u69 H locs p70 hw hS => ?_)
      obtain ⟨eu69, p70⟩ := p70
      subst eu69
      rcases p70 with ⟨ez68, p70⟩ | ⟨ez68, p70⟩
      · subst ez68
        refine lv_goto (tgt := 71) hx hb dX9_checked_59 (by decide) ?_
        refine lv_istore (lv' := [(6, .int (jI 1)), (5, .int (jI (X 52 0 cq))), (4, .int (jI (X 51 0 cq))), (3, .int (jI (X 50 0 cq))), (0, .ref (ad 40 0)), (1, .int (jI x)), (2, .int (jI cq))]) hx hb dX9_checked_71 hl (by decide) rfl (fun ls hl => ?_)
        exact lp73 1 _ _ _ (by omega) ((by (try delta Hid at *); omega)) hw hS (lv_sub hl [4, 5, 6, 3, 2, 1, 0] rfl)
      · subst ez68
        refine lv_goto (tgt := 71) hx hb dX9_checked_59 (by decide) ?_
        refine lv_istore (lv' := [(6, .int (jI 0)), (5, .int (jI (X 52 0 cq))), (4, .int (jI (X 51 0 cq))), (3, .int (jI (X 50 0 cq))), (0, .ref (ad 40 0)), (1, .int (jI x)), (2, .int (jI cq))]) hx hb dX9_checked_71 hl (by decide) rfl (fun ls hl => ?_)
        exact lp73 0 _ _ _ (by omega) ((by (try delta Hid at *); omega)) hw hS (lv_sub hl [4, 5, 6, 3, 2, 1, 0] rfl)
    · refine lv_iload_n hx hb dX9_checked_45 rfl (lv_at hl 2 rfl) ?_
      refine lv_iconst (v := jI 5) hx hb dX9_checked_46 rfl ?_
      refine x_icmp_ne (tgt := 62) hx hb (by omega) (by omega) dX9_checked_47 (by decide) (fun c71 => ?_) (fun c71 => ?_)
      · refine lv_aload_n hx hb dX9_checked_62 rfl (lv_at hl 3 rfl) ?_
        refine lv_iload_n hx hb dX9_checked_63 rfl (lv_at hl 4 rfl) ?_
        refine lv_iload hx hb dX9_checked_64 (lv_at hl 1 rfl) ?_
        refine lv_iconst (v := jI 0) hx hb dX9_checked_66 rfl ?_
        refine lv_iconst (v := jI 0) hx hb dX9_checked_67 rfl ?_
        refine gos_i (run_V (As := [.int (jI x), .int (jI (X 51 0 cq)), .int (jI 0), .int (jI 0)]) (rest := []) hx hb hml hown hts (c_X9_isLane l D tc base ad cnt X Y ln hR hFx x (X 51 0 cq) 0 0 (by omega) (by omega) (by omega) (by omega)) (cwV 4 hts gX9_checked_X9_isLane rfl rfl rfl (by first | exact hd_X9_isLane | decide +kernel) ⟨Nat.le_of_ble_eq_true rfl, Nat.le_of_ble_eq_true rfl⟩) hK hw (by first | exact Int.le_refl 0 | omega) (by first | exact zlt hc40 | omega) sl_40_0 rfl rfl hl.1 rfl (Nat.le_of_ble_eq_true rfl) dX9_checked_68 ⟨Nat.le_of_ble_eq_true rfl, Nat.le_of_ble_eq_true rfl⟩) hS (fun z72 u73 H locs p74 hw hS => ?_)
        obtain ⟨eu73, p74⟩ := p74
        subst eu73
        rcases p74 with ⟨ez72, p74⟩ | ⟨ez72, p74⟩
        · subst ez72
          refine lv_istore (lv' := [(6, .int (jI 1)), (5, .int (jI (X 52 0 cq))), (4, .int (jI (X 51 0 cq))), (3, .int (jI (X 50 0 cq))), (0, .ref (ad 40 0)), (1, .int (jI x)), (2, .int (jI cq))]) hx hb dX9_checked_71 hl (by decide) rfl (fun ls hl => ?_)
          exact lp73 1 _ _ _ (by omega) ((by (try delta Hid at *); omega)) hw hS (lv_sub hl [4, 5, 6, 3, 2, 1, 0] rfl)
        · subst ez72
          refine lv_istore (lv' := [(6, .int (jI 0)), (5, .int (jI (X 52 0 cq))), (4, .int (jI (X 51 0 cq))), (3, .int (jI (X 50 0 cq))), (0, .ref (ad 40 0)), (1, .int (jI x)), (2, .int (jI cq))]) hx hb dX9_checked_71 hl (by decide) rfl (fun ls hl => ?_)
          exact lp73 0 _ _ _ (by omega) ((by (try delta Hid at *); omega)) hw hS (lv_sub hl [4, 5, 6, 3, 2, 1, 0] rfl)
      · refine lv_aload_n hx hb dX9_checked_50 rfl (lv_at hl 3 rfl) ?_
        refine lv_iload_n hx hb dX9_checked_51 rfl (lv_at hl 4 rfl) ?_
        refine lv_iload hx hb dX9_checked_52 (lv_at hl 1 rfl) ?_
        refine lv_iconst (v := jI 2) hx hb dX9_checked_54 rfl ?_
        refine lv_iconst (v := jI 2) hx hb dX9_checked_55 rfl ?_
        refine gos_i (run_V (As := [.int (jI x), .int (jI (X 51 0 cq)), .int (jI 2), .int (jI 2)]) (rest := []) hx hb hml hown hts (c_X9_isLane l D tc base ad cnt X Y ln hR hFx x (X 51 0 cq) 2 2 (by omega) (by omega) (by omega) (by omega)) (cwV 4 hts gX9_checked_X9_isLane rfl rfl rfl (by first | exact hd_X9_isLane | decide +kernel) ⟨Nat.le_of_ble_eq_true rfl, Nat.le_of_ble_eq_true rfl⟩) hK hw (by first | exact Int.le_refl 0 | omega) (by first | exact zlt hc40 | omega) sl_40_0 rfl rfl hl.1 rfl (Nat.le_of_ble_eq_true rfl) dX9_checked_56 ⟨Nat.le_of_ble_eq_true rfl, Nat.le_of_ble_eq_true rfl⟩) hS (fun z75 u76 H locs p77 hw hS => ?_)
        obtain ⟨eu76, p77⟩ := p77
        subst eu76
        rcases p77 with ⟨ez75, p77⟩ | ⟨ez75, p77⟩
        · subst ez75
          refine lv_goto (tgt := 71) hx hb dX9_checked_59 (by decide) ?_
          refine lv_istore (lv' := [(6, .int (jI 1)), (5, .int (jI (X 52 0 cq))), (4, .int (jI (X 51 0 cq))), (3, .int (jI (X 50 0 cq))), (0, .ref (ad 40 0)), (1, .int (jI x)), (2, .int (jI cq))]) hx hb dX9_checked_71 hl (by decide) rfl (fun ls hl => ?_)
          exact lp73 1 _ _ _ (by omega) ((by (try delta Hid at *); omega)) hw hS (lv_sub hl [4, 5, 6, 3, 2, 1, 0] rfl)
        · subst ez75
          refine lv_goto (tgt := 71) hx hb dX9_checked_59 (by decide) ?_
          refine lv_istore (lv' := [(6, .int (jI 0)), (5, .int (jI (X 52 0 cq))), (4, .int (jI (X 51 0 cq))), (3, .int (jI (X 50 0 cq))), (0, .ref (ad 40 0)), (1, .int (jI x)), (2, .int (jI cq))]) hx hb dX9_checked_71 hl (by decide) rfl (fun ls hl => ?_)
          exact lp73 0 _ _ _ (by omega) ((by (try delta Hid at *); omega)) hw hS (lv_sub hl [4, 5, 6, 3, 2, 1, 0] rfl)
  · refine lv_aload_n hx hb dX9_checked_28 rfl (lv_at hl 3 rfl) ?_
    refine lv_iload_n hx hb dX9_checked_29 rfl (lv_at hl 4 rfl) ?_
    refine lv_iload hx hb dX9_checked_30 (lv_at hl 1 rfl) ?_
    refine lv_iconst (v := jI 3) hx hb dX9_checked_32 rfl ?_
    refine lv_iconst (v := jI 5) hx hb dX9_checked_33 rfl ?_
    refine gos_i (run_V (As := [.int (jI x), .int (jI (X 51 0 cq)), .int (jI 3), .int (jI 5)]) (rest := []) hx hb hml hown hts (c_X9_isLane l D tc base ad cnt X Y ln hR hFx x (X 51 0 cq) 3 5 (by omega) (by omega) (by omega) (by omega)) (cwV 4 hts gX9_checked_X9_isLane rfl rfl rfl (by first | exact hd_X9_isLane | decide +kernel) ⟨Nat.le_of_ble_eq_true rfl, Nat.le_of_ble_eq_true rfl⟩) hK hw (by first | exact Int.le_refl 0 | omega) (by first | exact zlt hc40 | omega) sl_40_0 rfl rfl hl.1 rfl (Nat.le_of_ble_eq_true rfl) dX9_checked_34 ⟨Nat.le_of_ble_eq_true rfl, Nat.le_of_ble_eq_true rfl⟩) hS (fun z78 u79 H locs p80 hw hS => ?_)
    obtain ⟨eu79, p80⟩ := p80
    subst eu79
    rcases p80 with ⟨ez78, p80⟩ | ⟨ez78, p80⟩
    · subst ez78
      refine lv_goto (tgt := 71) hx hb dX9_checked_37 (by decide) ?_
      refine lv_istore (lv' := [(6, .int (jI 1)), (5, .int (jI (X 52 0 cq))), (4, .int (jI (X 51 0 cq))), (3, .int (jI (X 50 0 cq))), (0, .ref (ad 40 0)), (1, .int (jI x)), (2, .int (jI cq))]) hx hb dX9_checked_71 hl (by decide) rfl (fun ls hl => ?_)
      exact lp73 1 _ _ _ (by omega) ((by (try delta Hid at *); omega)) hw hS (lv_sub hl [4, 5, 6, 3, 2, 1, 0] rfl)
    · subst ez78
      refine lv_goto (tgt := 71) hx hb dX9_checked_37 (by decide) ?_
      refine lv_istore (lv' := [(6, .int (jI 0)), (5, .int (jI (X 52 0 cq))), (4, .int (jI (X 51 0 cq))), (3, .int (jI (X 50 0 cq))), (0, .ref (ad 40 0)), (1, .int (jI x)), (2, .int (jI cq))]) hx hb dX9_checked_71 hl (by decide) rfl (fun ls hl => ?_)
      exact lp73 0 _ _ _ (by omega) ((by (try delta Hid at *); omega)) hw hS (lv_sub hl [4, 5, 6, 3, 2, 1, 0] rfl)

set_option maxHeartbeats 4000000 in
set_option maxRecDepth 100000 in
theorem c_X9_judged (l : Launch) (D : va_G) (tc : Nat → ClassId) (base : Nat) (ad : Nat → Int → Nat) (cnt : Nat → Int) (X : Nat → Int → Int → Int) (Y : Nat → Int → Int → Option Int) (ln : Int → Int) (hR : Rng X) (hFx : Fx cnt) (hMI : MInv X) (x : Int) (hx0 : 0 ≤ x ∧ x ≤ 29) (hxt : x < X 40 0 13) : KI l D tc base yX9_judged wsX9_judged ({ frames := 3, cells := 0, slots := 0, locals := 78 } : Room) [.ref (ad 40 0), .int (jI x)] (ad, cnt, X, Y, ln) 0 0 (fun z u => ∃ X1 : Nat → Int → Int → Int, u = (ad, cnt, X1, Y, ln) ∧ Rng X1 ∧ Frm [4029] X X1 ∧ MInv X1 ∧ (0 ≤ z ∧ z ≤ 10) ∧ jdM X x z) := by
  refine K_of (cc := cX9_judged) (maxL := 5) (ret := (some .int)) (by decide) rfl (Nat.le_of_ble_eq_true rfl) ?_
  intro p e s m below meth c ls hx hb hr hml hown hts hlocks hl hK hw hS
  have hown : s.vm.findClass RX9 = some m.cls := hown
  obtain ⟨av9, hav9⟩ : ∃ a9 : Array Value, a9 = ([.ref (ad 40 0), .int (jI x)] : List Value).toArray := ⟨_, rfl⟩
  rw [← hav9] at hts ⊢
  obtain ⟨Q9, hQ9⟩ : ∃ q9Q : State → Prop, q9Q = MQ below (QI D tc base (fun z u => ∃ X1 : Nat → Int → Int → Int, u = (ad, cnt, X1, Y, ln) ∧ Rng X1 ∧ Frm [4029] X X1 ∧ MInv X1 ∧ (0 ≤ z ∧ z ≤ 10) ∧ jdM X x z)) av9 s 0 0 (frA base) := ⟨_, rfl⟩
  rw [← hQ9]
  have hi9 : ∀ w ∈ wsX90, w ∈ wsX9_judged := fun w h => List.mem_cons_of_mem _ (List.mem_append_right _ h)
  have hf9 : fctx s m _ RX9 wsX9_judged D tc RX9 TX9 51 9 := ⟨hts, hi9, hown, hK.1, rfl⟩
  have lk30 := hts (.fieldLink RX9 30 (TX9 8).1 (TX9 8).2.1 (TX9 8).2.2.1) (gj_X9_judged_0 _ (gp_1 gp_h))
  have lk45 := hts (.fieldLink RX9 45 (TX9 14).1 (TX9 14).2.1 (TX9 14).2.2.1) (gj_X9_judged_0 _ (gp_h))
  have lk206 := hts (.fieldLink RX9 206 (TX9 28).1 (TX9 28).2.1 (TX9 28).2.2.1) (gj_X9_judged_0 _ (gp_1 (gp_1 gp_h)))
  have hc40 : cnt 40 = 1 := hFx.at 40 1 (by decide)
  have hc49 : cnt 49 = 1 := hFx.at 49 1 (by decide)
  have hc55 : cnt 55 = 1 := hFx.at 55 1 (by decide)
  have hl : lv_has ls 5 [(0, .ref (ad 40 0)), (1, .int (jI x))] := hl
  have fstypes : 0 ≤ X 40 0 2 ∧ X 40 0 2 ≤ 8 := hR 40 0 2
  have fsthings : 0 ≤ X 40 0 13 ∧ X 40 0 13 ≤ 30 := hR 40 0 13
  have fsmarks : 0 ≤ X 40 0 20 ∧ X 40 0 20 ≤ 4 := hR 40 0 20
  have fsnotes : 0 ≤ X 40 0 22 ∧ X 40 0 22 ≤ 80 := hR 40 0 22
  refine lv_aload_n hx hb dX9_judged_0 rfl (lv_at hl 0 rfl) ?_
  refine x_geto hx hb hf9 hw (by first | exact Int.le_refl 0 | omega) (by first | exact zlt hc40 | omega) sl_40_14 lk45 dX9_judged_1 ?_
  refine lv_iload_n hx hb dX9_judged_4 rfl (lv_at hl 1 rfl) ?_
  refine x_iald hx hb hK.1 hw (by first | exact Int.le_refl 0 | omega) (by first | exact zlt hc55 | omega) ar_55 (len_E ar_55 (by first | exact Nat.ne_of_beq_eq_false rfl | decide)) (by omega) (by omega) (by omega) dX9_judged_5 ?_
  have f1 : 0 ≤ X 55 0 x ∧ X 55 0 x ≤ 7 := hR 55 0 x
  refine lv_istore_n (lv' := [(2, .int (jI (X 55 0 x))), (0, .ref (ad 40 0)), (1, .int (jI x))]) hx hb dX9_judged_6 rfl hl (by decide) rfl (fun ls hl => ?_)
  refine lv_iconst (v := jI 0) hx hb dX9_judged_7 rfl ?_
  refine lv_istore_n (lv' := [(3, .int (jI 0)), (2, .int (jI (X 55 0 x))), (0, .ref (ad 40 0)), (1, .int (jI x))]) hx hb dX9_judged_8 rfl hl (by decide) rfl (fun ls hl => ?_)
  have lp9 : ∀ (nn : Nat) (cz : Int) (H : Heap) (locs : List Loc) (ls : Array Slot), (4 - cz) < (nn : Int) → (0 ≤ cz ∧ cz ≤ 4) → (∀ c', 0 ≤ c' → c' < cz → ckM X x (4 * X 55 0 x + c') = 0) → wd D tc base (ad, cnt, X, Y, ln) H → va_S (frA base) s.heap H locs → lv_has ls 5 [(0, .ref (ad 40 0)), (1, .int (jI x)), (2, .int (jI (X 55 0 x))), (3, .int (jI cz))] → W p l e ({ frames := 3, cells := 0, slots := 0, locals := 78 } : Room) s m av9 below meth c H locs 0 0 Q9 (F0 m 9 ls []) := by
    intro nn
    induction nn with
    | zero => intro cz H locs ls hm hcz hcl hw hS hl; exfalso; omega
    | succ nn ih9 =>
      intro cz H locs ls hm hcz hcl hw hS hl
      refine lv_iload_n hx hb dX9_judged_9 rfl (lv_at hl 3 rfl) ?_
      refine lv_aload_n hx hb dX9_judged_10 rfl (lv_at hl 0 rfl) ?_
      refine x_geto hx hb hf9 hw (by first | exact Int.le_refl 0 | omega) (by first | exact zlt hc40 | omega) sl_40_8 lk30 dX9_judged_11 ?_
      refine lv_iload_n hx hb dX9_judged_14 rfl (lv_at hl 2 rfl) ?_
      refine x_iald hx hb hK.1 hw (by first | exact Int.le_refl 0 | omega) (by first | exact zlt hc49 | omega) ar_49 (len_E ar_49 (by first | exact Nat.ne_of_beq_eq_false rfl | decide)) (by omega) (by omega) (by omega) dX9_judged_15 ?_
      have f2 : 0 ≤ X 49 0 (X 55 0 x) ∧ X 49 0 (X 55 0 x) ≤ 4 := hR 49 0 (X 55 0 x)
      refine x_icmp_ge (tgt := 50) hx hb (by omega) (by omega) dX9_judged_16 (by decide) (fun c3 => ?_) (fun c3 => ?_)
      · refine lv_iconst (v := jI 0) hx hb dX9_judged_50 rfl ?_
        rw [hQ9]
        refine ret_i (mc := 0) (ms := 0) hx hb hr hlocks hw hS (by first | exact Nat.le_of_ble_eq_true rfl | omega) (by first | exact Nat.le_of_ble_eq_true rfl | omega) dX9_judged_51 ?_
        exact ⟨X, rfl, hR, Frm.rf, hMI, by omega, Or.inl ⟨by omega, fun c a b => hcl c a (by omega)⟩⟩
      · refine lv_aload_n hx hb dX9_judged_19 rfl (lv_at hl 0 rfl) ?_
        refine lv_iload_n hx hb dX9_judged_20 rfl (lv_at hl 1 rfl) ?_
        refine lv_iconst (v := jI 4) hx hb dX9_judged_21 rfl ?_
        refine lv_iload_n hx hb dX9_judged_22 rfl (lv_at hl 2 rfl) ?_
        refine x_imul hx hb dX9_judged_23 ?_
        refine lv_iload_n hx hb dX9_judged_24 rfl (lv_at hl 3 rfl) ?_
        refine x_iadd hx hb dX9_judged_25 ?_
        refine gos_i (run_V (As := [.int (jI x), .int (jI ((4 * (X 55 0 x)) + cz))]) (rest := []) hx hb hml hown hts (c_X9_checked l D tc base ad cnt X Y ln hR hFx hMI x ((4 * (X 55 0 x)) + cz) (by omega) (by omega) (by omega)) (cwV 2 hts gX9_judged_X9_checked rfl rfl rfl (by first | exact hd_X9_checked | decide +kernel) ⟨Nat.le_of_ble_eq_true rfl, Nat.le_of_ble_eq_true rfl⟩) hK hw (by first | exact Int.le_refl 0 | omega) (by first | exact zlt hc40 | omega) sl_40_0 rfl rfl hl.1 rfl (Nat.le_of_ble_eq_true rfl) dX9_judged_26 ⟨Nat.le_of_ble_eq_true rfl, Nat.le_of_ble_eq_true rfl⟩) hS (fun z4 u5 H locs p6 hw hS => ?_)
        obtain ⟨eu5, p6⟩ := p6
        subst eu5
        refine lv_istore (lv' := [(4, .int (jI z4)), (0, .ref (ad 40 0)), (1, .int (jI x)), (2, .int (jI (X 55 0 x))), (3, .int (jI cz))]) hx hb dX9_judged_29 hl (by decide) rfl (fun ls hl => ?_)
        refine lv_iload hx hb dX9_judged_31 (lv_at hl 0 rfl) ?_
        refine x_if_eq (tgt := 44) hx hb (by omega) dX9_judged_33 (by decide) (fun c7 => ?_) (fun c7 => ?_)
        · refine lv_iinc (v := jI (cz + 1)) (lv' := [(3, .int (jI (cz + 1))), (4, .int (jI z4)), (0, .ref (ad 40 0)), (1, .int (jI x)), (2, .int (jI (X 55 0 x)))]) hx hb dX9_judged_44 hl (k := 4) rfl (jI_add _ _) (by decide) rfl (fun ls hl => ?_)
          refine lv_goto (tgt := 9) hx hb dX9_judged_47 (by decide) ?_
          exact ih9 (cz + 1) _ _ _ (by omega) (by omega) (fun c a b => if hc : c = cz then (by rw [hc]; omega) else hcl c a (by omega)) hw hS (lv_sub hl [2, 3, 4, 0] rfl)
        · refine lv_aload_n hx hb dX9_judged_36 rfl (lv_at hl 1 rfl) ?_
          refine lv_iload_n hx hb dX9_judged_37 rfl (lv_at hl 4 rfl) ?_
          refine x_puti (jz := 28) hx hb hf9 ⟨tyX9_ok, nmX9⟩ hw hS (by first | exact Int.le_refl 0 | omega) (by first | exact zlt hc40 | omega) sl_40_28 rfl lk206 rfl (tyX9_ok 28 (by decide)) rfl rfl dX9_judged_38 (fun H locs hw hS => ?_)
          obtain ⟨X8, hX8⟩ : ∃ Xq, Xq = u3 X 40 0 28 cz := ⟨_, rfl⟩
          rw [← hX8] at hw
          have hRX8 : Rng X8 := by rw [hX8]; exact rng_set hR (show 0 ≤ cz ∧ cz ≤ 3 by omega)
          have hVX8 : X8 40 0 28 = cz := by rw [hX8]; exact u3_s _ _ _ _ _
          have hFX8 : Frm [4029] X X8 := by rw [hX8]; exact Frm.set Frm.rf (show 4029 ∈ [4029] by first | exact nlm_in rfl | decide)
          refine lv_iload hx hb dX9_judged_41 (lv_at hl 0 rfl) ?_
          rw [hQ9]
          refine ret_i (mc := 0) (ms := 0) hx hb hr hlocks hw hS (by first | exact Nat.le_of_ble_eq_true rfl | omega) (by first | exact Nat.le_of_ble_eq_true rfl | omega) dX9_judged_43 ?_
          have q10 : Frm [4029] X X8 := by rw [hX8]; exact Frm.set Frm.rf (show 4029 ∈ [4029] by first | exact nlm_in rfl | decide)
          have hMq9 : MInv X8 := minv_frm hMI q10 (by decide)
          exact ⟨X8, rfl, hRX8, hFX8, hMq9, by omega, Or.inr ⟨by omega, cz, by omega, by omega, hcl, by omega⟩⟩
  exact lp9 (4 - 0 : Int).toNat.succ 0 _ _ _ (by omega) (by omega) (fun c a b => by omega) hw hS (lv_sub hl [2, 3, 1, 0] rfl)

set_option maxHeartbeats 4000000 in
set_option maxRecDepth 100000 in
theorem c_X9_judge (l : Launch) (D : va_G) (tc : Nat → ClassId) (base : Nat) (ad : Nat → Int → Nat) (cnt : Nat → Int) (X : Nat → Int → Int → Int) (Y : Nat → Int → Int → Option Int) (ln : Int → Int) (hR : Rng X) (hFx : Fx cnt) (hMI : MInv X) (x : Int) (hx : -2147483648 ≤ x ∧ x ≤ 2147483647) : KI l D tc base yX9_judge wsX9_judge ({ frames := 4, cells := 0, slots := 0, locals := 102 } : Room) [.ref (ad 40 0), .int (jI x)] (ad, cnt, X, Y, ln) 0 0 (fun z u => ∃ X1 : Nat → Int → Int → Int, u = (ad, cnt, X1, Y, ln) ∧ Rng X1 ∧ Frm [4001, 4029] X X1 ∧ MInv X1 ∧ (-2147483648 ≤ z ∧ z ≤ 2147483647) ∧ ((¬ (0 ≤ x ∧ x < X 40 0 13) ∧ z = -1) ∨ ((0 ≤ x ∧ x < X 40 0 13) ∧ ∃ how, jdM X x how ∧ ((how = 0 ∧ z = 1) ∨ (how ≠ 0 ∧ z = -10 - how))))) := by
  refine K_of (cc := cX9_judge) (maxL := 3) (ret := (some .int)) (by decide) rfl (Nat.le_of_ble_eq_true rfl) ?_
  intro p e s m below meth c ls hx hb hr hml hown hts hlocks hl hK hw hS
  have hown : s.vm.findClass RX9 = some m.cls := hown
  obtain ⟨av9, hav9⟩ : ∃ a9 : Array Value, a9 = ([.ref (ad 40 0), .int (jI x)] : List Value).toArray := ⟨_, rfl⟩
  rw [← hav9] at hts ⊢
  obtain ⟨Q9, hQ9⟩ : ∃ q9Q : State → Prop, q9Q = MQ below (QI D tc base (fun z u => ∃ X1 : Nat → Int → Int → Int, u = (ad, cnt, X1, Y, ln) ∧ Rng X1 ∧ Frm [4001, 4029] X X1 ∧ MInv X1 ∧ (-2147483648 ≤ z ∧ z ≤ 2147483647) ∧ ((¬ (0 ≤ x ∧ x < X 40 0 13) ∧ z = -1) ∨ ((0 ≤ x ∧ x < X 40 0 13) ∧ ∃ how, jdM X x how ∧ ((how = 0 ∧ z = 1) ∨ (how ≠ 0 ∧ z = -10 - how)))))) av9 s 0 0 (frA base) := ⟨_, rfl⟩
  rw [← hQ9]
  have hi9 : ∀ w ∈ wsX90, w ∈ wsX9_judge := fun w h => List.mem_cons_of_mem _ (List.mem_append_right _ h)
  have hf9 : fctx s m _ RX9 wsX9_judge D tc RX9 TX9 51 9 := ⟨hts, hi9, hown, hK.1, rfl⟩
  have lk145 := hts (.fieldLink RX9 145 (TX9 0).1 (TX9 0).2.1 (TX9 0).2.2.1) (gj_X9_judge_0 _ (gp_h))
  have hc40 : cnt 40 = 1 := hFx.at 40 1 (by decide)
  have hl : lv_has ls 3 [(0, .ref (ad 40 0)), (1, .int (jI x))] := hl
  have fstypes : 0 ≤ X 40 0 2 ∧ X 40 0 2 ≤ 8 := hR 40 0 2
  have fsthings : 0 ≤ X 40 0 13 ∧ X 40 0 13 ≤ 30 := hR 40 0 13
  have fsmarks : 0 ≤ X 40 0 20 ∧ X 40 0 20 ≤ 4 := hR 40 0 20
  have fsnotes : 0 ≤ X 40 0 22 ∧ X 40 0 22 ≤ 80 := hR 40 0 22
  refine lv_aload_n hx hb dX9_judge_0 rfl (lv_at hl 0 rfl) ?_
  refine lv_iconst (v := jI 0) hx hb dX9_judge_1 rfl ?_
  refine x_puti (jz := 0) hx hb hf9 ⟨tyX9_ok, nmX9⟩ hw hS (by first | exact Int.le_refl 0 | omega) (by first | exact zlt hc40 | omega) sl_40_0 rfl lk145 rfl (tyX9_ok 0 (by decide)) rfl rfl dX9_judge_2 (fun H locs hw hS => ?_)
  obtain ⟨X1, hX1⟩ : ∃ Xq, Xq = u3 X 40 0 0 0 := ⟨_, rfl⟩
  rw [← hX1] at hw
  have hRX1 : Rng X1 := by rw [hX1]; exact rng_set hR (show (-2147483648) ≤ 0 ∧ 0 ≤ 2147483647 by omega)
  have hVX1 : X1 40 0 0 = 0 := by rw [hX1]; exact u3_s _ _ _ _ _
  have hFX1 : Frm [4001, 4029] X X1 := by rw [hX1]; exact Frm.set Frm.rf (show 4001 ∈ [4001, 4029] by first | exact nlm_in rfl | decide)
  refine lv_aload_n hx hb dX9_judge_5 rfl (lv_at hl 0 rfl) ?_
  refine lv_iload_n hx hb dX9_judge_6 rfl (lv_at hl 1 rfl) ?_
  refine gos_i (run_V (As := [.int (jI x)]) (rest := []) hx hb hml hown hts (c_X9_isThing l D tc base ad cnt X1 Y ln hRX1 hFx x (by omega)) (cwV 1 hts gX9_judge_X9_isThing rfl rfl rfl (by first | exact hd_X9_isThing | decide +kernel) ⟨Nat.le_of_ble_eq_true rfl, Nat.le_of_ble_eq_true rfl⟩) hK hw (by first | exact Int.le_refl 0 | omega) (by first | exact zlt hc40 | omega) sl_40_0 rfl rfl hl.1 rfl (Nat.le_of_ble_eq_true rfl) dX9_judge_7 ⟨Nat.le_of_ble_eq_true rfl, Nat.le_of_ble_eq_true rfl⟩) hS (fun z2 u3 H locs p4 hw hS => ?_)
  obtain ⟨eu3, p4⟩ := p4
  subst eu3
  have e5 : X1 40 0 13 = X 40 0 13 := by rw [hX1, u3_j _ _ _ _ (by decide)]
  simp only [e5] at p4
  have q900002 : Frm [4001] X X1 := by rw [hX1]; exact Frm.set Frm.rf (show 4001 ∈ [4001] by first | exact nlm_in rfl | decide)
  rcases p4 with ⟨ez2, p4⟩ | ⟨ez2, p4⟩
  · subst ez2
    refine x_if_neT (tgt := 15) hx hb (by omega) (by decide) dX9_judge_10 (by decide) ?_
    refine lv_aload_n hx hb dX9_judge_15 rfl (lv_at hl 0 rfl) ?_
    refine lv_iload_n hx hb dX9_judge_16 rfl (lv_at hl 1 rfl) ?_
    have q7 : Frm [4001] X X1 := by rw [hX1]; exact Frm.set Frm.rf (show 4001 ∈ [4001] by first | exact nlm_in rfl | decide)
    have hMq6 : MInv X1 := minv_frm hMI q7 (by decide)
    have e8 : X1 40 0 13 = X 40 0 13 := by rw [hX1, u3_j _ _ _ _ (by decide)]
    refine gos_i (run_V (As := [.int (jI x)]) (rest := []) hx hb hml hown hts (c_X9_judged l D tc base ad cnt X1 Y ln hRX1 hFx hMq6 x (by omega) (by simp only [e8]; omega)) (cwV 1 hts gX9_judge_X9_judged rfl rfl rfl (by first | exact hd_X9_judged | decide +kernel) ⟨Nat.le_of_ble_eq_true rfl, Nat.le_of_ble_eq_true rfl⟩) hK hw (by first | exact Int.le_refl 0 | omega) (by first | exact zlt hc40 | omega) sl_40_0 rfl rfl hl.1 rfl (Nat.le_of_ble_eq_true rfl) dX9_judge_17 ⟨Nat.le_of_ble_eq_true rfl, Nat.le_of_ble_eq_true rfl⟩) hS (fun z9 u10 H locs p11 hw hS => ?_)
    obtain ⟨X12, eu10, hRX12, hG13, hMIX12, p11, hjdX12⟩ := p11
    subst eu10
    have hFX12 : Frm [4001, 4029] X X12 := Frm.tr hFX1 (Frm.mono hG13 (by first | exact nls_of rfl | decide))
    refine lv_istore_n (lv' := [(2, .int (jI z9)), (0, .ref (ad 40 0)), (1, .int (jI x))]) hx hb dX9_judge_20 rfl hl (by decide) rfl (fun ls hl => ?_)
    refine lv_iload_n hx hb dX9_judge_21 rfl (lv_at hl 0 rfl) ?_
    refine x_if_ne (tgt := 29) hx hb (by omega) dX9_judge_22 (by decide) (fun c14 => ?_) (fun c14 => ?_)
    · refine lv_bipush (v := jI (-10)) hx hb dX9_judge_29 (by decide) ?_
      refine lv_iload_n hx hb dX9_judge_31 rfl (lv_at hl 0 rfl) ?_
      refine x_isub hx hb dX9_judge_32 ?_
      rw [hQ9]
      refine ret_i (mc := 0) (ms := 0) hx hb hr hlocks hw hS (by first | exact Nat.le_of_ble_eq_true rfl | omega) (by first | exact Nat.le_of_ble_eq_true rfl | omega) dX9_judge_33 ?_
      have q15 : Frm [4001] X X1 := by rw [hX1]; exact Frm.set Frm.rf (show 4001 ∈ [4001] by first | exact nlm_in rfl | decide)
      exact ⟨X12, rfl, hRX12, hFX12, hMIX12, by omega, Or.inr ⟨(by (try delta Hid at *); omega), z9, jdM.from hjdX12 q15 (by decide), by omega⟩⟩
    · refine lv_iconst (v := jI 1) hx hb dX9_judge_25 rfl ?_
      refine lv_goto (tgt := 33) hx hb dX9_judge_26 (by decide) ?_
      rw [hQ9]
      refine ret_i (mc := 0) (ms := 0) hx hb hr hlocks hw hS (by first | exact Nat.le_of_ble_eq_true rfl | omega) (by first | exact Nat.le_of_ble_eq_true rfl | omega) dX9_judge_33 ?_
      have q16 : Frm [4001] X X1 := by rw [hX1]; exact Frm.set Frm.rf (show 4001 ∈ [4001] by first | exact nlm_in rfl | decide)
      exact ⟨X12, rfl, hRX12, hFX12, hMIX12, by omega, Or.inr ⟨(by (try delta Hid at *); omega), z9, jdM.from hjdX12 q16 (by decide), by omega⟩⟩
  · subst ez2
    refine x_if_neF (tgt := 15) hx hb (by omega) (by decide) dX9_judge_10 (by decide) ?_
    refine lv_iconst (v := jI (-1)) hx hb dX9_judge_13 rfl ?_
    rw [hQ9]
    refine ret_i (mc := 0) (ms := 0) hx hb hr hlocks hw hS (by first | exact Nat.le_of_ble_eq_true rfl | omega) (by first | exact Nat.le_of_ble_eq_true rfl | omega) dX9_judge_14 ?_
    have q18 : Frm [4001] X X1 := by rw [hX1]; exact Frm.set Frm.rf (show 4001 ∈ [4001] by first | exact nlm_in rfl | decide)
    have hMq17 : MInv X1 := minv_frm hMI q18 (by decide)
    exact ⟨X1, rfl, hRX1, hFX1, hMq17, by omega, Or.inl ⟨(fun q => by (try delta Hid at *); omega), by omega⟩⟩
end
section
set_option maxHeartbeats 4000000 in
set_option maxRecDepth 100000 in
theorem c_X9_recordOf (l : Launch) (D : va_G) (tc : Nat → ClassId) (base : Nat) (ad : Nat → Int → Nat) (cnt : Nat → Int) (X : Nat → Int → Int → Int) (Y : Nat → Int → Int → Option Int) (ln : Int → Int) (hR : Rng X) (hFx : Fx cnt) (hMI : MInv X) (x : Int) (hx0 : 0 ≤ x ∧ x ≤ 29) (hxt : x < X 40 0 13) (hO : ordOK X) (sg : Nat → Int → Int) (hsg : rmT X sg) : KI l D tc base yX9_recordOf wsX9_recordOf ({ frames := 0, cells := 0, slots := 0, locals := 0 } : Room) [.ref (ad 40 0), .int (jI 4), .int (jI x)] (ad, cnt, X, Y, ln) 0 0 (fun z u => ∃ X1 : Nat → Int → Int → Int, u = (ad, cnt, X1, Y, ln) ∧ Rng X1 ∧ Frm [8000, 7000] X X1 ∧ MInv X1 ∧ (0 ≤ z ∧ z < X1 70 0 4 ∧ X1 70 0 4 ≤ 30) ∧ S4 X X1 ∧ ordOK X1 ∧ X 70 0 4 ≤ X1 70 0 4 ∧ z = (if nmAt (sg 1) x (sg 0 0).toNat = -1 then sg 0 0 else nmAt (sg 1) x (sg 0 0).toNat) ∧ rmT X1 (if nmAt (sg 1) x (sg 0 0).toNat = -1 then u2 (u2 sg 1 (sg 0 0) x) 0 0 (sg 0 0 + 1) else sg)) := by
  refine K_of (cc := cX9_recordOf) (maxL := 4) (ret := (some .int)) (by decide) rfl (Nat.le_of_ble_eq_true rfl) ?_
  intro p e s m below meth c ls hx hb hr hml hown hts hlocks hl hK hw hS
  have hown : s.vm.findClass RX9 = some m.cls := hown
  obtain ⟨av9, hav9⟩ : ∃ a9 : Array Value, a9 = ([.ref (ad 40 0), .int (jI 4), .int (jI x)] : List Value).toArray := ⟨_, rfl⟩
  rw [← hav9] at hts ⊢
  obtain ⟨Q9, hQ9⟩ : ∃ q9Q : State → Prop, q9Q = MQ below (QI D tc base (fun z u => ∃ X1 : Nat → Int → Int → Int, u = (ad, cnt, X1, Y, ln) ∧ Rng X1 ∧ Frm [8000, 7000] X X1 ∧ MInv X1 ∧ (0 ≤ z ∧ z < X1 70 0 4 ∧ X1 70 0 4 ≤ 30) ∧ S4 X X1 ∧ ordOK X1 ∧ X 70 0 4 ≤ X1 70 0 4 ∧ z = (if nmAt (sg 1) x (sg 0 0).toNat = -1 then sg 0 0 else nmAt (sg 1) x (sg 0 0).toNat) ∧ rmT X1 (if nmAt (sg 1) x (sg 0 0).toNat = -1 then u2 (u2 sg 1 (sg 0 0) x) 0 0 (sg 0 0 + 1) else sg))) av9 s 0 0 (frA base) := ⟨_, rfl⟩
  rw [← hQ9]
  have hi9 : ∀ w ∈ wsX90, w ∈ wsX9_recordOf := fun w h => List.mem_cons_of_mem _ (List.mem_append_right _ h)
  have hf9 : fctx s m _ RX9 wsX9_recordOf D tc RX9 TX9 51 9 := ⟨hts, hi9, hown, hK.1, rfl⟩
  have lk81 := hts (.fieldLink RX9 81 (TX9 29).1 (TX9 29).2.1 (TX9 29).2.2.1) (gj_X9_recordOf_0 _ (gp_h))
  have lk111 := hts (.fieldLink RX9 111 (TX9 39).1 (TX9 39).2.1 (TX9 39).2.2.1) (gj_X9_recordOf_0 _ (gp_1 gp_h))
  have hc40 : cnt 40 = 1 := hFx.at 40 1 (by decide)
  have hc70 : cnt 70 = 1 := hFx.at 70 1 (by decide)
  have hc80 : cnt 80 = 1 := hFx.at 80 1 (by decide)
  have hl : lv_has ls 4 [(0, .ref (ad 40 0)), (1, .int (jI 4)), (2, .int (jI x))] := hl
  have fstypes : 0 ≤ X 40 0 2 ∧ X 40 0 2 ≤ 8 := hR 40 0 2
  have fsthings : 0 ≤ X 40 0 13 ∧ X 40 0 13 ≤ 30 := hR 40 0 13
  have fsmarks : 0 ≤ X 40 0 20 ∧ X 40 0 20 ≤ 4 := hR 40 0 20
  have fsnotes : 0 ≤ X 40 0 22 ∧ X 40 0 22 ≤ 80 := hR 40 0 22
  have hsg1 : X 70 0 4 = sg 0 0 := hsg.1
  have hsg0 : 0 ≤ X 70 0 4 ∧ X 70 0 4 ≤ 30 := hR 70 0 4
  refine lv_iconst (v := jI 0) hx hb dX9_recordOf_0 rfl ?_
  refine lv_istore_n (lv' := [(3, .int (jI 0)), (0, .ref (ad 40 0)), (1, .int (jI 4)), (2, .int (jI x))]) hx hb dX9_recordOf_1 rfl hl (by decide) rfl (fun ls hl => ?_)
  have lp2 : ∀ (nn : Nat) (r : Int) (H : Heap) (locs : List Loc) (ls : Array Slot), (30 - r) < (nn : Int) → (0 ≤ r ∧ r ≤ 30) → (∀ j, 0 ≤ j → j < r → X 80 0 j ≠ x) → wd D tc base (ad, cnt, X, Y, ln) H → va_S (frA base) s.heap H locs → lv_has ls 4 [(0, .ref (ad 40 0)), (1, .int (jI 4)), (2, .int (jI x)), (3, .int (jI r))] → W p l e ({ frames := 0, cells := 0, slots := 0, locals := 0 } : Room) s m av9 below meth c H locs 0 0 Q9 (F0 m 2 ls []) := by
    intro nn
    induction nn with
    | zero => intro r H locs ls hm hr0 hne hw hS hl; exfalso; omega
    | succ nn ih2 =>
      intro r H locs ls hm hr0 hne hw hS hl
      refine lv_iload_n hx hb dX9_recordOf_2 rfl (lv_at hl 3 rfl) ?_
      refine lv_aload_n hx hb dX9_recordOf_3 rfl (lv_at hl 0 rfl) ?_
      refine x_geto hx hb hf9 hw (by first | exact Int.le_refl 0 | omega) (by first | exact zlt hc40 | omega) sl_40_29 lk81 dX9_recordOf_4 ?_
      refine lv_iload_n hx hb dX9_recordOf_7 rfl (lv_at hl 1 rfl) ?_
      refine x_iald hx hb hK.1 hw (by first | exact Int.le_refl 0 | omega) (by first | exact zlt hc70 | omega) ar_70 (len_E ar_70 (by first | exact Nat.ne_of_beq_eq_false rfl | decide)) (by omega) (by omega) (by omega) dX9_recordOf_8 ?_
      have f1 : 0 ≤ X 70 0 4 ∧ X 70 0 4 ≤ 30 := hR 70 0 4
      refine x_icmp_ge (tgt := 30) hx hb (by omega) (by omega) dX9_recordOf_9 (by decide) (fun c2 => ?_) (fun c2 => ?_)
      · have hO30 := hO.room hR (by omega) hxt (fun j a b => hne j a (by omega))
        refine lv_aload_n hx hb dX9_recordOf_30 rfl (lv_at hl 0 rfl) ?_
        refine x_geto hx hb hf9 hw (by first | exact Int.le_refl 0 | omega) (by first | exact zlt hc40 | omega) sl_40_39 lk111 dX9_recordOf_31 ?_
        refine lv_aload_n hx hb dX9_recordOf_34 rfl (lv_at hl 0 rfl) ?_
        refine x_geto hx hb hf9 hw (by first | exact Int.le_refl 0 | omega) (by first | exact zlt hc40 | omega) sl_40_29 lk81 dX9_recordOf_35 ?_
        refine lv_iload_n hx hb dX9_recordOf_38 rfl (lv_at hl 1 rfl) ?_
        refine x_iald hx hb hK.1 hw (by first | exact Int.le_refl 0 | omega) (by first | exact zlt hc70 | omega) ar_70 (len_E ar_70 (by first | exact Nat.ne_of_beq_eq_false rfl | decide)) (by omega) (by omega) (by omega) dX9_recordOf_39 ?_
        have f3 : 0 ≤ X 70 0 4 ∧ X 70 0 4 ≤ 30 := hR 70 0 4
        refine lv_iload_n hx hb dX9_recordOf_40 rfl (lv_at hl 2 rfl) ?_
        refine x_iast hx hb hK.1 hw hS (by first | exact Int.le_refl 0 | omega) (by first | exact zlt hc80 | omega) ar_80 (len_E ar_80 (by first | exact Nat.ne_of_beq_eq_false rfl | decide)) (by omega) (by omega) (by omega) dX9_recordOf_41 (fun H locs hw hS => ?_)
        obtain ⟨X4, hX4⟩ : ∃ Xq, Xq = u3 X 80 0 (X 70 0 4) x := ⟨_, rfl⟩
        rw [← hX4] at hw
        have hRX4 : Rng X4 := by rw [hX4]; exact rng_set hR (show 0 ≤ x ∧ x ≤ 29 by omega)
        have hVX4 : X4 80 0 (X 70 0 4) = x := by rw [hX4]; exact u3_s _ _ _ _ _
        have hFX4 : Frm [8000, 7000] X X4 := by rw [hX4]; exact Frm.set Frm.rf (show 8000 ∈ [8000, 7000] by first | exact nlm_in rfl | decide)
        refine lv_aload_n hx hb dX9_recordOf_42 rfl (lv_at hl 0 rfl) ?_
        refine x_geto hx hb hf9 hw (by first | exact Int.le_refl 0 | omega) (by first | exact zlt hc40 | omega) sl_40_29 lk81 dX9_recordOf_43 ?_
        refine lv_iload_n hx hb dX9_recordOf_46 rfl (lv_at hl 1 rfl) ?_
        refine lv_dup2_11 hx hb dX9_recordOf_47 rfl rfl ?_
        refine x_iald hx hb hK.1 hw (by first | exact Int.le_refl 0 | omega) (by first | exact zlt hc70 | omega) ar_70 (len_E ar_70 (by first | exact Nat.ne_of_beq_eq_false rfl | decide)) (by omega) (by omega) (by omega) dX9_recordOf_48 ?_
        have e5 : ∀ p9 q9 : Int, X4 70 p9 q9 = X 70 p9 q9 := fun p9 q9 => by rw [hX4, u3_k _ _ _ _ (by first | exact Nat.ne_of_beq_eq_false rfl | decide)]
        rw [e5 0 4]
        have f6 : 0 ≤ X 70 0 4 ∧ X 70 0 4 ≤ 30 := hR 70 0 4
        refine lv_iconst (v := jI 1) hx hb dX9_recordOf_49 rfl ?_
        refine x_iadd hx hb dX9_recordOf_50 ?_
        refine x_iast hx hb hK.1 hw hS (by first | exact Int.le_refl 0 | omega) (by first | exact zlt hc70 | omega) ar_70 (len_E ar_70 (by first | exact Nat.ne_of_beq_eq_false rfl | decide)) (by omega) (by omega) (by omega) dX9_recordOf_51 (fun H locs hw hS => ?_)
        obtain ⟨X7, hX7⟩ : ∃ Xq, Xq = u3 X4 70 0 4 ((X 70 0 4) + 1) := ⟨_, rfl⟩
        rw [← hX7] at hw
        have hRX7 : Rng X7 := by rw [hX7]; exact rng_set hRX4 (show 0 ≤ ((X 70 0 4) + 1) ∧ ((X 70 0 4) + 1) ≤ 30 by omega)
        have hVX7 : X7 70 0 4 = ((X 70 0 4) + 1) := by rw [hX7]; exact u3_s _ _ _ _ _
        have hFX7 : Frm [8000, 7000] X X7 := by rw [hX7]; exact Frm.set hFX4 (show 7000 ∈ [8000, 7000] by first | exact nlm_in rfl | decide)
        refine lv_aload_n hx hb dX9_recordOf_52 rfl (lv_at hl 0 rfl) ?_
        refine x_geto hx hb hf9 hw (by first | exact Int.le_refl 0 | omega) (by first | exact zlt hc40 | omega) sl_40_29 lk81 dX9_recordOf_53 ?_
        refine lv_iload_n hx hb dX9_recordOf_56 rfl (lv_at hl 1 rfl) ?_
        refine x_iald hx hb hK.1 hw (by first | exact Int.le_refl 0 | omega) (by first | exact zlt hc70 | omega) ar_70 (len_E ar_70 (by first | exact Nat.ne_of_beq_eq_false rfl | decide)) (by omega) (by omega) (by omega) dX9_recordOf_57 ?_
        rw [hVX7]
        refine lv_iconst (v := jI 1) hx hb dX9_recordOf_58 rfl ?_
        refine x_isub hx hb dX9_recordOf_59 ?_
        rw [hQ9]
        refine ret_i (mc := 0) (ms := 0) hx hb hr hlocks hw hS (by first | exact Nat.le_of_ble_eq_true rfl | omega) (by first | exact Nat.le_of_ble_eq_true rfl | omega) dX9_recordOf_60 ?_
        have q8 : S4 X X4 := by rw [hX4]; exact S4.set S4.rf ⟨by first | exact fun h => absurd h (Nat.ne_of_beq_eq_false rfl) | omega, by first | exact fun h => absurd h (Nat.ne_of_beq_eq_false rfl) | omega, by first | exact fun h => absurd h (Nat.ne_of_beq_eq_false rfl) | omega, by first | exact fun h => absurd h (Nat.ne_of_beq_eq_false rfl) | omega, by first | exact fun h => absurd h (Nat.ne_of_beq_eq_false rfl) | omega⟩
        have q9 : S4 X X7 := by rw [hX7]; exact S4.set q8 ⟨by first | exact fun h => absurd h (Nat.ne_of_beq_eq_false rfl) | omega, by first | exact fun h => absurd h (Nat.ne_of_beq_eq_false rfl) | omega, by first | exact fun h => absurd h (Nat.ne_of_beq_eq_false rfl) | omega, by first | exact fun h => absurd h (Nat.ne_of_beq_eq_false rfl) | omega, by first | exact fun h => absurd h (Nat.ne_of_beq_eq_false rfl) | omega⟩
        have q10 : S4 X X4 := by rw [hX4]; exact S4.set S4.rf ⟨by first | exact fun h => absurd h (Nat.ne_of_beq_eq_false rfl) | omega, by first | exact fun h => absurd h (Nat.ne_of_beq_eq_false rfl) | omega, by first | exact fun h => absurd h (Nat.ne_of_beq_eq_false rfl) | omega, by first | exact fun h => absurd h (Nat.ne_of_beq_eq_false rfl) | omega, by first | exact fun h => absurd h (Nat.ne_of_beq_eq_false rfl) | omega⟩
        have q11 : S4 X X7 := by rw [hX7]; exact S4.set q10 ⟨by first | exact fun h => absurd h (Nat.ne_of_beq_eq_false rfl) | omega, by first | exact fun h => absurd h (Nat.ne_of_beq_eq_false rfl) | omega, by first | exact fun h => absurd h (Nat.ne_of_beq_eq_false rfl) | omega, by first | exact fun h => absurd h (Nat.ne_of_beq_eq_false rfl) | omega, by first | exact fun h => absurd h (Nat.ne_of_beq_eq_false rfl) | omega⟩
        have hm12 : nmAt (sg 1) x (sg 0 0).toNat = -1 := nmAt_no (fun j a b => by rw [← hsg.2 j a (by omega)]; exact hne j a (by omega)) (by omega)
        exact ⟨X7, rfl, hRX7, hFX7, minv_s4 hMI hRX7 hFX7 q9 (by decide), by omega, q11, ordOK.push hO hxt (fun j a b => hne j a (by omega)) hX4 hX7, (by rw [hX7, u3_s]; omega), (by rw [hm12, if_pos rfl]; omega), (by rw [hm12, if_pos rfl]; exact rmT.push hsg (by omega) (by rw [hX7, u3_s]) (by rw [hX7, u3_k _ _ _ _ (by first | exact Nat.ne_of_beq_eq_false rfl | decide), hX4, u3_s]) (fun j hj => by rw [hX7, u3_k _ _ _ _ (by first | exact Nat.ne_of_beq_eq_false rfl | decide), hX4, u3_j _ _ _ _ hj]))⟩
      · refine lv_aload_n hx hb dX9_recordOf_12 rfl (lv_at hl 0 rfl) ?_
        refine x_geto hx hb hf9 hw (by first | exact Int.le_refl 0 | omega) (by first | exact zlt hc40 | omega) sl_40_39 lk111 dX9_recordOf_13 ?_
        refine lv_iload_n hx hb dX9_recordOf_16 rfl (lv_at hl 3 rfl) ?_
        refine x_iald hx hb hK.1 hw (by first | exact Int.le_refl 0 | omega) (by first | exact zlt hc80 | omega) ar_80 (len_E ar_80 (by first | exact Nat.ne_of_beq_eq_false rfl | decide)) (by omega) (by omega) (by omega) dX9_recordOf_17 ?_
        have f13 : 0 ≤ X 80 0 r ∧ X 80 0 r ≤ 29 := hR 80 0 r
        refine lv_iload_n hx hb dX9_recordOf_18 rfl (lv_at hl 2 rfl) ?_
        refine x_icmp_ne (tgt := 24) hx hb (by omega) (by omega) dX9_recordOf_19 (by decide) (fun c14 => ?_) (fun c14 => ?_)
        · refine lv_iinc (v := jI (r + 1)) (lv' := [(3, .int (jI (r + 1))), (0, .ref (ad 40 0)), (1, .int (jI 4)), (2, .int (jI x))]) hx hb dX9_recordOf_24 hl (k := 3) rfl (jI_add _ _) (by decide) rfl (fun ls hl => ?_)
          refine lv_goto (tgt := 2) hx hb dX9_recordOf_27 (by decide) ?_
          exact ih2 (r + 1) _ _ _ (by omega) (by omega) (fun j a b => if hj : j = r then (by rw [hj]; omega) else hne j a (by omega)) hw hS (lv_sub hl [1, 2, 3, 0] rfl)
        · refine lv_iload_n hx hb dX9_recordOf_22 rfl (lv_at hl 3 rfl) ?_
          rw [hQ9]
          refine ret_i (mc := 0) (ms := 0) hx hb hr hlocks hw hS (by first | exact Nat.le_of_ble_eq_true rfl | omega) (by first | exact Nat.le_of_ble_eq_true rfl | omega) dX9_recordOf_23 ?_
          have hm15 : nmAt (sg 1) x (sg 0 0).toNat = r := nmAt_yes (fun j a b => by rw [← hsg.2 j a (by omega)]; exact hne j a b) ⟨by omega, by omega⟩ (by rw [← hsg.2 r (by omega) (by omega)]; omega)
          exact ⟨X, rfl, hR, Frm.rf, hMI, by omega, S4.rf, hO, Int.le_refl _, (by rw [hm15, if_neg (by omega)]), (by rw [hm15, if_neg (by omega)]; exact hsg)⟩
  exact lp2 (30 - 0 : Int).toNat.succ 0 _ _ _ (by omega) (by omega) (fun j a b => by omega) hw hS (lv_sub hl [1, 2, 3, 0] rfl)

set_option maxHeartbeats 4000000 in
set_option maxRecDepth 100000 in
theorem c_X9_rowOf (l : Launch) (D : va_G) (tc : Nat → ClassId) (base : Nat) (ad : Nat → Int → Nat) (cnt : Nat → Int) (X : Nat → Int → Int → Int) (Y : Nat → Int → Int → Option Int) (ln : Int → Int) (hR : Rng X) (hFx : Fx cnt) (hMI : MInv X) (row : Int) (hrow : 0 ≤ row ∧ row ≤ 399) (hsr : X 76 0 4 ≤ 149) (sg : Nat → Int → Int) (hsg : rmR X sg) (yy kk : Int) (hrw : row = mRid X yy kk) : KI l D tc base yX9_rowOf wsX9_rowOf ({ frames := 0, cells := 0, slots := 0, locals := 0 } : Room) [.ref (ad 40 0), .int (jI 4), .int (jI row)] (ad, cnt, X, Y, ln) 0 0 (fun z u => ∃ X1 : Nat → Int → Int → Int, u = (ad, cnt, X1, Y, ln) ∧ Rng X1 ∧ Frm [8100, 7700, 7800, 7900, 7600] X X1 ∧ MInv X1 ∧ (0 ≤ z ∧ z ≤ 149) ∧ X1 76 0 4 ≤ X 76 0 4 + 1 ∧ z = (if nmAt (fun q => mRid X (sg 3 q) (sg 4 q)) row (sg 2 0).toNat = -1 then sg 2 0 else nmAt (fun q => mRid X (sg 3 q) (sg 4 q)) row (sg 2 0).toNat) ∧ rmR X1 (if nmAt (fun q => mRid X (sg 3 q) (sg 4 q)) row (sg 2 0).toNat = -1 then u2 (u2 (u2 sg 3 (sg 2 0) yy) 4 (sg 2 0) kk) 2 0 (sg 2 0 + 1) else sg) ∧ S5 X X1) := by
  refine K_of (cc := cX9_rowOf) (maxL := 5) (ret := (some .int)) (by decide) rfl (Nat.le_of_ble_eq_true rfl) ?_
  intro p e s m below meth c ls hx hb hr hml hown hts hlocks hl hK hw hS
  have hown : s.vm.findClass RX9 = some m.cls := hown
  obtain ⟨av9, hav9⟩ : ∃ a9 : Array Value, a9 = ([.ref (ad 40 0), .int (jI 4), .int (jI row)] : List Value).toArray := ⟨_, rfl⟩
  rw [← hav9] at hts ⊢
  obtain ⟨Q9, hQ9⟩ : ∃ q9Q : State → Prop, q9Q = MQ below (QI D tc base (fun z u => ∃ X1 : Nat → Int → Int → Int, u = (ad, cnt, X1, Y, ln) ∧ Rng X1 ∧ Frm [8100, 7700, 7800, 7900, 7600] X X1 ∧ MInv X1 ∧ (0 ≤ z ∧ z ≤ 149) ∧ X1 76 0 4 ≤ X 76 0 4 + 1 ∧ z = (if nmAt (fun q => mRid X (sg 3 q) (sg 4 q)) row (sg 2 0).toNat = -1 then sg 2 0 else nmAt (fun q => mRid X (sg 3 q) (sg 4 q)) row (sg 2 0).toNat) ∧ rmR X1 (if nmAt (fun q => mRid X (sg 3 q) (sg 4 q)) row (sg 2 0).toNat = -1 then u2 (u2 (u2 sg 3 (sg 2 0) yy) 4 (sg 2 0) kk) 2 0 (sg 2 0 + 1) else sg) ∧ S5 X X1)) av9 s 0 0 (frA base) := ⟨_, rfl⟩
  rw [← hQ9]
  have hi9 : ∀ w ∈ wsX90, w ∈ wsX9_rowOf := fun w h => List.mem_cons_of_mem _ (List.mem_append_right _ h)
  have hf9 : fctx s m _ RX9 wsX9_rowOf D tc RX9 TX9 51 9 := ⟨hts, hi9, hown, hK.1, rfl⟩
  have lk51 := hts (.fieldLink RX9 51 (TX9 16).1 (TX9 16).2.1 (TX9 16).2.2.1) (gj_X9_rowOf_0 _ (gp_1 (gp_1 (gp_1 gp_h))))
  have lk54 := hts (.fieldLink RX9 54 (TX9 17).1 (TX9 17).2.1 (TX9 17).2.2.1) (gj_X9_rowOf_0 _ (gp_4 (gp_1 gp_h)))
  have lk57 := hts (.fieldLink RX9 57 (TX9 18).1 (TX9 18).2.1 (TX9 18).2.2.1) (gj_X9_rowOf_0 _ (gp_4 (gp_1 (gp_1 (gp_1 gp_h)))))
  have lk99 := hts (.fieldLink RX9 99 (TX9 35).1 (TX9 35).2.1 (TX9 35).2.2.1) (gj_X9_rowOf_0 _ (gp_h))
  have lk102 := hts (.fieldLink RX9 102 (TX9 36).1 (TX9 36).2.1 (TX9 36).2.2.1) (gj_X9_rowOf_0 _ (gp_1 (gp_1 gp_h)))
  have lk105 := hts (.fieldLink RX9 105 (TX9 37).1 (TX9 37).2.1 (TX9 37).2.2.1) (gj_X9_rowOf_0 _ (gp_4 gp_h))
  have lk108 := hts (.fieldLink RX9 108 (TX9 38).1 (TX9 38).2.1 (TX9 38).2.2.1) (gj_X9_rowOf_0 _ (gp_4 (gp_1 (gp_1 gp_h))))
  have lk114 := hts (.fieldLink RX9 114 (TX9 40).1 (TX9 40).2.1 (TX9 40).2.2.1) (gj_X9_rowOf_0 _ (gp_1 gp_h))
  have hc40 : cnt 40 = 1 := hFx.at 40 1 (by decide)
  have hc57 : cnt 57 = 1 := hFx.at 57 1 (by decide)
  have hc58 : cnt 58 = 1 := hFx.at 58 1 (by decide)
  have hc59 : cnt 59 = 1 := hFx.at 59 1 (by decide)
  have hc76 : cnt 76 = 1 := hFx.at 76 1 (by decide)
  have hc77 : cnt 77 = 1 := hFx.at 77 1 (by decide)
  have hc78 : cnt 78 = 1 := hFx.at 78 1 (by decide)
  have hc79 : cnt 79 = 1 := hFx.at 79 1 (by decide)
  have hc81 : cnt 81 = 1 := hFx.at 81 1 (by decide)
  have hl : lv_has ls 5 [(0, .ref (ad 40 0)), (1, .int (jI 4)), (2, .int (jI row))] := hl
  have fstypes : 0 ≤ X 40 0 2 ∧ X 40 0 2 ≤ 8 := hR 40 0 2
  have fsthings : 0 ≤ X 40 0 13 ∧ X 40 0 13 ≤ 30 := hR 40 0 13
  have fsmarks : 0 ≤ X 40 0 20 ∧ X 40 0 20 ≤ 4 := hR 40 0 20
  have fsnotes : 0 ≤ X 40 0 22 ∧ X 40 0 22 ≤ 80 := hR 40 0 22
  have hsg1 : X 76 0 4 = sg 2 0 := hsg.1
  have hsg0 : 0 ≤ X 76 0 4 ∧ X 76 0 4 ≤ 150 := hR 76 0 4
  refine lv_iconst (v := jI 0) hx hb dX9_rowOf_0 rfl ?_
  refine lv_istore_n (lv' := [(3, .int (jI 0)), (0, .ref (ad 40 0)), (1, .int (jI 4)), (2, .int (jI row))]) hx hb dX9_rowOf_1 rfl hl (by decide) rfl (fun ls hl => ?_)
  have lp2 : ∀ (nn : Nat) (r : Int) (H : Heap) (locs : List Loc) (ls : Array Slot), (150 - r) < (nn : Int) → (0 ≤ r ∧ r ≤ 150) → (∀ j, 0 ≤ j → j < r → X 81 0 j ≠ row) → wd D tc base (ad, cnt, X, Y, ln) H → va_S (frA base) s.heap H locs → lv_has ls 5 [(0, .ref (ad 40 0)), (1, .int (jI 4)), (2, .int (jI row)), (3, .int (jI r))] → W p l e ({ frames := 0, cells := 0, slots := 0, locals := 0 } : Room) s m av9 below meth c H locs 0 0 Q9 (F0 m 2 ls []) := by
    intro nn
    induction nn with
    | zero => intro r H locs ls hm hr0 hne hw hS hl; exfalso; omega
    | succ nn ih2 =>
      intro r H locs ls hm hr0 hne hw hS hl
      refine lv_iload_n hx hb dX9_rowOf_2 rfl (lv_at hl 3 rfl) ?_
      refine lv_aload_n hx hb dX9_rowOf_3 rfl (lv_at hl 0 rfl) ?_
      refine x_geto hx hb hf9 hw (by first | exact Int.le_refl 0 | omega) (by first | exact zlt hc40 | omega) sl_40_35 lk99 dX9_rowOf_4 ?_
      refine lv_iload_n hx hb dX9_rowOf_7 rfl (lv_at hl 1 rfl) ?_
      refine x_iald hx hb hK.1 hw (by first | exact Int.le_refl 0 | omega) (by first | exact zlt hc76 | omega) ar_76 (len_E ar_76 (by first | exact Nat.ne_of_beq_eq_false rfl | decide)) (by omega) (by omega) (by omega) dX9_rowOf_8 ?_
      have f1 : 0 ≤ X 76 0 4 ∧ X 76 0 4 ≤ 150 := hR 76 0 4
      refine x_icmp_ge (tgt := 30) hx hb (by omega) (by omega) dX9_rowOf_9 (by decide) (fun c2 => ?_) (fun c2 => ?_)
      · refine lv_aload_n hx hb dX9_rowOf_30 rfl (lv_at hl 0 rfl) ?_
        refine x_geto hx hb hf9 hw (by first | exact Int.le_refl 0 | omega) (by first | exact zlt hc40 | omega) sl_40_35 lk99 dX9_rowOf_31 ?_
        refine lv_iload_n hx hb dX9_rowOf_34 rfl (lv_at hl 1 rfl) ?_
        refine x_iald hx hb hK.1 hw (by first | exact Int.le_refl 0 | omega) (by first | exact zlt hc76 | omega) ar_76 (len_E ar_76 (by first | exact Nat.ne_of_beq_eq_false rfl | decide)) (by omega) (by omega) (by omega) dX9_rowOf_35 ?_
        have f3 : 0 ≤ X 76 0 4 ∧ X 76 0 4 ≤ 150 := hR 76 0 4
        refine lv_istore_n (lv' := [(3, .int (jI (X 76 0 4))), (0, .ref (ad 40 0)), (1, .int (jI 4)), (2, .int (jI row))]) hx hb dX9_rowOf_36 rfl hl (by decide) rfl (fun ls hl => ?_)
        refine lv_aload_n hx hb dX9_rowOf_37 rfl (lv_at hl 1 rfl) ?_
        refine x_geto hx hb hf9 hw (by first | exact Int.le_refl 0 | omega) (by first | exact zlt hc40 | omega) sl_40_40 lk114 dX9_rowOf_38 ?_
        refine lv_iload_n hx hb dX9_rowOf_41 rfl (lv_at hl 0 rfl) ?_
        refine lv_iload_n hx hb dX9_rowOf_42 rfl (lv_at hl 3 rfl) ?_
        refine x_iast hx hb hK.1 hw hS (by first | exact Int.le_refl 0 | omega) (by first | exact zlt hc81 | omega) ar_81 (len_E ar_81 (by first | exact Nat.ne_of_beq_eq_false rfl | decide)) (by omega) (by omega) (by omega) dX9_rowOf_43 (fun H locs hw hS => ?_)
        obtain ⟨X4, hX4⟩ : ∃ Xq, Xq = u3 X 81 0 (X 76 0 4) row := ⟨_, rfl⟩
        rw [← hX4] at hw
        have hRX4 : Rng X4 := by rw [hX4]; exact rng_set hR (show 0 ≤ row ∧ row ≤ 399 by omega)
        have hVX4 : X4 81 0 (X 76 0 4) = row := by rw [hX4]; exact u3_s _ _ _ _ _
        have hFX4 : Frm [8100, 7700, 7800, 7900, 7600] X X4 := by rw [hX4]; exact Frm.set Frm.rf (show 8100 ∈ [8100, 7700, 7800, 7900, 7600] by first | exact nlm_in rfl | decide)
        refine lv_aload_n hx hb dX9_rowOf_44 rfl (lv_at hl 1 rfl) ?_
        refine x_geto hx hb hf9 hw (by first | exact Int.le_refl 0 | omega) (by first | exact zlt hc40 | omega) sl_40_36 lk102 dX9_rowOf_45 ?_
        refine lv_sipush (v := jI 150) hx hb dX9_rowOf_48 (by decide) ?_
        refine lv_iload_n hx hb dX9_rowOf_51 rfl (lv_at hl 2 rfl) ?_
        refine x_imul hx hb dX9_rowOf_52 ?_
        refine lv_iload_n hx hb dX9_rowOf_53 rfl (lv_at hl 0 rfl) ?_
        refine x_iadd hx hb dX9_rowOf_54 ?_
        refine lv_aload_n hx hb dX9_rowOf_55 rfl (lv_at hl 1 rfl) ?_
        refine x_geto hx hb hf9 hw (by first | exact Int.le_refl 0 | omega) (by first | exact zlt hc40 | omega) sl_40_16 lk51 dX9_rowOf_56 ?_
        refine lv_iload_n hx hb dX9_rowOf_59 rfl (lv_at hl 3 rfl) ?_
        refine x_iald hx hb hK.1 hw (by first | exact Int.le_refl 0 | omega) (by first | exact zlt hc57 | omega) ar_57 (len_E ar_57 (by first | exact Nat.ne_of_beq_eq_false rfl | decide)) (by omega) (by omega) (by omega) dX9_rowOf_60 ?_
        have e5 : ∀ p9 q9 : Int, X4 57 p9 q9 = X 57 p9 q9 := fun p9 q9 => by rw [hX4, u3_k _ _ _ _ (by first | exact Nat.ne_of_beq_eq_false rfl | decide)]
        rw [e5 0 row]
        have f6 : 0 ≤ X 57 0 row ∧ X 57 0 row ≤ 5 := hR 57 0 row
        refine x_iast hx hb hK.1 hw hS (by first | exact Int.le_refl 0 | omega) (by first | exact zlt hc77 | omega) ar_77 (len_E ar_77 (by first | exact Nat.ne_of_beq_eq_false rfl | decide)) (by omega) (by omega) (by omega) dX9_rowOf_61 (fun H locs hw hS => ?_)
        obtain ⟨X7, hX7⟩ : ∃ Xq, Xq = u3 X4 77 0 ((150 * 4) + (X 76 0 4)) (X 57 0 row) := ⟨_, rfl⟩
        rw [← hX7] at hw
        have hRX7 : Rng X7 := by rw [hX7]; exact rng_set hRX4 (show 0 ≤ (X 57 0 row) ∧ (X 57 0 row) ≤ 5 by omega)
        have hVX7 : X7 77 0 ((150 * 4) + (X 76 0 4)) = (X 57 0 row) := by rw [hX7]; exact u3_s _ _ _ _ _
        have hFX7 : Frm [8100, 7700, 7800, 7900, 7600] X X7 := by rw [hX7]; exact Frm.set hFX4 (show 7700 ∈ [8100, 7700, 7800, 7900, 7600] by first | exact nlm_in rfl | decide)
        refine lv_aload_n hx hb dX9_rowOf_62 rfl (lv_at hl 1 rfl) ?_
        refine x_geto hx hb hf9 hw (by first | exact Int.le_refl 0 | omega) (by first | exact zlt hc40 | omega) sl_40_37 lk105 dX9_rowOf_63 ?_
        refine lv_sipush (v := jI 150) hx hb dX9_rowOf_66 (by decide) ?_
        refine lv_iload_n hx hb dX9_rowOf_69 rfl (lv_at hl 2 rfl) ?_
        refine x_imul hx hb dX9_rowOf_70 ?_
        refine lv_iload_n hx hb dX9_rowOf_71 rfl (lv_at hl 0 rfl) ?_
        refine x_iadd hx hb dX9_rowOf_72 ?_
        refine lv_aload_n hx hb dX9_rowOf_73 rfl (lv_at hl 1 rfl) ?_
        refine x_geto hx hb hf9 hw (by first | exact Int.le_refl 0 | omega) (by first | exact zlt hc40 | omega) sl_40_17 lk54 dX9_rowOf_74 ?_
        refine lv_iload_n hx hb dX9_rowOf_77 rfl (lv_at hl 3 rfl) ?_
        refine x_iald hx hb hK.1 hw (by first | exact Int.le_refl 0 | omega) (by first | exact zlt hc58 | omega) ar_58 (len_E ar_58 (by first | exact Nat.ne_of_beq_eq_false rfl | decide)) (by omega) (by omega) (by omega) dX9_rowOf_78 ?_
        have e8 : ∀ p9 q9 : Int, X7 58 p9 q9 = X 58 p9 q9 := fun p9 q9 => by rw [hX7, u3_k _ _ _ _ (by first | exact Nat.ne_of_beq_eq_false rfl | decide), hX4, u3_k _ _ _ _ (by first | exact Nat.ne_of_beq_eq_false rfl | decide)]
        rw [e8 0 row]
        have f9 : 0 ≤ X 58 0 row ∧ X 58 0 row ≤ 12 := hR 58 0 row
        refine x_iast hx hb hK.1 hw hS (by first | exact Int.le_refl 0 | omega) (by first | exact zlt hc78 | omega) ar_78 (len_E ar_78 (by first | exact Nat.ne_of_beq_eq_false rfl | decide)) (by omega) (by omega) (by omega) dX9_rowOf_79 (fun H locs hw hS => ?_)
        obtain ⟨X10, hX10⟩ : ∃ Xq, Xq = u3 X7 78 0 ((150 * 4) + (X 76 0 4)) (X 58 0 row) := ⟨_, rfl⟩
        rw [← hX10] at hw
        have hRX10 : Rng X10 := by rw [hX10]; exact rng_set hRX7 (show 0 ≤ (X 58 0 row) ∧ (X 58 0 row) ≤ 12 by omega)
        have hVX10 : X10 78 0 ((150 * 4) + (X 76 0 4)) = (X 58 0 row) := by rw [hX10]; exact u3_s _ _ _ _ _
        have hFX10 : Frm [8100, 7700, 7800, 7900, 7600] X X10 := by rw [hX10]; exact Frm.set hFX7 (show 7800 ∈ [8100, 7700, 7800, 7900, 7600] by first | exact nlm_in rfl | decide)
        refine lv_iconst (v := jI 0) hx hb dX9_rowOf_80 rfl ?_
        refine lv_istore (lv' := [(4, .int (jI 0)), (3, .int (jI (X 76 0 4))), (0, .ref (ad 40 0)), (1, .int (jI 4)), (2, .int (jI row))]) hx hb dX9_rowOf_81 hl (by decide) rfl (fun ls hl => ?_)
        have lp83 : ∀ (nn : Nat) (k : Int) (Xa : Nat → Int → Int → Int) (H : Heap) (locs : List Loc) (ls : Array Slot), (12 - k) < (nn : Int) → (Rng Xa) → (Frm [7900] X10 Xa) → (0 ≤ k ∧ k ≤ 12) → (∀ j, 0 ≤ j → j < k → Xa 79 0 (12 * (600 + X 76 0 4) + j) = X 59 0 (12 * row + j)) → (∀ j, j < 12 * (600 + X 76 0 4) → Xa 79 0 j = X 79 0 j) → (S5 X10 Xa) → wd D tc base (ad, cnt, Xa, Y, ln) H → va_S (frA base) s.heap H locs → lv_has ls 5 [(0, .ref (ad 40 0)), (1, .int (jI 4)), (2, .int (jI row)), (3, .int (jI (X 76 0 4))), (4, .int (jI k))] → W p l e ({ frames := 0, cells := 0, slots := 0, locals := 0 } : Room) s m av9 below meth c H locs 0 0 Q9 (F0 m 83 ls []) := by
          intro nn
          induction nn with
          | zero => intro k Xa H locs ls hm hRXa hGXa hk hcp hcl9 h5Xa hw hS hl; exfalso; omega
          | succ nn ih83 =>
            intro k Xa H locs ls hm hRXa hGXa hk hcp hcl9 h5Xa hw hS hl
            have hFXa : Frm [8100, 7700, 7800, 7900, 7600] X Xa := Frm.tr hFX10 (Frm.mono hGXa (by first | exact nls_of rfl | decide))
            refine lv_iload hx hb dX9_rowOf_83 (lv_at hl 4 rfl) ?_
            refine lv_bipush (v := jI 12) hx hb dX9_rowOf_85 (by decide) ?_
            refine x_icmp_ge (tgt := 126) hx hb (by omega) (by omega) dX9_rowOf_87 (by decide) (fun c11 => ?_) (fun c11 => ?_)
            · refine lv_aload_n hx hb dX9_rowOf_126 rfl (lv_at hl 0 rfl) ?_
              refine x_geto hx hb hf9 hw (by first | exact Int.le_refl 0 | omega) (by first | exact zlt hc40 | omega) sl_40_35 lk99 dX9_rowOf_127 ?_
              refine lv_iload_n hx hb dX9_rowOf_130 rfl (lv_at hl 1 rfl) ?_
              refine lv_dup2_11 hx hb dX9_rowOf_131 rfl rfl ?_
              refine x_iald hx hb hK.1 hw (by first | exact Int.le_refl 0 | omega) (by first | exact zlt hc76 | omega) ar_76 (len_E ar_76 (by first | exact Nat.ne_of_beq_eq_false rfl | decide)) (by omega) (by omega) (by omega) dX9_rowOf_132 ?_
              have e12 : ∀ p9 q9 : Int, Xa 76 p9 q9 = X 76 p9 q9 := fun p9 q9 => by rw [hGXa 76 p9 q9 (show 7600 ∉ [7900] by first | exact nlm_ni rfl | decide), hX10, u3_k _ _ _ _ (by first | exact Nat.ne_of_beq_eq_false rfl | decide), hX7, u3_k _ _ _ _ (by first | exact Nat.ne_of_beq_eq_false rfl | decide), hX4, u3_k _ _ _ _ (by first | exact Nat.ne_of_beq_eq_false rfl | decide)]
              rw [e12 0 4]
              have f13 : 0 ≤ X 76 0 4 ∧ X 76 0 4 ≤ 150 := hR 76 0 4
              refine lv_iconst (v := jI 1) hx hb dX9_rowOf_133 rfl ?_
              refine x_iadd hx hb dX9_rowOf_134 ?_
              refine x_iast hx hb hK.1 hw hS (by first | exact Int.le_refl 0 | omega) (by first | exact zlt hc76 | omega) ar_76 (len_E ar_76 (by first | exact Nat.ne_of_beq_eq_false rfl | decide)) (by omega) (by omega) (by omega) dX9_rowOf_135 (fun H locs hw hS => ?_)
              obtain ⟨X14, hX14⟩ : ∃ Xq, Xq = u3 Xa 76 0 4 ((X 76 0 4) + 1) := ⟨_, rfl⟩
              rw [← hX14] at hw
              have hRX14 : Rng X14 := by rw [hX14]; exact rng_set hRXa (show 0 ≤ ((X 76 0 4) + 1) ∧ ((X 76 0 4) + 1) ≤ 150 by omega)
              have hVX14 : X14 76 0 4 = ((X 76 0 4) + 1) := by rw [hX14]; exact u3_s _ _ _ _ _
              have hFX14 : Frm [8100, 7700, 7800, 7900, 7600] X X14 := by rw [hX14]; exact Frm.set hFXa (show 7600 ∈ [8100, 7700, 7800, 7900, 7600] by first | exact nlm_in rfl | decide)
              refine lv_iload_n hx hb dX9_rowOf_136 rfl (lv_at hl 3 rfl) ?_
              rw [hQ9]
              refine ret_i (mc := 0) (ms := 0) hx hb hr hlocks hw hS (by first | exact Nat.le_of_ble_eq_true rfl | omega) (by first | exact Nat.le_of_ble_eq_true rfl | omega) dX9_rowOf_137 ?_
              have q16 : Frm [7600, 7700, 7800, 7900, 8100] X X4 := by rw [hX4]; exact Frm.set Frm.rf (show 8100 ∈ [7600, 7700, 7800, 7900, 8100] by first | exact nlm_in rfl | decide)
              have q17 : Frm [7600, 7700, 7800, 7900, 8100] X X7 := by rw [hX7]; exact Frm.set q16 (show 7700 ∈ [7600, 7700, 7800, 7900, 8100] by first | exact nlm_in rfl | decide)
              have q18 : Frm [7600, 7700, 7800, 7900, 8100] X X10 := by rw [hX10]; exact Frm.set q17 (show 7800 ∈ [7600, 7700, 7800, 7900, 8100] by first | exact nlm_in rfl | decide)
              have q19 : Frm [7600, 7700, 7800, 7900, 8100] X Xa := Frm.tr q18 (Frm.mono hGXa (by first | exact nls_of rfl | decide))
              have q20 : Frm [7600, 7700, 7800, 7900, 8100] X X14 := by rw [hX14]; exact Frm.set q19 (show 7600 ∈ [7600, 7700, 7800, 7900, 8100] by first | exact nlm_in rfl | decide)
              have hMq15 : MInv X14 := minv_frm hMI q20 (by decide)
              have hm21 : nmAt (fun q => mRid X (sg 3 q) (sg 4 q)) row (sg 2 0).toNat = -1 := nmAt_no (f := fun q => mRid X (sg 3 q) (sg 4 q)) (fun j a b => by show mRid X (sg 3 j) (sg 4 j) ≠ row; rw [← (hsg.2 j a (by omega)).1]; exact hne j a (by omega)) (by omega)
              have q22 : Frm [7600, 7700, 7800, 7900, 8100] X X4 := by rw [hX4]; exact Frm.set Frm.rf (show 8100 ∈ [7600, 7700, 7800, 7900, 8100] by first | exact nlm_in rfl | decide)
              have q23 : Frm [7600, 7700, 7800, 7900, 8100] X X7 := by rw [hX7]; exact Frm.set q22 (show 7700 ∈ [7600, 7700, 7800, 7900, 8100] by first | exact nlm_in rfl | decide)
              have q24 : Frm [7600, 7700, 7800, 7900, 8100] X X10 := by rw [hX10]; exact Frm.set q23 (show 7800 ∈ [7600, 7700, 7800, 7900, 8100] by first | exact nlm_in rfl | decide)
              have q25 : Frm [7600, 7700, 7800, 7900, 8100] X Xa := Frm.tr q24 (Frm.mono hGXa (by first | exact nls_of rfl | decide))
              have q27 : S5 X X4 := by rw [hX4]; exact S5.set S5.rf ⟨by first | exact fun h => absurd h (Nat.ne_of_beq_eq_false rfl) | omega, by first | exact fun h => absurd h (Nat.ne_of_beq_eq_false rfl) | omega, by first | exact fun h => absurd h (Nat.ne_of_beq_eq_false rfl) | omega, by first | exact fun h => absurd h (Nat.ne_of_beq_eq_false rfl) | omega, by first | exact fun h => absurd h (Nat.ne_of_beq_eq_false rfl) | omega⟩
              have q28 : S5 X X7 := by rw [hX7]; exact S5.set q27 ⟨by first | exact fun h => absurd h (Nat.ne_of_beq_eq_false rfl) | omega, by first | exact fun h => absurd h (Nat.ne_of_beq_eq_false rfl) | omega, by first | exact fun h => absurd h (Nat.ne_of_beq_eq_false rfl) | omega, by first | exact fun h => absurd h (Nat.ne_of_beq_eq_false rfl) | omega, by first | exact fun h => absurd h (Nat.ne_of_beq_eq_false rfl) | omega⟩
              have q29 : S5 X X10 := by rw [hX10]; exact S5.set q28 ⟨by first | exact fun h => absurd h (Nat.ne_of_beq_eq_false rfl) | omega, by first | exact fun h => absurd h (Nat.ne_of_beq_eq_false rfl) | omega, by first | exact fun h => absurd h (Nat.ne_of_beq_eq_false rfl) | omega, by first | exact fun h => absurd h (Nat.ne_of_beq_eq_false rfl) | omega, by first | exact fun h => absurd h (Nat.ne_of_beq_eq_false rfl) | omega⟩
              have q30 : S5 X Xa := S5.tr q29 h5Xa
              have q31 : S5 X X14 := by rw [hX14]; exact S5.set q30 ⟨by first | exact fun h => absurd h (Nat.ne_of_beq_eq_false rfl) | omega, by first | exact fun h => absurd h (Nat.ne_of_beq_eq_false rfl) | omega, by first | exact fun h => absurd h (Nat.ne_of_beq_eq_false rfl) | omega, by first | exact fun h => absurd h (Nat.ne_of_beq_eq_false rfl) | omega, by first | exact fun h => absurd h (Nat.ne_of_beq_eq_false rfl) | omega⟩
              exact ⟨X14, rfl, hRX14, hFX14, hMq15, by omega, (by rw [hX14, u3_s]; omega), (by rw [hm21, if_pos rfl]; omega), (by rw [hm21, if_pos rfl]; exact rmR.push hsg (by omega) (by rw [hVX14]) (by rw [← hrw]; exact (by rw [hX14, u3_k _ _ _ _ (by first | exact Nat.ne_of_beq_eq_false rfl | decide), hGXa 81 0 (X 76 0 4) (show 8100 ∉ [7900] by first | exact nlm_ni rfl | decide), hX10, u3_k _ _ _ _ (by first | exact Nat.ne_of_beq_eq_false rfl | decide), hX7, u3_k _ _ _ _ (by first | exact Nat.ne_of_beq_eq_false rfl | decide)]; exact hVX4)) (fun j hj => (by rw [hX14, u3_k _ _ _ _ (by first | exact Nat.ne_of_beq_eq_false rfl | decide), hGXa 81 0 j (show 8100 ∉ [7900] by first | exact nlm_ni rfl | decide), hX10, u3_k _ _ _ _ (by first | exact Nat.ne_of_beq_eq_false rfl | decide), hX7, u3_k _ _ _ _ (by first | exact Nat.ne_of_beq_eq_false rfl | decide), hX4, u3_j _ _ _ _ hj])) ⟨(by rw [← hrw]; exact (by rw [hX14, u3_k _ _ _ _ (by first | exact Nat.ne_of_beq_eq_false rfl | decide), hGXa 77 0 (600 + X 76 0 4) (show 7700 ∉ [7900] by first | exact nlm_ni rfl | decide), hX10, u3_k _ _ _ _ (by first | exact Nat.ne_of_beq_eq_false rfl | decide)]; exact hVX7)), (by rw [← hrw]; exact (by rw [hX14, u3_k _ _ _ _ (by first | exact Nat.ne_of_beq_eq_false rfl | decide), hGXa 78 0 (600 + X 76 0 4) (show 7800 ∉ [7900] by first | exact nlm_ni rfl | decide)]; exact hVX10))⟩ (fun j hj => ⟨(by rw [hX14, u3_k _ _ _ _ (by first | exact Nat.ne_of_beq_eq_false rfl | decide), hGXa 77 0 j (show 7700 ∉ [7900] by first | exact nlm_ni rfl | decide), hX10, u3_k _ _ _ _ (by first | exact Nat.ne_of_beq_eq_false rfl | decide), hX7, u3_j _ _ _ _ (by omega), hX4, u3_k _ _ _ _ (by first | exact Nat.ne_of_beq_eq_false rfl | decide)]), (by rw [hX14, u3_k _ _ _ _ (by first | exact Nat.ne_of_beq_eq_false rfl | decide), hGXa 78 0 j (show 7800 ∉ [7900] by first | exact nlm_ni rfl | decide), hX10, u3_j _ _ _ _ (by omega), hX7, u3_k _ _ _ _ (by first | exact Nat.ne_of_beq_eq_false rfl | decide), hX4, u3_k _ _ _ _ (by first | exact Nat.ne_of_beq_eq_false rfl | decide)])⟩) (fun j a b => by rw [← hrw, hX14, u3_k _ _ _ _ (by first | exact Nat.ne_of_beq_eq_false rfl | decide)]; exact hcp j a (by omega)) (fun j hj => by rw [hX14, u3_k _ _ _ _ (by first | exact Nat.ne_of_beq_eq_false rfl | decide)]; exact hcl9 j hj) (fun q9 hq9 => by simp only [List.mem_cons, List.not_mem_nil, or_false] at hq9; rcases hq9 with rfl | rfl | rfl | rfl <;> exact Frm.arr q20 _ (by decide +kernel) (by decide))), q31⟩
            · refine lv_aload_n hx hb dX9_rowOf_90 rfl (lv_at hl 0 rfl) ?_
              refine x_geto hx hb hf9 hw (by first | exact Int.le_refl 0 | omega) (by first | exact zlt hc40 | omega) sl_40_38 lk108 dX9_rowOf_91 ?_
              refine lv_bipush (v := jI 12) hx hb dX9_rowOf_94 (by decide) ?_
              refine lv_sipush (v := jI 150) hx hb dX9_rowOf_96 (by decide) ?_
              refine lv_iload_n hx hb dX9_rowOf_99 rfl (lv_at hl 1 rfl) ?_
              refine x_imul hx hb dX9_rowOf_100 ?_
              refine lv_iload_n hx hb dX9_rowOf_101 rfl (lv_at hl 3 rfl) ?_
              refine x_iadd hx hb dX9_rowOf_102 ?_
              refine x_imul hx hb dX9_rowOf_103 ?_
              refine lv_iload hx hb dX9_rowOf_104 (lv_at hl 4 rfl) ?_
              refine x_iadd hx hb dX9_rowOf_106 ?_
              refine lv_aload_n hx hb dX9_rowOf_107 rfl (lv_at hl 0 rfl) ?_
              refine x_geto hx hb hf9 hw (by first | exact Int.le_refl 0 | omega) (by first | exact zlt hc40 | omega) sl_40_18 lk57 dX9_rowOf_108 ?_
              refine lv_bipush (v := jI 12) hx hb dX9_rowOf_111 (by decide) ?_
              refine lv_iload_n hx hb dX9_rowOf_113 rfl (lv_at hl 2 rfl) ?_
              refine x_imul hx hb dX9_rowOf_114 ?_
              refine lv_iload hx hb dX9_rowOf_115 (lv_at hl 4 rfl) ?_
              refine x_iadd hx hb dX9_rowOf_117 ?_
              refine x_lald hx hb hK.1 hw (by first | exact Int.le_refl 0 | omega) (by first | exact zlt hc59 | omega) ar_59 (len_E ar_59 (by first | exact Nat.ne_of_beq_eq_false rfl | decide)) (by omega) (by omega) (by omega) dX9_rowOf_118 ?_
              have e32 : ∀ p9 q9 : Int, Xa 59 p9 q9 = X 59 p9 q9 := fun p9 q9 => by rw [hGXa 59 p9 q9 (show 5900 ∉ [7900] by first | exact nlm_ni rfl | decide), hX10, u3_k _ _ _ _ (by first | exact Nat.ne_of_beq_eq_false rfl | decide), hX7, u3_k _ _ _ _ (by first | exact Nat.ne_of_beq_eq_false rfl | decide), hX4, u3_k _ _ _ _ (by first | exact Nat.ne_of_beq_eq_false rfl | decide)]
              rw [e32 0 ((12 * row) + k)]
              have f33 : (-9223372036854775808) ≤ X 59 0 ((12 * row) + k) ∧ X 59 0 ((12 * row) + k) ≤ 9223372036854775807 := hR 59 0 ((12 * row) + k)
              refine x_last hx hb hK.1 hw hS (by first | exact Int.le_refl 0 | omega) (by first | exact zlt hc79 | omega) ar_79 (len_E ar_79 (by first | exact Nat.ne_of_beq_eq_false rfl | decide)) (by omega) (by omega) (by omega) dX9_rowOf_119 (fun H locs hw hS => ?_)
              obtain ⟨X34, hX34⟩ : ∃ Xq, Xq = u3 Xa 79 0 ((12 * ((150 * 4) + (X 76 0 4))) + k) (X 59 0 ((12 * row) + k)) := ⟨_, rfl⟩
              rw [← hX34] at hw
              have hRX34 : Rng X34 := by rw [hX34]; exact rng_set hRXa (show (-9223372036854775808) ≤ (X 59 0 ((12 * row) + k)) ∧ (X 59 0 ((12 * row) + k)) ≤ 9223372036854775807 by omega)
              have hVX34 : X34 79 0 ((12 * ((150 * 4) + (X 76 0 4))) + k) = (X 59 0 ((12 * row) + k)) := by rw [hX34]; exact u3_s _ _ _ _ _
              have hFX34 : Frm [8100, 7700, 7800, 7900, 7600] X X34 := by rw [hX34]; exact Frm.set hFXa (show 7900 ∈ [8100, 7700, 7800, 7900, 7600] by first | exact nlm_in rfl | decide)
              refine lv_iinc (v := jI (k + 1)) (lv' := [(4, .int (jI (k + 1))), (0, .ref (ad 40 0)), (1, .int (jI 4)), (2, .int (jI row)), (3, .int (jI (X 76 0 4)))]) hx hb dX9_rowOf_120 hl (k := 4) rfl (jI_add _ _) (by decide) rfl (fun ls hl => ?_)
              refine lv_goto (tgt := 83) hx hb dX9_rowOf_123 (by decide) ?_
              have q35 : Frm [7900] X10 Xa := Frm.tr Frm.rf (Frm.mono hGXa (by first | exact nls_of rfl | decide))
              have q36 : Frm [7900] X10 X34 := by rw [hX34]; exact Frm.set q35 (show 7900 ∈ [7900] by first | exact nlm_in rfl | decide)
              have q37 : S5 X10 Xa := S5.tr S5.rf h5Xa
              have q38 : S5 X10 X34 := by rw [hX34]; exact S5.set q37 ⟨by first | exact fun h => absurd h (Nat.ne_of_beq_eq_false rfl) | omega, by first | exact fun h => absurd h (Nat.ne_of_beq_eq_false rfl) | omega, by first | exact fun h => absurd h (Nat.ne_of_beq_eq_false rfl) | omega, by first | exact fun h => absurd h (Nat.ne_of_beq_eq_false rfl) | omega, by first | exact fun h => absurd h (Nat.ne_of_beq_eq_false rfl) | omega⟩
              exact ih83 (k + 1) X34 _ _ _ (by omega) hRX34 q36 (by omega) (fun j a b => if hj : j = k then (by rw [hj]; exact hVX34) else (by rw [hX34, u3_j _ _ _ _ (by omega)]; exact hcp j a (by omega))) (fun j hj => (by rw [hX34, u3_j _ _ _ _ (by omega)]; exact hcl9 j hj)) (q38) hw hS (lv_sub hl [1, 2, 3, 4, 0] rfl)
        exact lp83 (12 - 0 : Int).toNat.succ 0 X10 _ _ _ (by omega) hRX10 Frm.rf (by omega) (fun j a b => by omega) (fun j hj => (by rw [hX10, u3_k _ _ _ _ (by first | exact Nat.ne_of_beq_eq_false rfl | decide), hX7, u3_k _ _ _ _ (by first | exact Nat.ne_of_beq_eq_false rfl | decide), hX4, u3_k _ _ _ _ (by first | exact Nat.ne_of_beq_eq_false rfl | decide)])) (S5.rf) hw hS (lv_sub hl [2, 3, 4, 1, 0] rfl)
      · refine lv_aload_n hx hb dX9_rowOf_12 rfl (lv_at hl 0 rfl) ?_
        refine x_geto hx hb hf9 hw (by first | exact Int.le_refl 0 | omega) (by first | exact zlt hc40 | omega) sl_40_40 lk114 dX9_rowOf_13 ?_
        refine lv_iload_n hx hb dX9_rowOf_16 rfl (lv_at hl 3 rfl) ?_
        refine x_iald hx hb hK.1 hw (by first | exact Int.le_refl 0 | omega) (by first | exact zlt hc81 | omega) ar_81 (len_E ar_81 (by first | exact Nat.ne_of_beq_eq_false rfl | decide)) (by omega) (by omega) (by omega) dX9_rowOf_17 ?_
        have f39 : 0 ≤ X 81 0 r ∧ X 81 0 r ≤ 399 := hR 81 0 r
        refine lv_iload_n hx hb dX9_rowOf_18 rfl (lv_at hl 2 rfl) ?_
        refine x_icmp_ne (tgt := 24) hx hb (by omega) (by omega) dX9_rowOf_19 (by decide) (fun c40 => ?_) (fun c40 => ?_)
        · refine lv_iinc (v := jI (r + 1)) (lv' := [(3, .int (jI (r + 1))), (0, .ref (ad 40 0)), (1, .int (jI 4)), (2, .int (jI row))]) hx hb dX9_rowOf_24 hl (k := 3) rfl (jI_add _ _) (by decide) rfl (fun ls hl => ?_)
          refine lv_goto (tgt := 2) hx hb dX9_rowOf_27 (by decide) ?_
          exact ih2 (r + 1) _ _ _ (by omega) (by omega) (fun j a b => if hj : j = r then (by rw [hj]; omega) else hne j a (by omega)) hw hS (lv_sub hl [1, 2, 3, 0] rfl)
        · refine lv_iload_n hx hb dX9_rowOf_22 rfl (lv_at hl 3 rfl) ?_
          rw [hQ9]
          refine ret_i (mc := 0) (ms := 0) hx hb hr hlocks hw hS (by first | exact Nat.le_of_ble_eq_true rfl | omega) (by first | exact Nat.le_of_ble_eq_true rfl | omega) dX9_rowOf_23 ?_
          have hm41 : nmAt (fun q => mRid X (sg 3 q) (sg 4 q)) row (sg 2 0).toNat = r := nmAt_yes (f := fun q => mRid X (sg 3 q) (sg 4 q)) (fun j a b => by show mRid X (sg 3 j) (sg 4 j) ≠ row; rw [← (hsg.2 j a (by omega)).1]; exact hne j a b) ⟨by omega, by omega⟩ (by show mRid X (sg 3 r) (sg 4 r) = row; rw [← (hsg.2 r (by omega) (by omega)).1]; omega)
          exact ⟨X, rfl, hR, Frm.rf, hMI, by omega, by omega, (by rw [hm41, if_neg (by omega)]), (by rw [hm41, if_neg (by omega)]; exact hsg), S5.rf⟩
  exact lp2 (150 - 0 : Int).toNat.succ 0 _ _ _ (by omega) (by omega) (fun j a b => by omega) hw hS (lv_sub hl [1, 2, 3, 0] rfl)
end
section
set_option maxHeartbeats 4000000 in
set_option maxRecDepth 100000 in
theorem c_X9_saves (l : Launch) (D : va_G) (tc : Nat → ClassId) (base : Nat) (ad : Nat → Int → Nat) (cnt : Nat → Int) (X : Nat → Int → Int → Int) (Y : Nat → Int → Int → Option Int) (ln : Int → Int) (hR : Rng X) (hFx : Fx cnt) (hMI : MInv X) (x shut : Int) (hx0 : 0 ≤ x ∧ x ≤ 29) (hxt : x < X 40 0 13) (hshut : 0 ≤ shut ∧ shut ≤ 1) : KI l D tc base yX9_saves wsX9_saves ({ frames := 1, cells := 0, slots := 0, locals := 24 } : Room) [.ref (ad 40 0), .int (jI x), .int (jI shut)] (ad, cnt, X, Y, ln) 0 0 (fun z u => ∃ X1 : Nat → Int → Int → Int, u = (ad, cnt, X1, Y, ln) ∧ Rng X1 ∧ Frm [7100, 7200, 7300, 7400, 7500, 8000, 7000, 8100, 7700, 7800, 7900, 7600, 4042, 4043, 4044] X X1 ∧ MInv X1 ∧ (-20 ≤ z ∧ z ≤ 30) ∧ S4 X X1 ∧ (0 ≤ z → z = X1 70 0 4 ∧ cOK X1 z 0) ∧ ((z < 0 ∧ shut = 1 ∧ ∃ r k, 0 ≤ r ∧ r < recR (fcM X) (lnM X) (mRid X) (mRid X) x 30 0 0 ∧ 0 ≤ k ∧ k < fcM X (recR (fcM X) (lnM X) (mRid X) (mRid X) x 30 1 r) ∧ X 48 0 (5 * X 55 0 (recR (fcM X) (lnM X) (mRid X) (mRid X) x 30 1 r) + k) ≠ 0) ∨ (z = recR (fcM X) (lnM X) (mRid X) (mRid X) x 30 0 0 ∧ (shut = 1 → ∀ r k, 0 ≤ r → r < recR (fcM X) (lnM X) (mRid X) (mRid X) x 30 0 0 → 0 ≤ k → k < fcM X (recR (fcM X) (lnM X) (mRid X) (mRid X) x 30 1 r) → X 48 0 (5 * X 55 0 (recR (fcM X) (lnM X) (mRid X) (mRid X) x 30 1 r) + k) = 0) ∧ rmT X1 (recR (fcM X) (lnM X) (mRid X) (mRid X) x 30) ∧ rmR X1 (recR (fcM X) (lnM X) (mRid X) (mRid X) x 30) ∧ rmV X1 (recR (fcM X) (lnM X) (mRid X) (mRid X) x 30) (recR (fcM X) (lnM X) (mRid X) (mRid X) x 30 0 0) 0)) ∧ S5 X X1 ∧ (z < 0 → z = -20)) := by
  refine K_of (cc := cX9_saves) (maxL := 10) (ret := (some .int)) (by decide) rfl (Nat.le_of_ble_eq_true rfl) ?_
  intro p e s m below meth c ls hx hb hr hml hown hts hlocks hl hK hw hS
  have hown : s.vm.findClass RX9 = some m.cls := hown
  obtain ⟨av9, hav9⟩ : ∃ a9 : Array Value, a9 = ([.ref (ad 40 0), .int (jI x), .int (jI shut)] : List Value).toArray := ⟨_, rfl⟩
  rw [← hav9] at hts ⊢
  obtain ⟨Q9, hQ9⟩ : ∃ q9Q : State → Prop, q9Q = MQ below (QI D tc base (fun z u => ∃ X1 : Nat → Int → Int → Int, u = (ad, cnt, X1, Y, ln) ∧ Rng X1 ∧ Frm [7100, 7200, 7300, 7400, 7500, 8000, 7000, 8100, 7700, 7800, 7900, 7600, 4042, 4043, 4044] X X1 ∧ MInv X1 ∧ (-20 ≤ z ∧ z ≤ 30) ∧ S4 X X1 ∧ (0 ≤ z → z = X1 70 0 4 ∧ cOK X1 z 0) ∧ ((z < 0 ∧ shut = 1 ∧ ∃ r k, 0 ≤ r ∧ r < recR (fcM X) (lnM X) (mRid X) (mRid X) x 30 0 0 ∧ 0 ≤ k ∧ k < fcM X (recR (fcM X) (lnM X) (mRid X) (mRid X) x 30 1 r) ∧ X 48 0 (5 * X 55 0 (recR (fcM X) (lnM X) (mRid X) (mRid X) x 30 1 r) + k) ≠ 0) ∨ (z = recR (fcM X) (lnM X) (mRid X) (mRid X) x 30 0 0 ∧ (shut = 1 → ∀ r k, 0 ≤ r → r < recR (fcM X) (lnM X) (mRid X) (mRid X) x 30 0 0 → 0 ≤ k → k < fcM X (recR (fcM X) (lnM X) (mRid X) (mRid X) x 30 1 r) → X 48 0 (5 * X 55 0 (recR (fcM X) (lnM X) (mRid X) (mRid X) x 30 1 r) + k) = 0) ∧ rmT X1 (recR (fcM X) (lnM X) (mRid X) (mRid X) x 30) ∧ rmR X1 (recR (fcM X) (lnM X) (mRid X) (mRid X) x 30) ∧ rmV X1 (recR (fcM X) (lnM X) (mRid X) (mRid X) x 30) (recR (fcM X) (lnM X) (mRid X) (mRid X) x 30 0 0) 0)) ∧ S5 X X1 ∧ (z < 0 → z = -20))) av9 s 0 0 (frA base) := ⟨_, rfl⟩
  rw [← hQ9]
  have hi9 : ∀ w ∈ wsX90, w ∈ wsX9_saves := fun w h => List.mem_cons_of_mem _ (List.mem_append_right _ h)
  have hf9 : fctx s m _ RX9 wsX9_saves D tc RX9 TX9 51 9 := ⟨hts, hi9, hown, hK.1, rfl⟩
  have lk13 := hts (.fieldLink RX9 13 (TX9 3).1 (TX9 3).2.1 (TX9 3).2.2.1) (gj_X9_saves_0 _ (gp_4 (gp_1 (gp_1 gp_h))))
  have lk17 := hts (.fieldLink RX9 17 (TX9 4).1 (TX9 4).2.1 (TX9 4).2.2.1) (gj_X9_saves_0 _ (gp_4 (gp_4 gp_h)))
  have lk20 := hts (.fieldLink RX9 20 (TX9 5).1 (TX9 5).2.1 (TX9 5).2.2.1) (gj_X9_saves_0 _ (gp_4 (gp_4 (gp_4 gp_h))))
  have lk27 := hts (.fieldLink RX9 27 (TX9 7).1 (TX9 7).2.1 (TX9 7).2.2.1) (gj_X9_saves_0 _ (gp_4 (gp_1 (gp_1 (gp_1 gp_h)))))
  have lk45 := hts (.fieldLink RX9 45 (TX9 14).1 (TX9 14).2.1 (TX9 14).2.2.1) (gj_X9_saves_0 _ (gp_1 (gp_1 (gp_1 gp_h))))
  have lk48 := hts (.fieldLink RX9 48 (TX9 15).1 (TX9 15).2.1 (TX9 15).2.2.1) (gj_X9_saves_0 _ (gp_4 (gp_4 (gp_1 gp_h))))
  have lk81 := hts (.fieldLink RX9 81 (TX9 29).1 (TX9 29).2.1 (TX9 29).2.2.1) (gj_X9_saves_0 _ (gp_h))
  have lk84 := hts (.fieldLink RX9 84 (TX9 30).1 (TX9 30).2.1 (TX9 30).2.2.1) (gj_X9_saves_0 _ (gp_4 gp_h))
  have lk87 := hts (.fieldLink RX9 87 (TX9 31).1 (TX9 31).2.1 (TX9 31).2.2.1) (gj_X9_saves_0 _ (gp_4 (gp_1 gp_h)))
  have lk90 := hts (.fieldLink RX9 90 (TX9 32).1 (TX9 32).2.1 (TX9 32).2.2.1) (gj_X9_saves_0 _ (gp_4 (gp_4 (gp_1 (gp_1 gp_h)))))
  have lk93 := hts (.fieldLink RX9 93 (TX9 33).1 (TX9 33).2.1 (TX9 33).2.2.1) (gj_X9_saves_0 _ (gp_4 (gp_4 (gp_1 (gp_1 (gp_1 gp_h))))))
  have lk96 := hts (.fieldLink RX9 96 (TX9 34).1 (TX9 34).2.1 (TX9 34).2.2.1) (gj_X9_saves_0 _ (gp_4 (gp_4 (gp_4 (gp_1 gp_h)))))
  have lk99 := hts (.fieldLink RX9 99 (TX9 35).1 (TX9 35).2.1 (TX9 35).2.2.1) (gj_X9_saves_0 _ (gp_1 gp_h))
  have lk111 := hts (.fieldLink RX9 111 (TX9 39).1 (TX9 39).2.1 (TX9 39).2.2.1) (gj_X9_saves_0 _ (gp_1 (gp_1 gp_h)))
  have hc40 : cnt 40 = 1 := hFx.at 40 1 (by decide)
  have hc44 : cnt 44 = 1 := hFx.at 44 1 (by decide)
  have hc45 : cnt 45 = 1 := hFx.at 45 1 (by decide)
  have hc46 : cnt 46 = 1 := hFx.at 46 1 (by decide)
  have hc48 : cnt 48 = 1 := hFx.at 48 1 (by decide)
  have hc55 : cnt 55 = 1 := hFx.at 55 1 (by decide)
  have hc56 : cnt 56 = 1 := hFx.at 56 1 (by decide)
  have hc70 : cnt 70 = 1 := hFx.at 70 1 (by decide)
  have hc71 : cnt 71 = 1 := hFx.at 71 1 (by decide)
  have hc72 : cnt 72 = 1 := hFx.at 72 1 (by decide)
  have hc73 : cnt 73 = 1 := hFx.at 73 1 (by decide)
  have hc74 : cnt 74 = 1 := hFx.at 74 1 (by decide)
  have hc75 : cnt 75 = 1 := hFx.at 75 1 (by decide)
  have hc76 : cnt 76 = 1 := hFx.at 76 1 (by decide)
  have hc80 : cnt 80 = 1 := hFx.at 80 1 (by decide)
  have hl : lv_has ls 10 [(0, .ref (ad 40 0)), (1, .int (jI x)), (2, .int (jI shut))] := hl
  have fstypes : 0 ≤ X 40 0 2 ∧ X 40 0 2 ≤ 8 := hR 40 0 2
  have fsthings : 0 ≤ X 40 0 13 ∧ X 40 0 13 ≤ 30 := hR 40 0 13
  have fsmarks : 0 ≤ X 40 0 20 ∧ X 40 0 20 ≤ 4 := hR 40 0 20
  have fsnotes : 0 ≤ X 40 0 22 ∧ X 40 0 22 ≤ 80 := hR 40 0 22
  refine lv_aload_n hx hb dX9_saves_0 rfl (lv_at hl 0 rfl) ?_
  refine x_geto hx hb hf9 hw (by first | exact Int.le_refl 0 | omega) (by first | exact zlt hc40 | omega) sl_40_29 lk81 dX9_saves_1 ?_
  refine lv_iconst (v := jI 4) hx hb dX9_saves_4 rfl ?_
  refine lv_iconst (v := jI 0) hx hb dX9_saves_5 rfl ?_
  refine x_iast hx hb hK.1 hw hS (by first | exact Int.le_refl 0 | omega) (by first | exact zlt hc70 | omega) ar_70 (len_E ar_70 (by first | exact Nat.ne_of_beq_eq_false rfl | decide)) (by omega) (by omega) (by omega) dX9_saves_6 (fun H locs hw hS => ?_)
  obtain ⟨X1, hX1⟩ : ∃ Xq, Xq = u3 X 70 0 4 0 := ⟨_, rfl⟩
  rw [← hX1] at hw
  have hRX1 : Rng X1 := by rw [hX1]; exact rng_set hR (show 0 ≤ 0 ∧ 0 ≤ 30 by omega)
  have hVX1 : X1 70 0 4 = 0 := by rw [hX1]; exact u3_s _ _ _ _ _
  have hFX1 : Frm [7100, 7200, 7300, 7400, 7500, 8000, 7000, 8100, 7700, 7800, 7900, 7600, 4042, 4043, 4044] X X1 := by rw [hX1]; exact Frm.set Frm.rf (show 7000 ∈ [7100, 7200, 7300, 7400, 7500, 8000, 7000, 8100, 7700, 7800, 7900, 7600, 4042, 4043, 4044] by first | exact nlm_in rfl | decide)
  refine lv_aload_n hx hb dX9_saves_7 rfl (lv_at hl 0 rfl) ?_
  refine x_geto hx hb hf9 hw (by first | exact Int.le_refl 0 | omega) (by first | exact zlt hc40 | omega) sl_40_35 lk99 dX9_saves_8 ?_
  refine lv_iconst (v := jI 4) hx hb dX9_saves_11 rfl ?_
  refine lv_iconst (v := jI 0) hx hb dX9_saves_12 rfl ?_
  refine x_iast hx hb hK.1 hw hS (by first | exact Int.le_refl 0 | omega) (by first | exact zlt hc76 | omega) ar_76 (len_E ar_76 (by first | exact Nat.ne_of_beq_eq_false rfl | decide)) (by omega) (by omega) (by omega) dX9_saves_13 (fun H locs hw hS => ?_)
  obtain ⟨X2, hX2⟩ : ∃ Xq, Xq = u3 X1 76 0 4 0 := ⟨_, rfl⟩
  rw [← hX2] at hw
  have hRX2 : Rng X2 := by rw [hX2]; exact rng_set hRX1 (show 0 ≤ 0 ∧ 0 ≤ 150 by omega)
  have hVX2 : X2 76 0 4 = 0 := by rw [hX2]; exact u3_s _ _ _ _ _
  have hFX2 : Frm [7100, 7200, 7300, 7400, 7500, 8000, 7000, 8100, 7700, 7800, 7900, 7600, 4042, 4043, 4044] X X2 := by rw [hX2]; exact Frm.set hFX1 (show 7600 ∈ [7100, 7200, 7300, 7400, 7500, 8000, 7000, 8100, 7700, 7800, 7900, 7600, 4042, 4043, 4044] by first | exact nlm_in rfl | decide)
  have e3 : X2 70 0 4 = X1 70 0 4 := by rw [hX2, u3_k _ _ _ _ (by first | exact Nat.ne_of_beq_eq_false rfl | decide)]
  have hOn : ordOK X2 := ordOK.nil (by simp only [e3]; omega)
  have hT0 : rmT X2 sg0 := ⟨(by rw [hX2, u3_k _ _ _ _ (by first | exact Nat.ne_of_beq_eq_false rfl | decide)]; exact hVX1), fun i a b => absurd b (by show ¬ i < 0; omega)⟩
  refine lv_aload_n hx hb dX9_saves_14 rfl (lv_at hl 0 rfl) ?_
  refine lv_iconst (v := jI 4) hx hb dX9_saves_15 rfl ?_
  refine lv_iload_n hx hb dX9_saves_16 rfl (lv_at hl 1 rfl) ?_
  have q4 : S4 X X1 := by rw [hX1]; exact S4.set S4.rf ⟨by first | exact fun h => absurd h (Nat.ne_of_beq_eq_false rfl) | omega, by first | exact fun h => absurd h (Nat.ne_of_beq_eq_false rfl) | omega, by first | exact fun h => absurd h (Nat.ne_of_beq_eq_false rfl) | omega, by first | exact fun h => absurd h (Nat.ne_of_beq_eq_false rfl) | omega, by first | exact fun h => absurd h (Nat.ne_of_beq_eq_false rfl) | omega⟩
  have q5 : S4 X X2 := by rw [hX2]; exact S4.set q4 ⟨by first | exact fun h => absurd h (Nat.ne_of_beq_eq_false rfl) | omega, by first | exact fun h => absurd h (Nat.ne_of_beq_eq_false rfl) | omega, by first | exact fun h => absurd h (Nat.ne_of_beq_eq_false rfl) | omega, by first | exact fun h => absurd h (Nat.ne_of_beq_eq_false rfl) | omega, by first | exact fun h => absurd h (Nat.ne_of_beq_eq_false rfl) | omega⟩
  have hMq6 : MInv X2 := minv_s4 hMI hRX2 hFX2 q5 (by decide)
  have e7 : X2 40 0 13 = X 40 0 13 := by rw [hX2, u3_k _ _ _ _ (by first | exact Nat.ne_of_beq_eq_false rfl | decide), hX1, u3_k _ _ _ _ (by first | exact Nat.ne_of_beq_eq_false rfl | decide)]
  refine gos_i (run_V (As := [.int (jI 4), .int (jI x)]) (rest := []) hx hb hml hown hts (c_X9_recordOf l D tc base ad cnt X2 Y ln hRX2 hFx hMq6 x (by omega) (by simp only [e7]; omega) hOn (sg0) hT0) (cwV 2 hts gX9_saves_X9_recordOf rfl rfl rfl (by first | exact hd_X9_recordOf | decide +kernel) ⟨Nat.le_of_ble_eq_true rfl, Nat.le_of_ble_eq_true rfl⟩) hK hw (by first | exact Int.le_refl 0 | omega) (by first | exact zlt hc40 | omega) sl_40_0 rfl rfl hl.1 rfl (Nat.le_of_ble_eq_true rfl) dX9_saves_17 ⟨Nat.le_of_ble_eq_true rfl, Nat.le_of_ble_eq_true rfl⟩) hS (fun z8 u9 H locs p10 hw hS => ?_)
  have e11 : X2 70 0 4 = X1 70 0 4 := by rw [hX2, u3_k _ _ _ _ (by first | exact Nat.ne_of_beq_eq_false rfl | decide)]
  obtain ⟨X12, eu9, hRX12, hG13, hMIX12, p10, h4X12, hOX12, hleX12, hzrX12, hTrX12⟩ := p10
  subst eu9
  have hFX12 : Frm [7100, 7200, 7300, 7400, 7500, 8000, 7000, 8100, 7700, 7800, 7900, 7600, 4042, 4043, 4044] X X12 := Frm.tr hFX2 (Frm.mono hG13 (by first | exact nls_of rfl | decide))
  simp only [e11] at hleX12
  refine lv_pop hx hb dX9_saves_20 rfl ?_
  refine lv_iconst (v := jI 0) hx hb dX9_saves_21 rfl ?_
  refine lv_istore_n (lv' := [(3, .int (jI 0)), (0, .ref (ad 40 0)), (1, .int (jI x)), (2, .int (jI shut))]) hx hb dX9_saves_22 rfl hl (by decide) rfl (fun ls hl => ?_)
  have lp23 : ∀ (nn : Nat) (r : Int) (Xa : Nat → Int → Int → Int) (H : Heap) (locs : List Loc) (ls : Array Slot), (30 - r) < (nn : Int) → (Rng Xa) → (Frm [7100, 7200, 7300, 7400, 7500, 8000, 7000, 8100, 7700, 7800, 7900, 7600] X12 Xa) → (0 ≤ r ∧ r ≤ 30) → (ordOK Xa) → (S4 X12 Xa) → (Xa 76 0 4 ≤ 5 * r) → (cOK Xa r 0) → (rmT Xa (recR (fcM X) (lnM X) (mRid X) (mRid X) x r.toNat)) → (rmR Xa (recR (fcM X) (lnM X) (mRid X) (mRid X) x r.toNat)) → (rmV Xa (recR (fcM X) (lnM X) (mRid X) (mRid X) x r.toNat) r 0) → (shut = 1 → ∀ r' k', 0 ≤ r' → r' < r → 0 ≤ k' → k' < fcM X (recR (fcM X) (lnM X) (mRid X) (mRid X) x r.toNat 1 r') → X 48 0 (5 * X 55 0 (recR (fcM X) (lnM X) (mRid X) (mRid X) x r.toNat 1 r') + k') = 0) → (S5 X12 Xa) → wd D tc base (ad, cnt, Xa, Y, ln) H → va_S (frA base) s.heap H locs → lv_has ls 10 [(0, .ref (ad 40 0)), (1, .int (jI x)), (2, .int (jI shut)), (3, .int (jI r))] → W p l e ({ frames := 1, cells := 0, slots := 0, locals := 24 } : Room) s m av9 below meth c H locs 0 0 Q9 (F0 m 23 ls []) := by
    intro nn
    induction nn with
    | zero => intro r Xa H locs ls hm hRXa hGXa hr0 hOa h4Xa hsr hcOa hTa hRa9 hVa hns h5Xa hw hS hl; exfalso; omega
    | succ nn ih23 =>
      intro r Xa H locs ls hm hRXa hGXa hr0 hOa h4Xa hsr hcOa hTa hRa9 hVa hns h5Xa hw hS hl
      have hFXa : Frm [7100, 7200, 7300, 7400, 7500, 8000, 7000, 8100, 7700, 7800, 7900, 7600, 4042, 4043, 4044] X Xa := Frm.tr hFX12 (Frm.mono hGXa (by first | exact nls_of rfl | decide))
      have hTa1 : Xa 70 0 4 = recR (fcM X) (lnM X) (mRid X) (mRid X) x r.toNat 0 0 := hTa.1
      refine lv_iload_n hx hb dX9_saves_23 rfl (lv_at hl 3 rfl) ?_
      refine lv_aload_n hx hb dX9_saves_24 rfl (lv_at hl 0 rfl) ?_
      refine x_geto hx hb hf9 hw (by first | exact Int.le_refl 0 | omega) (by first | exact zlt hc40 | omega) sl_40_29 lk81 dX9_saves_25 ?_
      refine lv_iconst (v := jI 4) hx hb dX9_saves_28 rfl ?_
      refine x_iald hx hb hK.1 hw (by first | exact Int.le_refl 0 | omega) (by first | exact zlt hc70 | omega) ar_70 (len_E ar_70 (by first | exact Nat.ne_of_beq_eq_false rfl | decide)) (by omega) (by omega) (by omega) dX9_saves_29 ?_
      have f14 : 0 ≤ Xa 70 0 4 ∧ Xa 70 0 4 ≤ 30 := hRXa 70 0 4
      have q900003 : S4 X X1 := by rw [hX1]; exact S4.set S4.rf ⟨by first | exact fun h => absurd h (Nat.ne_of_beq_eq_false rfl) | omega, by first | exact fun h => absurd h (Nat.ne_of_beq_eq_false rfl) | omega, by first | exact fun h => absurd h (Nat.ne_of_beq_eq_false rfl) | omega, by first | exact fun h => absurd h (Nat.ne_of_beq_eq_false rfl) | omega, by first | exact fun h => absurd h (Nat.ne_of_beq_eq_false rfl) | omega⟩
      have q900004 : S4 X X2 := by rw [hX2]; exact S4.set q900003 ⟨by first | exact fun h => absurd h (Nat.ne_of_beq_eq_false rfl) | omega, by first | exact fun h => absurd h (Nat.ne_of_beq_eq_false rfl) | omega, by first | exact fun h => absurd h (Nat.ne_of_beq_eq_false rfl) | omega, by first | exact fun h => absurd h (Nat.ne_of_beq_eq_false rfl) | omega, by first | exact fun h => absurd h (Nat.ne_of_beq_eq_false rfl) | omega⟩
      have q900005 : S4 X X12 := S4.tr q900004 h4X12
      have q900008 : S5 X X1 := by rw [hX1]; exact S5.set S5.rf ⟨by first | exact fun h => absurd h (Nat.ne_of_beq_eq_false rfl) | omega, by first | exact fun h => absurd h (Nat.ne_of_beq_eq_false rfl) | omega, by first | exact fun h => absurd h (Nat.ne_of_beq_eq_false rfl) | omega, by first | exact fun h => absurd h (Nat.ne_of_beq_eq_false rfl) | omega, by first | exact fun h => absurd h (Nat.ne_of_beq_eq_false rfl) | omega⟩
      have q900009 : S5 X X2 := by rw [hX2]; exact S5.set q900008 ⟨by first | exact fun h => absurd h (Nat.ne_of_beq_eq_false rfl) | omega, by first | exact fun h => absurd h (Nat.ne_of_beq_eq_false rfl) | omega, by first | exact fun h => absurd h (Nat.ne_of_beq_eq_false rfl) | omega, by first | exact fun h => absurd h (Nat.ne_of_beq_eq_false rfl) | omega, by first | exact fun h => absurd h (Nat.ne_of_beq_eq_false rfl) | omega⟩
      have q900010 : S5 X X12 := S5.tr q900009 (S5.frm hG13 (by decide))
      have q900011 : S5 X Xa := S5.tr q900010 h5Xa
      refine x_icmp_ge (tgt := 269) hx hb (by omega) (by omega) dX9_saves_30 (by decide) (fun c15 => ?_) (fun c15 => ?_)
      · refine lv_aload_n hx hb dX9_saves_269 rfl (lv_at hl 0 rfl) ?_
        refine x_geto hx hb hf9 hw (by first | exact Int.le_refl 0 | omega) (by first | exact zlt hc40 | omega) sl_40_29 lk81 dX9_saves_270 ?_
        refine lv_iconst (v := jI 4) hx hb dX9_saves_273 rfl ?_
        refine x_iald hx hb hK.1 hw (by first | exact Int.le_refl 0 | omega) (by first | exact zlt hc70 | omega) ar_70 (len_E ar_70 (by first | exact Nat.ne_of_beq_eq_false rfl | decide)) (by omega) (by omega) (by omega) dX9_saves_274 ?_
        have f16 : 0 ≤ Xa 70 0 4 ∧ Xa 70 0 4 ≤ 30 := hRXa 70 0 4
        rw [hQ9]
        refine ret_i (mc := 0) (ms := 0) hx hb hr hlocks hw hS (by first | exact Nat.le_of_ble_eq_true rfl | omega) (by first | exact Nat.le_of_ble_eq_true rfl | omega) dX9_saves_275 ?_
        have q17 : S4 X X1 := by rw [hX1]; exact S4.set S4.rf ⟨by first | exact fun h => absurd h (Nat.ne_of_beq_eq_false rfl) | omega, by first | exact fun h => absurd h (Nat.ne_of_beq_eq_false rfl) | omega, by first | exact fun h => absurd h (Nat.ne_of_beq_eq_false rfl) | omega, by first | exact fun h => absurd h (Nat.ne_of_beq_eq_false rfl) | omega, by first | exact fun h => absurd h (Nat.ne_of_beq_eq_false rfl) | omega⟩
        have q18 : S4 X X2 := by rw [hX2]; exact S4.set q17 ⟨by first | exact fun h => absurd h (Nat.ne_of_beq_eq_false rfl) | omega, by first | exact fun h => absurd h (Nat.ne_of_beq_eq_false rfl) | omega, by first | exact fun h => absurd h (Nat.ne_of_beq_eq_false rfl) | omega, by first | exact fun h => absurd h (Nat.ne_of_beq_eq_false rfl) | omega, by first | exact fun h => absurd h (Nat.ne_of_beq_eq_false rfl) | omega⟩
        have q19 : S4 X X12 := S4.tr q18 h4X12
        have q20 : S4 X Xa := S4.tr q19 h4Xa
        have hfs25 : recR (fcM X) (lnM X) (mRid X) (mRid X) x 30 = recR (fcM X) (lnM X) (mRid X) (mRid X) x r.toNat := recR_end ⟨by omega, by omega⟩ (by omega)
        exact ⟨Xa, rfl, hRXa, hFXa, minv_s4 hMI hRXa hFXa q20 (by decide), by omega, q20, fun _ => ⟨rfl, hcOa.le (by omega)⟩, Or.inr (by rw [hfs25]; exact ⟨by omega, fun h9 r9 k9 a b c d => hns h9 r9 k9 a (by omega) c d, hTa, hRa9, rmV.upto hVa (by omega)⟩), q900011, fun q => by omega⟩
      · refine lv_aload_n hx hb dX9_saves_33 rfl (lv_at hl 0 rfl) ?_
        refine x_geto hx hb hf9 hw (by first | exact Int.le_refl 0 | omega) (by first | exact zlt hc40 | omega) sl_40_39 lk111 dX9_saves_34 ?_
        refine lv_iload_n hx hb dX9_saves_37 rfl (lv_at hl 3 rfl) ?_
        refine x_iald hx hb hK.1 hw (by first | exact Int.le_refl 0 | omega) (by first | exact zlt hc80 | omega) ar_80 (len_E ar_80 (by first | exact Nat.ne_of_beq_eq_false rfl | decide)) (by omega) (by omega) (by omega) dX9_saves_38 ?_
        have f31 : 0 ≤ Xa 80 0 r ∧ Xa 80 0 r ≤ 29 := hRXa 80 0 r
        have e32 : Xa 40 0 13 = X 40 0 13 := by rw [hGXa 40 0 13 (show 4014 ∉ [7100, 7200, 7300, 7400, 7500, 8000, 7000, 8100, 7700, 7800, 7900, 7600] by first | exact nlm_ni rfl | decide), hG13 40 0 13 (show 4014 ∉ [8000, 7000] by first | exact nlm_ni rfl | decide), hX2, u3_k _ _ _ _ (by first | exact Nat.ne_of_beq_eq_false rfl | decide), hX1, u3_k _ _ _ _ (by first | exact Nat.ne_of_beq_eq_false rfl | decide)]
        have hyr : Xa 80 0 r < X 40 0 13 := by have h9 := hOa.1 r (by omega) (by omega); simp only [e32] at h9; exact h9
        have hyf := hMI.2.2.2.2.2 (Xa 80 0 r) (by have h9 : 0 ≤ Xa 80 0 r ∧ Xa 80 0 r ≤ 29 := hRXa 80 0 r; omega) hyr
        have hyo : Xa 80 0 r = recR (fcM X) (lnM X) (mRid X) (mRid X) x r.toNat 1 r := hTa.2 r (by omega) (by omega)
        have hf55 : ∀ t, X 44 0 t ≤ 5 := fun t => (hR 44 0 t).2
        have f44y : 0 ≤ X 44 0 (X 55 0 (Xa 80 0 r)) ∧ X 44 0 (X 55 0 (Xa 80 0 r)) ≤ 5 := hR 44 0 _
        refine lv_istore (lv' := [(4, .int (jI (Xa 80 0 r))), (0, .ref (ad 40 0)), (1, .int (jI x)), (2, .int (jI shut)), (3, .int (jI r))]) hx hb dX9_saves_39 hl (by decide) rfl (fun ls hl => ?_)
        refine lv_aload_n hx hb dX9_saves_41 rfl (lv_at hl 1 rfl) ?_
        refine x_geto hx hb hf9 hw (by first | exact Int.le_refl 0 | omega) (by first | exact zlt hc40 | omega) sl_40_14 lk45 dX9_saves_42 ?_
        refine lv_iload hx hb dX9_saves_45 (lv_at hl 0 rfl) ?_
        refine x_iald hx hb hK.1 hw (by first | exact Int.le_refl 0 | omega) (by first | exact zlt hc55 | omega) ar_55 (len_E ar_55 (by first | exact Nat.ne_of_beq_eq_false rfl | decide)) (by omega) (by omega) (by omega) dX9_saves_47 ?_
        have e33 : ∀ p9 q9 : Int, Xa 55 p9 q9 = X 55 p9 q9 := fun p9 q9 => by rw [hGXa 55 p9 q9 (show 5500 ∉ [7100, 7200, 7300, 7400, 7500, 8000, 7000, 8100, 7700, 7800, 7900, 7600] by first | exact nlm_ni rfl | decide), hG13 55 p9 q9 (show 5500 ∉ [8000, 7000] by first | exact nlm_ni rfl | decide), hX2, u3_k _ _ _ _ (by first | exact Nat.ne_of_beq_eq_false rfl | decide), hX1, u3_k _ _ _ _ (by first | exact Nat.ne_of_beq_eq_false rfl | decide)]
        rw [e33 0 (Xa 80 0 r)]
        have f34 : 0 ≤ X 55 0 (Xa 80 0 r) ∧ X 55 0 (Xa 80 0 r) ≤ 7 := hR 55 0 (Xa 80 0 r)
        refine lv_istore (lv' := [(5, .int (jI (X 55 0 (Xa 80 0 r)))), (4, .int (jI (Xa 80 0 r))), (0, .ref (ad 40 0)), (1, .int (jI x)), (2, .int (jI shut)), (3, .int (jI r))]) hx hb dX9_saves_48 hl (by decide) rfl (fun ls hl => ?_)
        refine lv_aload_n hx hb dX9_saves_50 rfl (lv_at hl 2 rfl) ?_
        refine x_geto hx hb hf9 hw (by first | exact Int.le_refl 0 | omega) (by first | exact zlt hc40 | omega) sl_40_30 lk84 dX9_saves_51 ?_
        refine lv_bipush (v := jI 120) hx hb dX9_saves_54 (by decide) ?_
        refine lv_iload_n hx hb dX9_saves_56 rfl (lv_at hl 5 rfl) ?_
        refine x_iadd hx hb dX9_saves_57 ?_
        refine lv_iload hx hb dX9_saves_58 (lv_at hl 0 rfl) ?_
        refine x_iast hx hb hK.1 hw hS (by first | exact Int.le_refl 0 | omega) (by first | exact zlt hc71 | omega) ar_71 (len_E ar_71 (by first | exact Nat.ne_of_beq_eq_false rfl | decide)) (by omega) (by omega) (by omega) dX9_saves_60 (fun H locs hw hS => ?_)
        obtain ⟨X35, hX35⟩ : ∃ Xq, Xq = u3 Xa 71 0 (120 + r) (X 55 0 (Xa 80 0 r)) := ⟨_, rfl⟩
        rw [← hX35] at hw
        have hRX35 : Rng X35 := by rw [hX35]; exact rng_set hRXa (show 0 ≤ (X 55 0 (Xa 80 0 r)) ∧ (X 55 0 (Xa 80 0 r)) ≤ 7 by omega)
        have hVX35 : X35 71 0 (120 + r) = (X 55 0 (Xa 80 0 r)) := by rw [hX35]; exact u3_s _ _ _ _ _
        have hFX35 : Frm [7100, 7200, 7300, 7400, 7500, 8000, 7000, 8100, 7700, 7800, 7900, 7600, 4042, 4043, 4044] X X35 := by rw [hX35]; exact Frm.set hFXa (show 7100 ∈ [7100, 7200, 7300, 7400, 7500, 8000, 7000, 8100, 7700, 7800, 7900, 7600, 4042, 4043, 4044] by first | exact nlm_in rfl | decide)
        refine lv_aload_n hx hb dX9_saves_61 rfl (lv_at hl 2 rfl) ?_
        refine x_geto hx hb hf9 hw (by first | exact Int.le_refl 0 | omega) (by first | exact zlt hc40 | omega) sl_40_31 lk87 dX9_saves_62 ?_
        refine lv_bipush (v := jI 120) hx hb dX9_saves_65 (by decide) ?_
        refine lv_iload_n hx hb dX9_saves_67 rfl (lv_at hl 5 rfl) ?_
        refine x_iadd hx hb dX9_saves_68 ?_
        refine lv_aload_n hx hb dX9_saves_69 rfl (lv_at hl 2 rfl) ?_
        refine x_geto hx hb hf9 hw (by first | exact Int.le_refl 0 | omega) (by first | exact zlt hc40 | omega) sl_40_3 lk13 dX9_saves_70 ?_
        refine lv_iload hx hb dX9_saves_73 (lv_at hl 0 rfl) ?_
        refine x_iald hx hb hK.1 hw (by first | exact Int.le_refl 0 | omega) (by first | exact zlt hc44 | omega) ar_44 (len_E ar_44 (by first | exact Nat.ne_of_beq_eq_false rfl | decide)) (by omega) (by omega) (by omega) dX9_saves_75 ?_
        have e36 : ∀ p9 q9 : Int, X35 44 p9 q9 = X 44 p9 q9 := fun p9 q9 => by rw [hX35, u3_k _ _ _ _ (by first | exact Nat.ne_of_beq_eq_false rfl | decide), hGXa 44 p9 q9 (show 4400 ∉ [7100, 7200, 7300, 7400, 7500, 8000, 7000, 8100, 7700, 7800, 7900, 7600] by first | exact nlm_ni rfl | decide), hG13 44 p9 q9 (show 4400 ∉ [8000, 7000] by first | exact nlm_ni rfl | decide), hX2, u3_k _ _ _ _ (by first | exact Nat.ne_of_beq_eq_false rfl | decide), hX1, u3_k _ _ _ _ (by first | exact Nat.ne_of_beq_eq_false rfl | decide)]
        rw [e36 0 (X 55 0 (Xa 80 0 r))]
        have f37 : 0 ≤ X 44 0 (X 55 0 (Xa 80 0 r)) ∧ X 44 0 (X 55 0 (Xa 80 0 r)) ≤ 5 := hR 44 0 (X 55 0 (Xa 80 0 r))
        refine x_iast hx hb hK.1 hw hS (by first | exact Int.le_refl 0 | omega) (by first | exact zlt hc72 | omega) ar_72 (len_E ar_72 (by first | exact Nat.ne_of_beq_eq_false rfl | decide)) (by omega) (by omega) (by omega) dX9_saves_76 (fun H locs hw hS => ?_)
        obtain ⟨X38, hX38⟩ : ∃ Xq, Xq = u3 X35 72 0 (120 + r) (X 44 0 (X 55 0 (Xa 80 0 r))) := ⟨_, rfl⟩
        rw [← hX38] at hw
        have hRX38 : Rng X38 := by rw [hX38]; exact rng_set hRX35 (show 0 ≤ (X 44 0 (X 55 0 (Xa 80 0 r))) ∧ (X 44 0 (X 55 0 (Xa 80 0 r))) ≤ 5 by omega)
        have hVX38 : X38 72 0 (120 + r) = (X 44 0 (X 55 0 (Xa 80 0 r))) := by rw [hX38]; exact u3_s _ _ _ _ _
        have hFX38 : Frm [7100, 7200, 7300, 7400, 7500, 8000, 7000, 8100, 7700, 7800, 7900, 7600, 4042, 4043, 4044] X X38 := by rw [hX38]; exact Frm.set hFX35 (show 7200 ∈ [7100, 7200, 7300, 7400, 7500, 8000, 7000, 8100, 7700, 7800, 7900, 7600, 4042, 4043, 4044] by first | exact nlm_in rfl | decide)
        refine lv_iconst (v := jI 0) hx hb dX9_saves_77 rfl ?_
        refine lv_istore (lv' := [(6, .int (jI 0)), (5, .int (jI (X 55 0 (Xa 80 0 r)))), (4, .int (jI (Xa 80 0 r))), (0, .ref (ad 40 0)), (1, .int (jI x)), (2, .int (jI shut)), (3, .int (jI r))]) hx hb dX9_saves_78 hl (by decide) rfl (fun ls hl => ?_)
        have lp80 : ∀ (nn : Nat) (k : Int) (Xb : Nat → Int → Int → Int) (H : Heap) (locs : List Loc) (ls : Array Slot), (5 - k) < (nn : Int) → (Rng Xb) → (Frm [7100, 7200, 7300, 7400, 7500, 8000, 7000, 8100, 7700, 7800, 7900, 7600] X38 Xb) → (0 ≤ k ∧ k ≤ 5) → (ordOK Xb) → (S4 X38 Xb) → (Xb 76 0 4 ≤ 5 * r + k) → (r < Xb 70 0 4) → (cOK Xb r k) → (Xb 71 0 (120 + r) < X 40 0 2) → (Xb 72 0 (120 + r) = X 44 0 (X 55 0 (Xa 80 0 r))) → (rmT Xb (recK (lnM X) (mRid X) (mRid X) (recR (fcM X) (lnM X) (mRid X) (mRid X) x r.toNat) r k.toNat)) → (rmR Xb (recK (lnM X) (mRid X) (mRid X) (recR (fcM X) (lnM X) (mRid X) (mRid X) x r.toNat) r k.toNat)) → (rmV Xb (recK (lnM X) (mRid X) (mRid X) (recR (fcM X) (lnM X) (mRid X) (mRid X) x r.toNat) r k.toNat) r k) → (Xb 71 0 (120 + r) = X 55 0 (Xa 80 0 r)) → (k ≤ X 44 0 (X 55 0 (Xa 80 0 r))) → (shut = 1 → ∀ k', 0 ≤ k' → k' < k → X 48 0 (5 * X 55 0 (Xa 80 0 r) + k') = 0) → (S5 X38 Xb) → wd D tc base (ad, cnt, Xb, Y, ln) H → va_S (frA base) s.heap H locs → lv_has ls 10 [(0, .ref (ad 40 0)), (1, .int (jI x)), (2, .int (jI shut)), (3, .int (jI r)), (4, .int (jI (Xa 80 0 r))), (5, .int (jI (X 55 0 (Xa 80 0 r)))), (6, .int (jI k))] → W p l e ({ frames := 1, cells := 0, slots := 0, locals := 24 } : Room) s m av9 below meth c H locs 0 0 Q9 (F0 m 80 ls []) := by
          intro nn
          induction nn with
          | zero => intro k Xb H locs ls hm hRXb hGXb hk hOb h4Xb hsr hrm hcO h71 h72 hTb hRb9 hVb h71b hkf hnk h5Xb hw hS hl; exfalso; omega
          | succ nn ih80 =>
            intro k Xb H locs ls hm hRXb hGXb hk hOb h4Xb hsr hrm hcO h71 h72 hTb hRb9 hVb h71b hkf hnk h5Xb hw hS hl
            have hFXb : Frm [7100, 7200, 7300, 7400, 7500, 8000, 7000, 8100, 7700, 7800, 7900, 7600, 4042, 4043, 4044] X Xb := Frm.tr hFX38 (Frm.mono hGXb (by first | exact nls_of rfl | decide))
            have hTb1 : Xb 70 0 4 = recK (lnM X) (mRid X) (mRid X) (recR (fcM X) (lnM X) (mRid X) (mRid X) x r.toNat) r k.toNat 0 0 := hTb.1
            refine lv_iload hx hb dX9_saves_80 (lv_at hl 6 rfl) ?_
            refine lv_aload_n hx hb dX9_saves_82 rfl (lv_at hl 0 rfl) ?_
            refine x_geto hx hb hf9 hw (by first | exact Int.le_refl 0 | omega) (by first | exact zlt hc40 | omega) sl_40_3 lk13 dX9_saves_83 ?_
            refine lv_iload hx hb dX9_saves_86 (lv_at hl 5 rfl) ?_
            refine x_iald hx hb hK.1 hw (by first | exact Int.le_refl 0 | omega) (by first | exact zlt hc44 | omega) ar_44 (len_E ar_44 (by first | exact Nat.ne_of_beq_eq_false rfl | decide)) (by omega) (by omega) (by omega) dX9_saves_88 ?_
            have e39 : ∀ p9 q9 : Int, Xb 44 p9 q9 = X 44 p9 q9 := fun p9 q9 => by rw [hGXb 44 p9 q9 (show 4400 ∉ [7100, 7200, 7300, 7400, 7500, 8000, 7000, 8100, 7700, 7800, 7900, 7600] by first | exact nlm_ni rfl | decide), hX38, u3_k _ _ _ _ (by first | exact Nat.ne_of_beq_eq_false rfl | decide), hX35, u3_k _ _ _ _ (by first | exact Nat.ne_of_beq_eq_false rfl | decide), hGXa 44 p9 q9 (show 4400 ∉ [7100, 7200, 7300, 7400, 7500, 8000, 7000, 8100, 7700, 7800, 7900, 7600] by first | exact nlm_ni rfl | decide), hG13 44 p9 q9 (show 4400 ∉ [8000, 7000] by first | exact nlm_ni rfl | decide), hX2, u3_k _ _ _ _ (by first | exact Nat.ne_of_beq_eq_false rfl | decide), hX1, u3_k _ _ _ _ (by first | exact Nat.ne_of_beq_eq_false rfl | decide)]
            rw [e39 0 (X 55 0 (Xa 80 0 r))]
            have f40 : 0 ≤ X 44 0 (X 55 0 (Xa 80 0 r)) ∧ X 44 0 (X 55 0 (Xa 80 0 r)) ≤ 5 := hR 44 0 (X 55 0 (Xa 80 0 r))
            have q900012 : Frm [7000, 7100, 7200, 7300, 7400, 7500, 7600, 7700, 7800, 7900, 8000, 8100] X X1 := by rw [hX1]; exact Frm.set Frm.rf (show 7000 ∈ [7000, 7100, 7200, 7300, 7400, 7500, 7600, 7700, 7800, 7900, 8000, 8100] by first | exact nlm_in rfl | decide)
            have q900013 : Frm [7000, 7100, 7200, 7300, 7400, 7500, 7600, 7700, 7800, 7900, 8000, 8100] X X2 := by rw [hX2]; exact Frm.set q900012 (show 7600 ∈ [7000, 7100, 7200, 7300, 7400, 7500, 7600, 7700, 7800, 7900, 8000, 8100] by first | exact nlm_in rfl | decide)
            have q900014 : Frm [7000, 7100, 7200, 7300, 7400, 7500, 7600, 7700, 7800, 7900, 8000, 8100] X X12 := Frm.tr q900013 (Frm.mono hG13 (by first | exact nls_of rfl | decide))
            have q900015 : Frm [7000, 7100, 7200, 7300, 7400, 7500, 7600, 7700, 7800, 7900, 8000, 8100] X Xa := Frm.tr q900014 (Frm.mono hGXa (by first | exact nls_of rfl | decide))
            have q900016 : Frm [7000, 7100, 7200, 7300, 7400, 7500, 7600, 7700, 7800, 7900, 8000, 8100] X X35 := by rw [hX35]; exact Frm.set q900015 (show 7100 ∈ [7000, 7100, 7200, 7300, 7400, 7500, 7600, 7700, 7800, 7900, 8000, 8100] by first | exact nlm_in rfl | decide)
            have q900017 : Frm [7000, 7100, 7200, 7300, 7400, 7500, 7600, 7700, 7800, 7900, 8000, 8100] X X38 := by rw [hX38]; exact Frm.set q900016 (show 7200 ∈ [7000, 7100, 7200, 7300, 7400, 7500, 7600, 7700, 7800, 7900, 8000, 8100] by first | exact nlm_in rfl | decide)
            have q900018 : Frm [7000, 7100, 7200, 7300, 7400, 7500, 7600, 7700, 7800, 7900, 8000, 8100] X Xb := Frm.tr q900017 (Frm.mono hGXb (by first | exact nls_of rfl | decide))
            refine x_icmp_ge (tgt := 263) hx hb (by omega) (by omega) dX9_saves_89 (by decide) (fun c41 => ?_) (fun c41 => ?_)
            · refine lv_iinc (v := jI (r + 1)) (lv' := [(3, .int (jI (r + 1))), (0, .ref (ad 40 0)), (1, .int (jI x)), (2, .int (jI shut)), (4, .int (jI (Xa 80 0 r))), (5, .int (jI (X 55 0 (Xa 80 0 r)))), (6, .int (jI k))]) hx hb dX9_saves_263 hl (k := 3) rfl (jI_add _ _) (by decide) rfl (fun ls hl => ?_)
              refine lv_goto (tgt := 23) hx hb dX9_saves_266 (by decide) ?_
              have q42 : Frm [7100, 7200, 7300, 7400, 7500, 8000, 7000, 8100, 7700, 7800, 7900, 7600] X12 Xa := Frm.tr Frm.rf (Frm.mono hGXa (by first | exact nls_of rfl | decide))
              have q43 : Frm [7100, 7200, 7300, 7400, 7500, 8000, 7000, 8100, 7700, 7800, 7900, 7600] X12 X35 := by rw [hX35]; exact Frm.set q42 (show 7100 ∈ [7100, 7200, 7300, 7400, 7500, 8000, 7000, 8100, 7700, 7800, 7900, 7600] by first | exact nlm_in rfl | decide)
              have q44 : Frm [7100, 7200, 7300, 7400, 7500, 8000, 7000, 8100, 7700, 7800, 7900, 7600] X12 X38 := by rw [hX38]; exact Frm.set q43 (show 7200 ∈ [7100, 7200, 7300, 7400, 7500, 8000, 7000, 8100, 7700, 7800, 7900, 7600] by first | exact nlm_in rfl | decide)
              have q45 : Frm [7100, 7200, 7300, 7400, 7500, 8000, 7000, 8100, 7700, 7800, 7900, 7600] X12 Xb := Frm.tr q44 (Frm.mono hGXb (by first | exact nls_of rfl | decide))
              have q46 : S4 X12 Xa := S4.tr S4.rf h4Xa
              have q47 : S4 X12 X35 := by rw [hX35]; exact S4.set q46 ⟨by first | exact fun h => absurd h (Nat.ne_of_beq_eq_false rfl) | omega, by first | exact fun h => absurd h (Nat.ne_of_beq_eq_false rfl) | omega, by first | exact fun h => absurd h (Nat.ne_of_beq_eq_false rfl) | omega, by first | exact fun h => absurd h (Nat.ne_of_beq_eq_false rfl) | omega, by first | exact fun h => absurd h (Nat.ne_of_beq_eq_false rfl) | omega⟩
              have q48 : S4 X12 X38 := by rw [hX38]; exact S4.set q47 ⟨by first | exact fun h => absurd h (Nat.ne_of_beq_eq_false rfl) | omega, by first | exact fun h => absurd h (Nat.ne_of_beq_eq_false rfl) | omega, by first | exact fun h => absurd h (Nat.ne_of_beq_eq_false rfl) | omega, by first | exact fun h => absurd h (Nat.ne_of_beq_eq_false rfl) | omega, by first | exact fun h => absurd h (Nat.ne_of_beq_eq_false rfl) | omega⟩
              have q49 : S4 X12 Xb := S4.tr q48 h4Xb
              have q64 : S5 X12 Xa := S5.tr S5.rf h5Xa
              have q65 : S5 X12 X35 := by rw [hX35]; exact S5.set q64 ⟨by first | exact fun h => absurd h (Nat.ne_of_beq_eq_false rfl) | omega, by first | exact fun h => absurd h (Nat.ne_of_beq_eq_false rfl) | omega, by first | exact fun h => absurd h (Nat.ne_of_beq_eq_false rfl) | omega, by first | exact fun h => absurd h (Nat.ne_of_beq_eq_false rfl) | omega, by first | exact fun h => absurd h (Nat.ne_of_beq_eq_false rfl) | omega⟩
              have q66 : S5 X12 X38 := by rw [hX38]; exact S5.set q65 ⟨by first | exact fun h => absurd h (Nat.ne_of_beq_eq_false rfl) | omega, by first | exact fun h => absurd h (Nat.ne_of_beq_eq_false rfl) | omega, by first | exact fun h => absurd h (Nat.ne_of_beq_eq_false rfl) | omega, by first | exact fun h => absurd h (Nat.ne_of_beq_eq_false rfl) | omega, by first | exact fun h => absurd h (Nat.ne_of_beq_eq_false rfl) | omega⟩
              have q67 : S5 X12 Xb := S5.tr q66 h5Xb
              exact ih23 (r + 1) Xb _ _ _ (by omega) hRXb q45 (by omega) (hOb) (q49) (by omega) (hcO.next (by rw [hGXb 40 0 2 (show 4003 ∉ [7100, 7200, 7300, 7400, 7500, 8000, 7000, 8100, 7700, 7800, 7900, 7600] by first | exact nlm_ni rfl | decide), hX38, u3_k _ _ _ _ (by first | exact Nat.ne_of_beq_eq_false rfl | decide), hX35, u3_k _ _ _ _ (by first | exact Nat.ne_of_beq_eq_false rfl | decide), hGXa 40 0 2 (show 4003 ∉ [7100, 7200, 7300, 7400, 7500, 8000, 7000, 8100, 7700, 7800, 7900, 7600] by first | exact nlm_ni rfl | decide), hG13 40 0 2 (show 4003 ∉ [8000, 7000] by first | exact nlm_ni rfl | decide), hX2, u3_k _ _ _ _ (by first | exact Nat.ne_of_beq_eq_false rfl | decide), hX1, u3_k _ _ _ _ (by first | exact Nat.ne_of_beq_eq_false rfl | decide)]; omega) (by rw [h72]; omega)) ((by rw [recR_next (by omega) (by omega) (by show k = X 44 0 (X 55 0 (recR (fcM X) (lnM X) (mRid X) (mRid X) x r.toNat 1 r)); rw [← hyo]; omega)]; exact hTb)) ((by rw [recR_next (by omega) (by omega) (by show k = X 44 0 (X 55 0 (recR (fcM X) (lnM X) (mRid X) (mRid X) x r.toNat 1 r)); rw [← hyo]; omega)]; exact hRb9)) ((by rw [recR_next (by omega) (by omega) (by show k = X 44 0 (X 55 0 (recR (fcM X) (lnM X) (mRid X) (mRid X) x r.toNat 1 r)); rw [← hyo]; omega)]; exact rmV.next (by rw [show fcM Xb (recK (lnM X) (mRid X) (mRid X) (recR (fcM X) (lnM X) (mRid X) (mRid X) x r.toNat) r k.toNat 1 r) = k from by (rw [recK_o _ ⟨by omega, by omega⟩, ← hyo]; unfold fcM; rw [(Frm.arr q900018 44 (by decide +kernel) (by decide)), (Frm.arr q900018 55 (by decide +kernel) (by decide))]; omega)]; exact hVb) (by rw [recK_o _ ⟨by omega, by omega⟩, ← hyo, (Frm.arr q900018 55 (by decide +kernel) (by decide))]; exact h71b) (by rw [recK_o _ ⟨by omega, by omega⟩, ← hyo]; unfold fcM; rw [(Frm.arr q900018 44 (by decide +kernel) (by decide)), (Frm.arr q900018 55 (by decide +kernel) (by decide))]; exact h72))) ((by rw [recR_next (by omega) (by omega) (by show k = X 44 0 (X 55 0 (recR (fcM X) (lnM X) (mRid X) (mRid X) x r.toNat 1 r)); rw [← hyo]; omega)]; intro h9 r' k' a b c d; rw [recK_o _ ⟨a, by omega⟩] at d ⊢; by_cases e9 : r' = r; rw [e9, ← hyo] at d ⊢; exact hnk h9 k' c (by unfold fcM at d; omega); exact hns h9 r' k' a (by omega) c d)) (q67) hw hS (lv_sub hl [1, 2, 3, 0] rfl)
            · refine lv_aload_n hx hb dX9_saves_92 rfl (lv_at hl 0 rfl) ?_
              refine x_geto hx hb hf9 hw (by first | exact Int.le_refl 0 | omega) (by first | exact zlt hc40 | omega) sl_40_7 lk27 dX9_saves_93 ?_
              refine lv_iconst (v := jI 5) hx hb dX9_saves_96 rfl ?_
              refine lv_iload hx hb dX9_saves_97 (lv_at hl 5 rfl) ?_
              refine x_imul hx hb dX9_saves_99 ?_
              refine lv_iload hx hb dX9_saves_100 (lv_at hl 6 rfl) ?_
              refine x_iadd hx hb dX9_saves_102 ?_
              refine x_zald hx hb hK.1 hw (by first | exact Int.le_refl 0 | omega) (by first | exact zlt hc48 | omega) ar_48 (len_E ar_48 (by first | exact Nat.ne_of_beq_eq_false rfl | decide)) (by omega) (by omega) (by omega) dX9_saves_103 ?_
              have e68 : ∀ p9 q9 : Int, Xb 48 p9 q9 = X 48 p9 q9 := fun p9 q9 => by rw [hGXb 48 p9 q9 (show 4800 ∉ [7100, 7200, 7300, 7400, 7500, 8000, 7000, 8100, 7700, 7800, 7900, 7600] by first | exact nlm_ni rfl | decide), hX38, u3_k _ _ _ _ (by first | exact Nat.ne_of_beq_eq_false rfl | decide), hX35, u3_k _ _ _ _ (by first | exact Nat.ne_of_beq_eq_false rfl | decide), hGXa 48 p9 q9 (show 4800 ∉ [7100, 7200, 7300, 7400, 7500, 8000, 7000, 8100, 7700, 7800, 7900, 7600] by first | exact nlm_ni rfl | decide), hG13 48 p9 q9 (show 4800 ∉ [8000, 7000] by first | exact nlm_ni rfl | decide), hX2, u3_k _ _ _ _ (by first | exact Nat.ne_of_beq_eq_false rfl | decide), hX1, u3_k _ _ _ _ (by first | exact Nat.ne_of_beq_eq_false rfl | decide)]
              rw [e68 0 ((5 * (X 55 0 (Xa 80 0 r))) + k)]
              have f69 : 0 ≤ X 48 0 ((5 * (X 55 0 (Xa 80 0 r))) + k) ∧ X 48 0 ((5 * (X 55 0 (Xa 80 0 r))) + k) ≤ 1 := hR 48 0 ((5 * (X 55 0 (Xa 80 0 r))) + k)
              have q900007 : S4 X Xa := S4.tr q900005 h4Xa
              have q900020 : Frm [7100, 7200, 7300, 7400, 7500, 8000, 7000, 8100, 7700, 7800, 7900, 7600] X38 Xb := Frm.tr Frm.rf (Frm.mono hGXb (by first | exact nls_of rfl | decide))
              have q900026 : S4 X38 Xb := S4.tr S4.rf h4Xb
              have q900034 : S5 X38 Xb := S5.tr S5.rf h5Xb
              have q900038 : S4 X X35 := by rw [hX35]; exact S4.set q900007 ⟨by first | exact fun h => absurd h (Nat.ne_of_beq_eq_false rfl) | omega, by first | exact fun h => absurd h (Nat.ne_of_beq_eq_false rfl) | omega, by first | exact fun h => absurd h (Nat.ne_of_beq_eq_false rfl) | omega, by first | exact fun h => absurd h (Nat.ne_of_beq_eq_false rfl) | omega, by first | exact fun h => absurd h (Nat.ne_of_beq_eq_false rfl) | omega⟩
              have q900040 : S4 X X38 := by rw [hX38]; exact S4.set q900038 ⟨by first | exact fun h => absurd h (Nat.ne_of_beq_eq_false rfl) | omega, by first | exact fun h => absurd h (Nat.ne_of_beq_eq_false rfl) | omega, by first | exact fun h => absurd h (Nat.ne_of_beq_eq_false rfl) | omega, by first | exact fun h => absurd h (Nat.ne_of_beq_eq_false rfl) | omega, by first | exact fun h => absurd h (Nat.ne_of_beq_eq_false rfl) | omega⟩
              have q900042 : S4 X Xb := S4.tr q900040 h4Xb
              refine x_if_eq (tgt := 132) hx hb (by omega) dX9_saves_104 (by decide) (fun c70 => ?_) (fun c70 => ?_)
              · refine lv_iconst (v := jI 5) hx hb dX9_saves_132 rfl ?_
                refine lv_bipush (v := jI 120) hx hb dX9_saves_133 (by decide) ?_
                refine lv_iload_n hx hb dX9_saves_135 rfl (lv_at hl 3 rfl) ?_
                refine x_iadd hx hb dX9_saves_136 ?_
                refine x_imul hx hb dX9_saves_137 ?_
                refine lv_iload hx hb dX9_saves_138 (lv_at hl 6 rfl) ?_
                refine x_iadd hx hb dX9_saves_140 ?_
                refine lv_istore (lv' := [(7, .int (jI ((5 * (120 + r)) + k))), (0, .ref (ad 40 0)), (1, .int (jI x)), (2, .int (jI shut)), (3, .int (jI r)), (4, .int (jI (Xa 80 0 r))), (5, .int (jI (X 55 0 (Xa 80 0 r)))), (6, .int (jI k))]) hx hb dX9_saves_141 hl (by decide) rfl (fun ls hl => ?_)
                refine lv_aload_n hx hb dX9_saves_143 rfl (lv_at hl 1 rfl) ?_
                refine x_geto hx hb hf9 hw (by first | exact Int.le_refl 0 | omega) (by first | exact zlt hc40 | omega) sl_40_15 lk48 dX9_saves_144 ?_
                refine lv_iconst (v := jI 5) hx hb dX9_saves_147 rfl ?_
                refine lv_iload hx hb dX9_saves_148 (lv_at hl 5 rfl) ?_
                refine x_imul hx hb dX9_saves_150 ?_
                refine lv_iload hx hb dX9_saves_151 (lv_at hl 7 rfl) ?_
                refine x_iadd hx hb dX9_saves_153 ?_
                obtain ⟨hy1, hy2, hy3⟩ := hMI.1 (Xa 80 0 r) k (by omega) (by omega) (by omega) (by omega)
                refine x_lald hx hb hK.1 hw (by first | exact Int.le_refl 0 | omega) (by first | exact zlt hc56 | omega) ar_56 (len_E ar_56 (by first | exact Nat.ne_of_beq_eq_false rfl | decide)) (by omega) (by omega) (by omega) dX9_saves_154 ?_
                have e71 : ∀ p9 q9 : Int, Xb 56 p9 q9 = X 56 p9 q9 := fun p9 q9 => by rw [hGXb 56 p9 q9 (show 5600 ∉ [7100, 7200, 7300, 7400, 7500, 8000, 7000, 8100, 7700, 7800, 7900, 7600] by first | exact nlm_ni rfl | decide), hX38, u3_k _ _ _ _ (by first | exact Nat.ne_of_beq_eq_false rfl | decide), hX35, u3_k _ _ _ _ (by first | exact Nat.ne_of_beq_eq_false rfl | decide), hGXa 56 p9 q9 (show 5600 ∉ [7100, 7200, 7300, 7400, 7500, 8000, 7000, 8100, 7700, 7800, 7900, 7600] by first | exact nlm_ni rfl | decide), hG13 56 p9 q9 (show 5600 ∉ [8000, 7000] by first | exact nlm_ni rfl | decide), hX2, u3_k _ _ _ _ (by first | exact Nat.ne_of_beq_eq_false rfl | decide), hX1, u3_k _ _ _ _ (by first | exact Nat.ne_of_beq_eq_false rfl | decide)]
                rw [e71 0 ((5 * (Xa 80 0 r)) + k)]
                have f72 : (-9223372036854775808) ≤ X 56 0 ((5 * (Xa 80 0 r)) + k) ∧ X 56 0 ((5 * (Xa 80 0 r)) + k) ≤ 9223372036854775807 := hR 56 0 ((5 * (Xa 80 0 r)) + k)
                refine lv_lstore (lv' := [(8, .long (jL (X 56 0 ((5 * (Xa 80 0 r)) + k)))), (7, .int (jI ((5 * (120 + r)) + k))), (0, .ref (ad 40 0)), (1, .int (jI x)), (2, .int (jI shut)), (3, .int (jI r)), (4, .int (jI (Xa 80 0 r))), (5, .int (jI (X 55 0 (Xa 80 0 r)))), (6, .int (jI k))]) hx hb dX9_saves_155 hl (by decide) rfl (fun ls hl => ?_)
                refine lv_aload_n hx hb dX9_saves_157 rfl (lv_at hl 2 rfl) ?_
                refine x_geto hx hb hf9 hw (by first | exact Int.le_refl 0 | omega) (by first | exact zlt hc40 | omega) sl_40_32 lk90 dX9_saves_158 ?_
                refine lv_iload hx hb dX9_saves_161 (lv_at hl 1 rfl) ?_
                refine lv_aload_n hx hb dX9_saves_163 rfl (lv_at hl 2 rfl) ?_
                refine x_geto hx hb hf9 hw (by first | exact Int.le_refl 0 | omega) (by first | exact zlt hc40 | omega) sl_40_4 lk17 dX9_saves_164 ?_
                refine lv_iconst (v := jI 5) hx hb dX9_saves_167 rfl ?_
                refine lv_iload hx hb dX9_saves_168 (lv_at hl 7 rfl) ?_
                refine x_imul hx hb dX9_saves_170 ?_
                refine lv_iload hx hb dX9_saves_171 (lv_at hl 8 rfl) ?_
                refine x_iadd hx hb dX9_saves_173 ?_
                refine x_iald hx hb hK.1 hw (by first | exact Int.le_refl 0 | omega) (by first | exact zlt hc45 | omega) ar_45 (len_E ar_45 (by first | exact Nat.ne_of_beq_eq_false rfl | decide)) (by omega) (by omega) (by omega) dX9_saves_174 ?_
                have e73 : ∀ p9 q9 : Int, Xb 45 p9 q9 = X 45 p9 q9 := fun p9 q9 => by rw [hGXb 45 p9 q9 (show 4500 ∉ [7100, 7200, 7300, 7400, 7500, 8000, 7000, 8100, 7700, 7800, 7900, 7600] by first | exact nlm_ni rfl | decide), hX38, u3_k _ _ _ _ (by first | exact Nat.ne_of_beq_eq_false rfl | decide), hX35, u3_k _ _ _ _ (by first | exact Nat.ne_of_beq_eq_false rfl | decide), hGXa 45 p9 q9 (show 4500 ∉ [7100, 7200, 7300, 7400, 7500, 8000, 7000, 8100, 7700, 7800, 7900, 7600] by first | exact nlm_ni rfl | decide), hG13 45 p9 q9 (show 4500 ∉ [8000, 7000] by first | exact nlm_ni rfl | decide), hX2, u3_k _ _ _ _ (by first | exact Nat.ne_of_beq_eq_false rfl | decide), hX1, u3_k _ _ _ _ (by first | exact Nat.ne_of_beq_eq_false rfl | decide)]
                rw [e73 0 ((5 * (X 55 0 (Xa 80 0 r))) + k)]
                have f74 : 0 ≤ X 45 0 ((5 * (X 55 0 (Xa 80 0 r))) + k) ∧ X 45 0 ((5 * (X 55 0 (Xa 80 0 r))) + k) ≤ 19 := hR 45 0 ((5 * (X 55 0 (Xa 80 0 r))) + k)
                refine x_iast hx hb hK.1 hw hS (by first | exact Int.le_refl 0 | omega) (by first | exact zlt hc73 | omega) ar_73 (len_E ar_73 (by first | exact Nat.ne_of_beq_eq_false rfl | decide)) (by omega) (by omega) (by omega) dX9_saves_175 (fun H locs hw hS => ?_)
                obtain ⟨X75, hX75⟩ : ∃ Xq, Xq = u3 Xb 73 0 ((5 * (120 + r)) + k) (X 45 0 ((5 * (X 55 0 (Xa 80 0 r))) + k)) := ⟨_, rfl⟩
                rw [← hX75] at hw
                have hRX75 : Rng X75 := by rw [hX75]; exact rng_set hRXb (show 0 ≤ (X 45 0 ((5 * (X 55 0 (Xa 80 0 r))) + k)) ∧ (X 45 0 ((5 * (X 55 0 (Xa 80 0 r))) + k)) ≤ 19 by omega)
                have hVX75 : X75 73 0 ((5 * (120 + r)) + k) = (X 45 0 ((5 * (X 55 0 (Xa 80 0 r))) + k)) := by rw [hX75]; exact u3_s _ _ _ _ _
                have hFX75 : Frm [7100, 7200, 7300, 7400, 7500, 8000, 7000, 8100, 7700, 7800, 7900, 7600, 4042, 4043, 4044] X X75 := by rw [hX75]; exact Frm.set hFXb (show 7300 ∈ [7100, 7200, 7300, 7400, 7500, 8000, 7000, 8100, 7700, 7800, 7900, 7600, 4042, 4043, 4044] by first | exact nlm_in rfl | decide)
                refine lv_aload_n hx hb dX9_saves_176 rfl (lv_at hl 2 rfl) ?_
                refine x_geto hx hb hf9 hw (by first | exact Int.le_refl 0 | omega) (by first | exact zlt hc40 | omega) sl_40_33 lk93 dX9_saves_177 ?_
                refine lv_iload hx hb dX9_saves_180 (lv_at hl 1 rfl) ?_
                refine lv_aload_n hx hb dX9_saves_182 rfl (lv_at hl 2 rfl) ?_
                refine x_geto hx hb hf9 hw (by first | exact Int.le_refl 0 | omega) (by first | exact zlt hc40 | omega) sl_40_5 lk20 dX9_saves_183 ?_
                refine lv_iconst (v := jI 5) hx hb dX9_saves_186 rfl ?_
                refine lv_iload hx hb dX9_saves_187 (lv_at hl 7 rfl) ?_
                refine x_imul hx hb dX9_saves_189 ?_
                refine lv_iload hx hb dX9_saves_190 (lv_at hl 8 rfl) ?_
                refine x_iadd hx hb dX9_saves_192 ?_
                refine x_iald hx hb hK.1 hw (by first | exact Int.le_refl 0 | omega) (by first | exact zlt hc46 | omega) ar_46 (len_E ar_46 (by first | exact Nat.ne_of_beq_eq_false rfl | decide)) (by omega) (by omega) (by omega) dX9_saves_193 ?_
                have e76 : ∀ p9 q9 : Int, X75 46 p9 q9 = X 46 p9 q9 := fun p9 q9 => by rw [hX75, u3_k _ _ _ _ (by first | exact Nat.ne_of_beq_eq_false rfl | decide), hGXb 46 p9 q9 (show 4600 ∉ [7100, 7200, 7300, 7400, 7500, 8000, 7000, 8100, 7700, 7800, 7900, 7600] by first | exact nlm_ni rfl | decide), hX38, u3_k _ _ _ _ (by first | exact Nat.ne_of_beq_eq_false rfl | decide), hX35, u3_k _ _ _ _ (by first | exact Nat.ne_of_beq_eq_false rfl | decide), hGXa 46 p9 q9 (show 4600 ∉ [7100, 7200, 7300, 7400, 7500, 8000, 7000, 8100, 7700, 7800, 7900, 7600] by first | exact nlm_ni rfl | decide), hG13 46 p9 q9 (show 4600 ∉ [8000, 7000] by first | exact nlm_ni rfl | decide), hX2, u3_k _ _ _ _ (by first | exact Nat.ne_of_beq_eq_false rfl | decide), hX1, u3_k _ _ _ _ (by first | exact Nat.ne_of_beq_eq_false rfl | decide)]
                rw [e76 0 ((5 * (X 55 0 (Xa 80 0 r))) + k)]
                have f77 : 0 ≤ X 46 0 ((5 * (X 55 0 (Xa 80 0 r))) + k) ∧ X 46 0 ((5 * (X 55 0 (Xa 80 0 r))) + k) ≤ 5 := hR 46 0 ((5 * (X 55 0 (Xa 80 0 r))) + k)
                refine x_iast hx hb hK.1 hw hS (by first | exact Int.le_refl 0 | omega) (by first | exact zlt hc74 | omega) ar_74 (len_E ar_74 (by first | exact Nat.ne_of_beq_eq_false rfl | decide)) (by omega) (by omega) (by omega) dX9_saves_194 (fun H locs hw hS => ?_)
                obtain ⟨X78, hX78⟩ : ∃ Xq, Xq = u3 X75 74 0 ((5 * (120 + r)) + k) (X 46 0 ((5 * (X 55 0 (Xa 80 0 r))) + k)) := ⟨_, rfl⟩
                rw [← hX78] at hw
                have hRX78 : Rng X78 := by rw [hX78]; exact rng_set hRX75 (show 0 ≤ (X 46 0 ((5 * (X 55 0 (Xa 80 0 r))) + k)) ∧ (X 46 0 ((5 * (X 55 0 (Xa 80 0 r))) + k)) ≤ 5 by omega)
                have hVX78 : X78 74 0 ((5 * (120 + r)) + k) = (X 46 0 ((5 * (X 55 0 (Xa 80 0 r))) + k)) := by rw [hX78]; exact u3_s _ _ _ _ _
                have hFX78 : Frm [7100, 7200, 7300, 7400, 7500, 8000, 7000, 8100, 7700, 7800, 7900, 7600, 4042, 4043, 4044] X X78 := by rw [hX78]; exact Frm.set hFX75 (show 7400 ∈ [7100, 7200, 7300, 7400, 7500, 8000, 7000, 8100, 7700, 7800, 7900, 7600, 4042, 4043, 4044] by first | exact nlm_in rfl | decide)
                refine lv_aload_n hx hb dX9_saves_195 rfl (lv_at hl 2 rfl) ?_
                refine x_geto hx hb hf9 hw (by first | exact Int.le_refl 0 | omega) (by first | exact zlt hc40 | omega) sl_40_34 lk96 dX9_saves_196 ?_
                refine lv_iload hx hb dX9_saves_199 (lv_at hl 1 rfl) ?_
                refine lv_aload_n hx hb dX9_saves_201 rfl (lv_at hl 2 rfl) ?_
                refine x_geto hx hb hf9 hw (by first | exact Int.le_refl 0 | omega) (by first | exact zlt hc40 | omega) sl_40_33 lk93 dX9_saves_202 ?_
                refine lv_iload hx hb dX9_saves_205 (lv_at hl 1 rfl) ?_
                refine x_iald hx hb hK.1 hw (by first | exact Int.le_refl 0 | omega) (by first | exact zlt hc74 | omega) ar_74 (len_E ar_74 (by first | exact Nat.ne_of_beq_eq_false rfl | decide)) (by omega) (by omega) (by omega) dX9_saves_207 ?_
                rw [hVX78]
                refine lv_iconst (v := jI 2) hx hb dX9_saves_208 rfl ?_
                have q900021 : Frm [7100, 7200, 7300, 7400, 7500, 8000, 7000, 8100, 7700, 7800, 7900, 7600] X38 X75 := by rw [hX75]; exact Frm.set q900020 (show 7300 ∈ [7100, 7200, 7300, 7400, 7500, 8000, 7000, 8100, 7700, 7800, 7900, 7600] by first | exact nlm_in rfl | decide)
                have q900022 : Frm [7100, 7200, 7300, 7400, 7500, 8000, 7000, 8100, 7700, 7800, 7900, 7600] X38 X78 := by rw [hX78]; exact Frm.set q900021 (show 7400 ∈ [7100, 7200, 7300, 7400, 7500, 8000, 7000, 8100, 7700, 7800, 7900, 7600] by first | exact nlm_in rfl | decide)
                have q900023 : Frm [7300, 7400, 7500] Xb X75 := by rw [hX75]; exact Frm.set Frm.rf (show 7300 ∈ [7300, 7400, 7500] by first | exact nlm_in rfl | decide)
                have q900024 : Frm [7300, 7400, 7500] Xb X78 := by rw [hX78]; exact Frm.set q900023 (show 7400 ∈ [7300, 7400, 7500] by first | exact nlm_in rfl | decide)
                have q900027 : S4 X38 X75 := by rw [hX75]; exact S4.set q900026 ⟨by first | exact fun h => absurd h (Nat.ne_of_beq_eq_false rfl) | omega, by first | exact fun h => absurd h (Nat.ne_of_beq_eq_false rfl) | omega, by first | exact fun h => absurd h (Nat.ne_of_beq_eq_false rfl) | omega, by first | exact fun h => absurd h (Nat.ne_of_beq_eq_false rfl) | omega, by first | exact fun h => absurd h (Nat.ne_of_beq_eq_false rfl) | omega⟩
                have q900028 : S4 X38 X78 := by rw [hX78]; exact S4.set q900027 ⟨by first | exact fun h => absurd h (Nat.ne_of_beq_eq_false rfl) | omega, by first | exact fun h => absurd h (Nat.ne_of_beq_eq_false rfl) | omega, by first | exact fun h => absurd h (Nat.ne_of_beq_eq_false rfl) | omega, by first | exact fun h => absurd h (Nat.ne_of_beq_eq_false rfl) | omega, by first | exact fun h => absurd h (Nat.ne_of_beq_eq_false rfl) | omega⟩
                have q900029 : Frm [7300, 7400] Xb X75 := by rw [hX75]; exact Frm.set Frm.rf (show 7300 ∈ [7300, 7400] by first | exact nlm_in rfl | decide)
                have q900030 : Frm [7300, 7400] Xb X78 := by rw [hX78]; exact Frm.set q900029 (show 7400 ∈ [7300, 7400] by first | exact nlm_in rfl | decide)
                have q900031 : Frm [7000, 7100, 7200, 7300, 7400, 7500, 7600, 7700, 7800, 7900, 8000, 8100] X X75 := by rw [hX75]; exact Frm.set q900018 (show 7300 ∈ [7000, 7100, 7200, 7300, 7400, 7500, 7600, 7700, 7800, 7900, 8000, 8100] by first | exact nlm_in rfl | decide)
                have q900032 : Frm [7000, 7100, 7200, 7300, 7400, 7500, 7600, 7700, 7800, 7900, 8000, 8100] X X78 := by rw [hX78]; exact Frm.set q900031 (show 7400 ∈ [7000, 7100, 7200, 7300, 7400, 7500, 7600, 7700, 7800, 7900, 8000, 8100] by first | exact nlm_in rfl | decide)
                have q900035 : S5 X38 X75 := by rw [hX75]; exact S5.set q900034 ⟨by first | exact fun h => absurd h (Nat.ne_of_beq_eq_false rfl) | omega, by first | exact fun h => absurd h (Nat.ne_of_beq_eq_false rfl) | omega, by first | exact fun h => absurd h (Nat.ne_of_beq_eq_false rfl) | omega, by first | exact fun h => absurd h (Nat.ne_of_beq_eq_false rfl) | omega, by first | exact fun h => absurd h (Nat.ne_of_beq_eq_false rfl) | omega⟩
                have q900036 : S5 X38 X78 := by rw [hX78]; exact S5.set q900035 ⟨by first | exact fun h => absurd h (Nat.ne_of_beq_eq_false rfl) | omega, by first | exact fun h => absurd h (Nat.ne_of_beq_eq_false rfl) | omega, by first | exact fun h => absurd h (Nat.ne_of_beq_eq_false rfl) | omega, by first | exact fun h => absurd h (Nat.ne_of_beq_eq_false rfl) | omega, by first | exact fun h => absurd h (Nat.ne_of_beq_eq_false rfl) | omega⟩
                refine x_icmp_lt (tgt := 219) hx hb (by omega) (by omega) dX9_saves_209 (by decide) (fun c79 => ?_) (fun c79 => ?_)
                · refine lv_lload hx hb dX9_saves_219 (lv_at hl 0 rfl) ?_
                  refine lv_goto (tgt := 256) hx hb dX9_saves_221 (by decide) ?_
                  refine x_last hx hb hK.1 hw hS (by first | exact Int.le_refl 0 | omega) (by first | exact zlt hc75 | omega) ar_75 (len_E ar_75 (by first | exact Nat.ne_of_beq_eq_false rfl | decide)) (by omega) (by omega) (by omega) dX9_saves_256 (fun H locs hw hS => ?_)
                  obtain ⟨X80, hX80⟩ : ∃ Xq, Xq = u3 X78 75 0 ((5 * (120 + r)) + k) (X 56 0 ((5 * (Xa 80 0 r)) + k)) := ⟨_, rfl⟩
                  rw [← hX80] at hw
                  have hRX80 : Rng X80 := by rw [hX80]; exact rng_set hRX78 (show (-9223372036854775808) ≤ (X 56 0 ((5 * (Xa 80 0 r)) + k)) ∧ (X 56 0 ((5 * (Xa 80 0 r)) + k)) ≤ 9223372036854775807 by omega)
                  have hVX80 : X80 75 0 ((5 * (120 + r)) + k) = (X 56 0 ((5 * (Xa 80 0 r)) + k)) := by rw [hX80]; exact u3_s _ _ _ _ _
                  have hFX80 : Frm [7100, 7200, 7300, 7400, 7500, 8000, 7000, 8100, 7700, 7800, 7900, 7600, 4042, 4043, 4044] X X80 := by rw [hX80]; exact Frm.set hFX78 (show 7500 ∈ [7100, 7200, 7300, 7400, 7500, 8000, 7000, 8100, 7700, 7800, 7900, 7600, 4042, 4043, 4044] by first | exact nlm_in rfl | decide)
                  refine lv_iinc (v := jI (k + 1)) (lv' := [(6, .int (jI (k + 1))), (8, .long (jL (X 56 0 ((5 * (Xa 80 0 r)) + k)))), (7, .int (jI ((5 * (120 + r)) + k))), (0, .ref (ad 40 0)), (1, .int (jI x)), (2, .int (jI shut)), (3, .int (jI r)), (4, .int (jI (Xa 80 0 r))), (5, .int (jI (X 55 0 (Xa 80 0 r))))]) hx hb dX9_saves_257 hl (k := 8) rfl (jI_add _ _) (by decide) rfl (fun ls hl => ?_)
                  refine lv_goto (tgt := 80) hx hb dX9_saves_260 (by decide) ?_
                  have q84 : Frm [7100, 7200, 7300, 7400, 7500, 8000, 7000, 8100, 7700, 7800, 7900, 7600] X38 X80 := by rw [hX80]; exact Frm.set q900022 (show 7500 ∈ [7100, 7200, 7300, 7400, 7500, 8000, 7000, 8100, 7700, 7800, 7900, 7600] by first | exact nlm_in rfl | decide)
                  have e85 : X80 76 0 4 = Xb 76 0 4 := by rw [hX80, u3_k _ _ _ _ (by first | exact Nat.ne_of_beq_eq_false rfl | decide), hX78, u3_k _ _ _ _ (by first | exact Nat.ne_of_beq_eq_false rfl | decide), hX75, u3_k _ _ _ _ (by first | exact Nat.ne_of_beq_eq_false rfl | decide)]
                  have e86 : X80 70 0 4 = Xb 70 0 4 := by rw [hX80, u3_k _ _ _ _ (by first | exact Nat.ne_of_beq_eq_false rfl | decide), hX78, u3_k _ _ _ _ (by first | exact Nat.ne_of_beq_eq_false rfl | decide), hX75, u3_k _ _ _ _ (by first | exact Nat.ne_of_beq_eq_false rfl | decide)]
                  have q89 : Frm [7300, 7400, 7500] Xb X80 := by rw [hX80]; exact Frm.set q900024 (show 7500 ∈ [7300, 7400, 7500] by first | exact nlm_in rfl | decide)
                  have hO90 : ordOK X80 := ordOK.of hOb q89 (by decide)
                  have q94 : S4 X38 X80 := by rw [hX80]; exact S4.set q900028 ⟨by first | exact fun h => absurd h (Nat.ne_of_beq_eq_false rfl) | omega, by first | exact fun h => absurd h (Nat.ne_of_beq_eq_false rfl) | omega, by first | exact fun h => absurd h (Nat.ne_of_beq_eq_false rfl) | omega, by first | exact fun h => absurd h (Nat.ne_of_beq_eq_false rfl) | omega, by first | exact fun h => absurd h (Nat.ne_of_beq_eq_false rfl) | omega⟩
                  have f96 : 0 ≤ X80 70 0 4 ∧ X80 70 0 4 ≤ 30 := hRX80 70 0 4
                  have e97 : X80 74 0 (5 * (120 + r) + k) = (X 46 0 ((5 * (X 55 0 (Xa 80 0 r))) + k)) := (by rw [hX80, u3_k _ _ _ _ (by first | exact Nat.ne_of_beq_eq_false rfl | decide)]; exact hVX78)
                  have hcq98 : cOK X80 r (k + 1) := cOK.push (cOK.of hcO (by omega) hRX80 (by rw [show X80 40 0 2 = Xb 40 0 2 from (by rw [hX80, u3_k _ _ _ _ (by first | exact Nat.ne_of_beq_eq_false rfl | decide), hX78, u3_k _ _ _ _ (by first | exact Nat.ne_of_beq_eq_false rfl | decide), hX75, u3_k _ _ _ _ (by first | exact Nat.ne_of_beq_eq_false rfl | decide)])]; exact Int.le_refl _) (by omega) (fun r1 a b => ⟨(by rw [hX80, u3_k _ _ _ _ (by first | exact Nat.ne_of_beq_eq_false rfl | decide), hX78, u3_k _ _ _ _ (by first | exact Nat.ne_of_beq_eq_false rfl | decide), hX75, u3_k _ _ _ _ (by first | exact Nat.ne_of_beq_eq_false rfl | decide)]), (by rw [hX80, u3_k _ _ _ _ (by first | exact Nat.ne_of_beq_eq_false rfl | decide), hX78, u3_k _ _ _ _ (by first | exact Nat.ne_of_beq_eq_false rfl | decide), hX75, u3_k _ _ _ _ (by first | exact Nat.ne_of_beq_eq_false rfl | decide)])⟩) (fun j hj => ⟨(by rw [hX80, u3_k _ _ _ _ (by first | exact Nat.ne_of_beq_eq_false rfl | decide), hX78, u3_j _ _ _ _ (by omega), hX75, u3_k _ _ _ _ (by first | exact Nat.ne_of_beq_eq_false rfl | decide)]), (by rw [hX80, u3_j _ _ _ _ (by omega), hX78, u3_k _ _ _ _ (by first | exact Nat.ne_of_beq_eq_false rfl | decide), hX75, u3_k _ _ _ _ (by first | exact Nat.ne_of_beq_eq_false rfl | decide)])⟩) (by omega)) (by unfold ty4; rw [e97, hVX80]; exact ⟨fun _ => by omega, fun _ => by omega, fun _ => by omega⟩)
                  have hla99 : lnM X (recR (fcM X) (lnM X) (mRid X) (mRid X) x r.toNat 1 r) k = X 46 0 (5 * X 55 0 (Xa 80 0 r) + k) := by rw [← hyo]; rfl
                  have hvl100 : mRid X (recR (fcM X) (lnM X) (mRid X) (mRid X) x r.toNat 1 r) k = X 56 0 (5 * Xa 80 0 r + k) := by rw [← hyo]; rfl
                  have hT102 : rmT X78 (recK (lnM X) (mRid X) (mRid X) (recR (fcM X) (lnM X) (mRid X) (mRid X) x r.toNat) r k.toNat) := rmT.of hTb (by rw [hX78, u3_k _ _ _ _ (by first | exact Nat.ne_of_beq_eq_false rfl | decide), hX75, u3_k _ _ _ _ (by first | exact Nat.ne_of_beq_eq_false rfl | decide)]) (Frm.arr q900030 80 (by decide +kernel) (by decide)) rfl rfl
                  have hR9105 : rmR X78 (recK (lnM X) (mRid X) (mRid X) (recR (fcM X) (lnM X) (mRid X) (mRid X) x r.toNat) r k.toNat) := rmR.of hRb9 (by rw [hX78, u3_k _ _ _ _ (by first | exact Nat.ne_of_beq_eq_false rfl | decide), hX75, u3_k _ _ _ _ (by first | exact Nat.ne_of_beq_eq_false rfl | decide)]) (fun q9 hq9 => by simp only [List.mem_cons, List.not_mem_nil, or_false] at hq9; rcases hq9 with rfl | rfl | rfl | rfl | rfl | rfl | rfl | rfl <;> exact Frm.arr q900030 _ (by decide +kernel) (by decide)) rfl rfl rfl
                  have hst101 : mStp (lnM X) (mRid X) (mRid X) (recR (fcM X) (lnM X) (mRid X) (mRid X) x r.toNat 1 r) k (5 * r + k) X78 (recK (lnM X) (mRid X) (mRid X) (recR (fcM X) (lnM X) (mRid X) (mRid X) x r.toNat) r k.toNat) (X 56 0 ((5 * (Xa 80 0 r)) + k)) := by first | exact mStp_v hT102 hR9105 (by rw [recP_1 (by rw [hla99]; omega), hvl100]) | (rw [show ((X 56 0 ((5 * (Xa 80 0 r)) + k)) : Int) = -1 by omega]; rcases (show X 46 0 (5 * X 55 0 (Xa 80 0 r) + k) = 2 ∨ 3 ≤ X 46 0 (5 * X 55 0 (Xa 80 0 r) + k) by omega) with h2 | h2; exact mStp_v hT102 hR9105 (recP_2n (by rw [hla99]; exact h2) (by rw [hvl100]; omega)); exact mStp_v hT102 hR9105 (recP_3n (by rw [hla99]; exact h2) (by rw [hvl100]; omega)))
                  have q108 : Frm [7500] X78 X80 := by rw [hX80]; exact Frm.set Frm.rf (show 7500 ∈ [7500] by first | exact nlm_in rfl | decide)
                  have q123 : Frm [7000, 7100, 7200, 7300, 7400, 7500, 7600, 7700, 7800, 7900, 8000, 8100] X X80 := by rw [hX80]; exact Frm.set q900032 (show 7500 ∈ [7000, 7100, 7200, 7300, 7400, 7500, 7600, 7700, 7800, 7900, 8000, 8100] by first | exact nlm_in rfl | decide)
                  have hms113 : mSt X X80 := mSt.of (L := [7000, 7100, 7200, 7300, 7400, 7500, 7600, 7700, 7800, 7900, 8000, 8100]) q123 (by decide)
                  have q140 : S5 X38 X80 := by rw [hX80]; exact S5.set q900036 ⟨by first | exact fun h => absurd h (Nat.ne_of_beq_eq_false rfl) | omega, by first | exact fun h => absurd h (Nat.ne_of_beq_eq_false rfl) | omega, by first | exact fun h => absurd h (Nat.ne_of_beq_eq_false rfl) | omega, by first | exact fun h => absurd h (Nat.ne_of_beq_eq_false rfl) | omega, by first | exact fun h => absurd h (Nat.ne_of_beq_eq_false rfl) | omega⟩
                  exact ih80 (k + 1) X80 _ _ _ (by omega) hRX80 q84 (by first | omega | (simp only [e85, e86]; omega)) (hO90) (q94) (by first | omega | (simp only [e85, e86]; omega)) (by first | omega | (simp only [e85, e86]; omega)) (hcq98) ((by rw [hX80, u3_k _ _ _ _ (by first | exact Nat.ne_of_beq_eq_false rfl | decide), hX78, u3_k _ _ _ _ (by first | exact Nat.ne_of_beq_eq_false rfl | decide), hX75, u3_k _ _ _ _ (by first | exact Nat.ne_of_beq_eq_false rfl | decide)]; exact h71)) ((by rw [hX80, u3_k _ _ _ _ (by first | exact Nat.ne_of_beq_eq_false rfl | decide), hX78, u3_k _ _ _ _ (by first | exact Nat.ne_of_beq_eq_false rfl | decide), hX75, u3_k _ _ _ _ (by first | exact Nat.ne_of_beq_eq_false rfl | decide)]; exact h72)) ((by rw [recK_s (by omega)]; exact rmT.of hst101.1 (by rw [hX80, u3_k _ _ _ _ (by first | exact Nat.ne_of_beq_eq_false rfl | decide)]) (Frm.arr q108 80 (by decide +kernel) (by decide)) rfl rfl)) ((by rw [recK_s (by omega)]; exact rmR.of hst101.2.1 (by rw [hX80, u3_k _ _ _ _ (by first | exact Nat.ne_of_beq_eq_false rfl | decide)]) (fun q9 hq9 => by simp only [List.mem_cons, List.not_mem_nil, or_false] at hq9; rcases hq9 with rfl | rfl | rfl | rfl | rfl | rfl | rfl | rfl <;> exact Frm.arr q108 _ (by decide +kernel) (by decide)) rfl rfl rfl)) ((by rw [recK_s (by omega)]; exact rmV.push hVb (mSt.of (L := [7300, 7400, 7500]) q89 (by decide)) ⟨by omega, by omega⟩ (by omega) (fun t => by rw [(Frm.arr q900018 44 (by decide +kernel) (by decide))]; exact hf55 t) (Frm.arr q89 71 (by decide +kernel) (by decide)) (Frm.arr q89 72 (by decide +kernel) (by decide)) (fun j hj => (by rw [hX80, u3_k _ _ _ _ (by first | exact Nat.ne_of_beq_eq_false rfl | decide), hX78, u3_k _ _ _ _ (by first | exact Nat.ne_of_beq_eq_false rfl | decide), hX75, u3_j _ _ _ _ hj])) (fun j hj => (by rw [hX80, u3_k _ _ _ _ (by first | exact Nat.ne_of_beq_eq_false rfl | decide), hX78, u3_j _ _ _ _ hj, hX75, u3_k _ _ _ _ (by first | exact Nat.ne_of_beq_eq_false rfl | decide)])) (fun j hj => (by rw [hX80, u3_j _ _ _ _ hj, hX78, u3_k _ _ _ _ (by first | exact Nat.ne_of_beq_eq_false rfl | decide), hX75, u3_k _ _ _ _ (by first | exact Nat.ne_of_beq_eq_false rfl | decide)])) (fun q a b => recP_o ⟨a, by omega⟩) (fun q hq => recP_5 hq) ⟨(by rw [recP_o ⟨by omega, by omega⟩, recK_o _ ⟨by omega, by omega⟩, ← hyo, hms113.2.1, hms113.2.2.2]; exact (by rw [hX80, u3_k _ _ _ _ (by first | exact Nat.ne_of_beq_eq_false rfl | decide), hX78, u3_k _ _ _ _ (by first | exact Nat.ne_of_beq_eq_false rfl | decide)]; rw [hVX75])), (by rw [recP_o ⟨by omega, by omega⟩, recK_o _ ⟨by omega, by omega⟩, ← hyo]; unfold lnM; rw [hms113.2.2.1, hms113.2.2.2]; exact (by rw [hX80, u3_k _ _ _ _ (by first | exact Nat.ne_of_beq_eq_false rfl | decide)]; rw [hVX78])), (by rw [hVX80]; exact hst101.2.2)⟩)) ((by rw [hX80, u3_k _ _ _ _ (by first | exact Nat.ne_of_beq_eq_false rfl | decide), hX78, u3_k _ _ _ _ (by first | exact Nat.ne_of_beq_eq_false rfl | decide), hX75, u3_k _ _ _ _ (by first | exact Nat.ne_of_beq_eq_false rfl | decide)]; exact h71b)) (by first | omega | (simp only [e85, e86]; omega)) (fun h9 k' a b => if hk9 : k' = k then (by rw [hk9]; omega) else hnk h9 k' a (by omega)) (q140) hw hS (lv_sub hl [3, 4, 5, 6, 7, 8, 0] rfl)
                · refine lv_lload hx hb dX9_saves_212 (lv_at hl 0 rfl) ?_
                  refine lv_lconst (v := jL 0) hx hb dX9_saves_214 (by decide) ?_
                  refine x_lcmp hx hb (by omega) (by omega) dX9_saves_215 ?_
                  obtain ⟨z141, ez141⟩ : ∃ y : Int, y = cmpZ (X 56 0 ((5 * (Xa 80 0 r)) + k)) 0 := ⟨_, rfl⟩
                  rw [← ez141]
                  have gz141 : (z141 < 0 ↔ ((X 56 0 ((5 * (Xa 80 0 r)) + k)) : Int) < 0) ∧ (z141 = 0 ↔ ((X 56 0 ((5 * (Xa 80 0 r)) + k)) : Int) = 0) ∧ -1 ≤ z141 ∧ z141 ≤ 1 := by rw [ez141]; exact ⟨cmpZ_lt, cmpZ_eq, (cmpZ_r _ _).1, (cmpZ_r _ _).2⟩
                  clear ez141
                  refine x_if_ge (tgt := 224) hx hb (by omega) dX9_saves_216 (by decide) (fun c142 => ?_) (fun c142 => ?_)
                  · replace c142 := cz_geT gz141 c142
                    clear gz141
                    refine lv_aload_n hx hb dX9_saves_224 rfl (lv_at hl 2 rfl) ?_
                    refine x_geto hx hb hf9 hw (by first | exact Int.le_refl 0 | omega) (by first | exact zlt hc40 | omega) sl_40_33 lk93 dX9_saves_225 ?_
                    refine lv_iload hx hb dX9_saves_228 (lv_at hl 1 rfl) ?_
                    refine x_iald hx hb hK.1 hw (by first | exact Int.le_refl 0 | omega) (by first | exact zlt hc74 | omega) ar_74 (len_E ar_74 (by first | exact Nat.ne_of_beq_eq_false rfl | decide)) (by omega) (by omega) (by omega) dX9_saves_230 ?_
                    rw [hVX78]
                    refine lv_iconst (v := jI 2) hx hb dX9_saves_231 rfl ?_
                    have q900043 : S4 X X75 := by rw [hX75]; exact S4.set q900042 ⟨by first | exact fun h => absurd h (Nat.ne_of_beq_eq_false rfl) | omega, by first | exact fun h => absurd h (Nat.ne_of_beq_eq_false rfl) | omega, by first | exact fun h => absurd h (Nat.ne_of_beq_eq_false rfl) | omega, by first | exact fun h => absurd h (Nat.ne_of_beq_eq_false rfl) | omega, by first | exact fun h => absurd h (Nat.ne_of_beq_eq_false rfl) | omega⟩
                    have q900044 : S4 X X78 := by rw [hX78]; exact S4.set q900043 ⟨by first | exact fun h => absurd h (Nat.ne_of_beq_eq_false rfl) | omega, by first | exact fun h => absurd h (Nat.ne_of_beq_eq_false rfl) | omega, by first | exact fun h => absurd h (Nat.ne_of_beq_eq_false rfl) | omega, by first | exact fun h => absurd h (Nat.ne_of_beq_eq_false rfl) | omega, by first | exact fun h => absurd h (Nat.ne_of_beq_eq_false rfl) | omega⟩
                    refine x_icmp_ne (tgt := 247) hx hb (by omega) (by omega) dX9_saves_232 (by decide) (fun c143 => ?_) (fun c143 => ?_)
                    · refine lv_aload_n hx hb dX9_saves_247 rfl (lv_at hl 2 rfl) ?_
                      refine lv_iconst (v := jI 4) hx hb dX9_saves_248 rfl ?_
                      refine lv_lload hx hb dX9_saves_249 (lv_at hl 0 rfl) ?_
                      refine x_l2i hx hb dX9_saves_251 ?_
                      have hMq153 : MInv X78 := minv_s4 hMI hRX78 hFX78 q900044 (by decide)
                      have e154 : X78 76 0 4 = Xb 76 0 4 := by rw [hX78, u3_k _ _ _ _ (by first | exact Nat.ne_of_beq_eq_false rfl | decide), hX75, u3_k _ _ _ _ (by first | exact Nat.ne_of_beq_eq_false rfl | decide)]
                      have hR9155 : rmR X78 (recK (lnM X) (mRid X) (mRid X) (recR (fcM X) (lnM X) (mRid X) (mRid X) x r.toNat) r k.toNat) := rmR.of hRb9 (by rw [hX78, u3_k _ _ _ _ (by first | exact Nat.ne_of_beq_eq_false rfl | decide), hX75, u3_k _ _ _ _ (by first | exact Nat.ne_of_beq_eq_false rfl | decide)]) (fun q9 hq9 => by simp only [List.mem_cons, List.not_mem_nil, or_false] at hq9; rcases hq9 with rfl | rfl | rfl | rfl | rfl | rfl | rfl | rfl <;> exact Frm.arr q900030 _ (by decide +kernel) (by decide)) rfl rfl rfl
                      refine gos_i (run_V (As := [.int (jI 4), .int (jI (X 56 0 ((5 * (Xa 80 0 r)) + k)))]) (rest := [.int (jI ((5 * (120 + r)) + k)), .ref (ad 75 0)]) hx hb hml hown hts (c_X9_rowOf l D tc base ad cnt X78 Y ln hRX78 hFx hMq153 (X 56 0 ((5 * (Xa 80 0 r)) + k)) (by omega) (by simp only [e154]; omega) (recK (lnM X) (mRid X) (mRid X) (recR (fcM X) (lnM X) (mRid X) (mRid X) x r.toNat) r k.toNat) hR9155 (Xa 80 0 r) k (by unfold mRid; rw [(Frm.arr q900032 56 (by decide +kernel) (by decide))])) (cwV 2 hts gX9_saves_X9_rowOf rfl rfl rfl (by first | exact hd_X9_rowOf | decide +kernel) ⟨Nat.le_of_ble_eq_true rfl, Nat.le_of_ble_eq_true rfl⟩) hK hw (by first | exact Int.le_refl 0 | omega) (by first | exact zlt hc40 | omega) sl_40_0 rfl rfl hl.1 rfl (Nat.le_of_ble_eq_true rfl) dX9_saves_252 ⟨Nat.le_of_ble_eq_true rfl, Nat.le_of_ble_eq_true rfl⟩) hS (fun z167 u168 H locs p169 hw hS => ?_)
                      obtain ⟨X170, eu168, hRX170, hG171, hMIX170, p169, hnrX170, hzrX170, hRrX170, h5X170⟩ := p169
                      subst eu168
                      have hFX170 : Frm [7100, 7200, 7300, 7400, 7500, 8000, 7000, 8100, 7700, 7800, 7900, 7600, 4042, 4043, 4044] X X170 := Frm.tr hFX78 (Frm.mono hG171 (by first | exact nls_of rfl | decide))
                      refine x_i2l hx hb (by omega) dX9_saves_255 ?_
                      refine x_last hx hb hK.1 hw hS (by first | exact Int.le_refl 0 | omega) (by first | exact zlt hc75 | omega) ar_75 (len_E ar_75 (by first | exact Nat.ne_of_beq_eq_false rfl | decide)) (by omega) (by omega) (by omega) dX9_saves_256 (fun H locs hw hS => ?_)
                      obtain ⟨X172, hX172⟩ : ∃ Xq, Xq = u3 X170 75 0 ((5 * (120 + r)) + k) z167 := ⟨_, rfl⟩
                      rw [← hX172] at hw
                      have hRX172 : Rng X172 := by rw [hX172]; exact rng_set hRX170 (show (-9223372036854775808) ≤ z167 ∧ z167 ≤ 9223372036854775807 by omega)
                      have hVX172 : X172 75 0 ((5 * (120 + r)) + k) = z167 := by rw [hX172]; exact u3_s _ _ _ _ _
                      have hFX172 : Frm [7100, 7200, 7300, 7400, 7500, 8000, 7000, 8100, 7700, 7800, 7900, 7600, 4042, 4043, 4044] X X172 := by rw [hX172]; exact Frm.set hFX170 (show 7500 ∈ [7100, 7200, 7300, 7400, 7500, 8000, 7000, 8100, 7700, 7800, 7900, 7600, 4042, 4043, 4044] by first | exact nlm_in rfl | decide)
                      refine lv_iinc (v := jI (k + 1)) (lv' := [(6, .int (jI (k + 1))), (8, .long (jL (X 56 0 ((5 * (Xa 80 0 r)) + k)))), (7, .int (jI ((5 * (120 + r)) + k))), (0, .ref (ad 40 0)), (1, .int (jI x)), (2, .int (jI shut)), (3, .int (jI r)), (4, .int (jI (Xa 80 0 r))), (5, .int (jI (X 55 0 (Xa 80 0 r))))]) hx hb dX9_saves_257 hl (k := 8) rfl (jI_add _ _) (by decide) rfl (fun ls hl => ?_)
                      refine lv_goto (tgt := 80) hx hb dX9_saves_260 (by decide) ?_
                      have q176 : Frm [7100, 7200, 7300, 7400, 7500, 8000, 7000, 8100, 7700, 7800, 7900, 7600] X38 X170 := Frm.tr q900022 (Frm.mono hG171 (by first | exact nls_of rfl | decide))
                      have q177 : Frm [7100, 7200, 7300, 7400, 7500, 8000, 7000, 8100, 7700, 7800, 7900, 7600] X38 X172 := by rw [hX172]; exact Frm.set q176 (show 7500 ∈ [7100, 7200, 7300, 7400, 7500, 8000, 7000, 8100, 7700, 7800, 7900, 7600] by first | exact nlm_in rfl | decide)
                      have e178 : X172 76 0 4 = X170 76 0 4 := by rw [hX172, u3_k _ _ _ _ (by first | exact Nat.ne_of_beq_eq_false rfl | decide)]
                      have e179 : X172 70 0 4 = Xb 70 0 4 := by rw [hX172, u3_k _ _ _ _ (by first | exact Nat.ne_of_beq_eq_false rfl | decide), hG171 70 0 4 (show 7000 ∉ [8100, 7700, 7800, 7900, 7600] by first | exact nlm_ni rfl | decide), hX78, u3_k _ _ _ _ (by first | exact Nat.ne_of_beq_eq_false rfl | decide), hX75, u3_k _ _ _ _ (by first | exact Nat.ne_of_beq_eq_false rfl | decide)]
                      have q180 : Frm [7300, 7400, 7500, 7600, 7700, 7800, 7900, 8100] Xb X75 := by rw [hX75]; exact Frm.set Frm.rf (show 7300 ∈ [7300, 7400, 7500, 7600, 7700, 7800, 7900, 8100] by first | exact nlm_in rfl | decide)
                      have q181 : Frm [7300, 7400, 7500, 7600, 7700, 7800, 7900, 8100] Xb X78 := by rw [hX78]; exact Frm.set q180 (show 7400 ∈ [7300, 7400, 7500, 7600, 7700, 7800, 7900, 8100] by first | exact nlm_in rfl | decide)
                      have q182 : Frm [7300, 7400, 7500, 7600, 7700, 7800, 7900, 8100] Xb X170 := Frm.tr q181 (Frm.mono hG171 (by first | exact nls_of rfl | decide))
                      have q183 : Frm [7300, 7400, 7500, 7600, 7700, 7800, 7900, 8100] Xb X172 := by rw [hX172]; exact Frm.set q182 (show 7500 ∈ [7300, 7400, 7500, 7600, 7700, 7800, 7900, 8100] by first | exact nlm_in rfl | decide)
                      have hO184 : ordOK X172 := ordOK.of hOb q183 (by decide)
                      have q188 : S4 X38 X170 := S4.tr q900028 (S4.frm hG171 (by decide))
                      have q189 : S4 X38 X172 := by rw [hX172]; exact S4.set q188 ⟨by first | exact fun h => absurd h (Nat.ne_of_beq_eq_false rfl) | omega, by first | exact fun h => absurd h (Nat.ne_of_beq_eq_false rfl) | omega, by first | exact fun h => absurd h (Nat.ne_of_beq_eq_false rfl) | omega, by first | exact fun h => absurd h (Nat.ne_of_beq_eq_false rfl) | omega, by first | exact fun h => absurd h (Nat.ne_of_beq_eq_false rfl) | omega⟩
                      have f191 : 0 ≤ X172 70 0 4 ∧ X172 70 0 4 ≤ 30 := hRX172 70 0 4
                      have e192 : X172 74 0 (5 * (120 + r) + k) = (X 46 0 ((5 * (X 55 0 (Xa 80 0 r))) + k)) := (by rw [hX172, u3_k _ _ _ _ (by first | exact Nat.ne_of_beq_eq_false rfl | decide), hG171 74 0 (5 * (120 + r) + k) (show 7400 ∉ [8100, 7700, 7800, 7900, 7600] by first | exact nlm_ni rfl | decide)]; exact hVX78)
                      have hcq193 : cOK X172 r (k + 1) := cOK.push (cOK.of hcO (by omega) hRX172 (by rw [show X172 40 0 2 = Xb 40 0 2 from (by rw [hX172, u3_k _ _ _ _ (by first | exact Nat.ne_of_beq_eq_false rfl | decide), hG171 40 0 2 (show 4003 ∉ [8100, 7700, 7800, 7900, 7600] by first | exact nlm_ni rfl | decide), hX78, u3_k _ _ _ _ (by first | exact Nat.ne_of_beq_eq_false rfl | decide), hX75, u3_k _ _ _ _ (by first | exact Nat.ne_of_beq_eq_false rfl | decide)])]; exact Int.le_refl _) (by omega) (fun r1 a b => ⟨(by rw [hX172, u3_k _ _ _ _ (by first | exact Nat.ne_of_beq_eq_false rfl | decide), hG171 71 0 (120 + r1) (show 7100 ∉ [8100, 7700, 7800, 7900, 7600] by first | exact nlm_ni rfl | decide), hX78, u3_k _ _ _ _ (by first | exact Nat.ne_of_beq_eq_false rfl | decide), hX75, u3_k _ _ _ _ (by first | exact Nat.ne_of_beq_eq_false rfl | decide)]), (by rw [hX172, u3_k _ _ _ _ (by first | exact Nat.ne_of_beq_eq_false rfl | decide), hG171 72 0 (120 + r1) (show 7200 ∉ [8100, 7700, 7800, 7900, 7600] by first | exact nlm_ni rfl | decide), hX78, u3_k _ _ _ _ (by first | exact Nat.ne_of_beq_eq_false rfl | decide), hX75, u3_k _ _ _ _ (by first | exact Nat.ne_of_beq_eq_false rfl | decide)])⟩) (fun j hj => ⟨(by rw [hX172, u3_k _ _ _ _ (by first | exact Nat.ne_of_beq_eq_false rfl | decide), hG171 74 0 j (show 7400 ∉ [8100, 7700, 7800, 7900, 7600] by first | exact nlm_ni rfl | decide), hX78, u3_j _ _ _ _ (by omega), hX75, u3_k _ _ _ _ (by first | exact Nat.ne_of_beq_eq_false rfl | decide)]), (by rw [hX172, u3_j _ _ _ _ (by omega), hG171 75 0 j (show 7500 ∉ [8100, 7700, 7800, 7900, 7600] by first | exact nlm_ni rfl | decide), hX78, u3_k _ _ _ _ (by first | exact Nat.ne_of_beq_eq_false rfl | decide), hX75, u3_k _ _ _ _ (by first | exact Nat.ne_of_beq_eq_false rfl | decide)])⟩) (by omega)) (by unfold ty4; rw [e192, hVX172]; exact ⟨fun _ => by omega, fun _ => by omega, fun _ => by omega⟩)
                      have hla194 : lnM X (recR (fcM X) (lnM X) (mRid X) (mRid X) x r.toNat 1 r) k = X 46 0 (5 * X 55 0 (Xa 80 0 r) + k) := by rw [← hyo]; rfl
                      have hvl195 : mRid X (recR (fcM X) (lnM X) (mRid X) (mRid X) x r.toNat 1 r) k = X 56 0 (5 * Xa 80 0 r + k) := by rw [← hyo]; rfl
                      have q198 : Frm [7300, 7400, 7600, 7700, 7800, 7900, 8100] Xb X75 := by rw [hX75]; exact Frm.set Frm.rf (show 7300 ∈ [7300, 7400, 7600, 7700, 7800, 7900, 8100] by first | exact nlm_in rfl | decide)
                      have q199 : Frm [7300, 7400, 7600, 7700, 7800, 7900, 8100] Xb X78 := by rw [hX78]; exact Frm.set q198 (show 7400 ∈ [7300, 7400, 7600, 7700, 7800, 7900, 8100] by first | exact nlm_in rfl | decide)
                      have q200 : Frm [7300, 7400, 7600, 7700, 7800, 7900, 8100] Xb X170 := Frm.tr q199 (Frm.mono hG171 (by first | exact nls_of rfl | decide))
                      have hT197 : rmT X170 (recK (lnM X) (mRid X) (mRid X) (recR (fcM X) (lnM X) (mRid X) (mRid X) x r.toNat) r k.toNat) := rmT.of hTb (by rw [hG171 70 0 4 (show 7000 ∉ [8100, 7700, 7800, 7900, 7600] by first | exact nlm_ni rfl | decide), hX78, u3_k _ _ _ _ (by first | exact Nat.ne_of_beq_eq_false rfl | decide), hX75, u3_k _ _ _ _ (by first | exact Nat.ne_of_beq_eq_false rfl | decide)]) (Frm.arr q200 80 (by decide +kernel) (by decide)) rfl rfl
                      have hmr201 : mRid X78 = mRid X := by funext a9 b9; unfold mRid; rw [(Frm.arr q900032 56 (by decide +kernel) (by decide))]
                      have hst196 : mStp (lnM X) (mRid X) (mRid X) (recR (fcM X) (lnM X) (mRid X) (mRid X) x r.toNat 1 r) k (5 * r + k) X170 (recK (lnM X) (mRid X) (mRid X) (recR (fcM X) (lnM X) (mRid X) (mRid X) x r.toNat) r k.toNat) z167 := by have h8 := hRrX170; have h9 := hzrX170; rw [hmr201, hyo] at h8 h9; exact mStp_r (by rw [hla194]; omega) (by rw [hvl195]; omega) hT197 h8 h9
                      have q211 : Frm [7500] X170 X172 := by rw [hX172]; exact Frm.set Frm.rf (show 7500 ∈ [7500] by first | exact nlm_in rfl | decide)
                      have q227 : Frm [7000, 7100, 7200, 7300, 7400, 7500, 7600, 7700, 7800, 7900, 8000, 8100] X X170 := Frm.tr q900032 (Frm.mono hG171 (by first | exact nls_of rfl | decide))
                      have q228 : Frm [7000, 7100, 7200, 7300, 7400, 7500, 7600, 7700, 7800, 7900, 8000, 8100] X X172 := by rw [hX172]; exact Frm.set q227 (show 7500 ∈ [7000, 7100, 7200, 7300, 7400, 7500, 7600, 7700, 7800, 7900, 8000, 8100] by first | exact nlm_in rfl | decide)
                      have hms217 : mSt X X172 := mSt.of (L := [7000, 7100, 7200, 7300, 7400, 7500, 7600, 7700, 7800, 7900, 8000, 8100]) q228 (by decide)
                      have q247 : S5 X38 X170 := S5.tr q900036 h5X170
                      have q248 : S5 X38 X172 := by rw [hX172]; exact S5.set q247 ⟨by first | exact fun h => absurd h (Nat.ne_of_beq_eq_false rfl) | omega, by first | exact fun h => absurd h (Nat.ne_of_beq_eq_false rfl) | omega, by first | exact fun h => absurd h (Nat.ne_of_beq_eq_false rfl) | omega, by first | exact fun h => absurd h (Nat.ne_of_beq_eq_false rfl) | omega, by first | exact fun h => absurd h (Nat.ne_of_beq_eq_false rfl) | omega⟩
                      exact ih80 (k + 1) X172 _ _ _ (by omega) hRX172 q177 (by first | omega | (simp only [e178, e179]; omega)) (hO184) (q189) (by first | omega | (simp only [e178, e179]; omega)) (by first | omega | (simp only [e178, e179]; omega)) (hcq193) ((by rw [hX172, u3_k _ _ _ _ (by first | exact Nat.ne_of_beq_eq_false rfl | decide), hG171 71 0 (120 + r) (show 7100 ∉ [8100, 7700, 7800, 7900, 7600] by first | exact nlm_ni rfl | decide), hX78, u3_k _ _ _ _ (by first | exact Nat.ne_of_beq_eq_false rfl | decide), hX75, u3_k _ _ _ _ (by first | exact Nat.ne_of_beq_eq_false rfl | decide)]; exact h71)) ((by rw [hX172, u3_k _ _ _ _ (by first | exact Nat.ne_of_beq_eq_false rfl | decide), hG171 72 0 (120 + r) (show 7200 ∉ [8100, 7700, 7800, 7900, 7600] by first | exact nlm_ni rfl | decide), hX78, u3_k _ _ _ _ (by first | exact Nat.ne_of_beq_eq_false rfl | decide), hX75, u3_k _ _ _ _ (by first | exact Nat.ne_of_beq_eq_false rfl | decide)]; exact h72)) ((by rw [recK_s (by omega)]; exact rmT.of hst196.1 (by rw [hX172, u3_k _ _ _ _ (by first | exact Nat.ne_of_beq_eq_false rfl | decide)]) (Frm.arr q211 80 (by decide +kernel) (by decide)) rfl rfl)) ((by rw [recK_s (by omega)]; exact rmR.of hst196.2.1 (by rw [hX172, u3_k _ _ _ _ (by first | exact Nat.ne_of_beq_eq_false rfl | decide)]) (fun q9 hq9 => by simp only [List.mem_cons, List.not_mem_nil, or_false] at hq9; rcases hq9 with rfl | rfl | rfl | rfl | rfl | rfl | rfl | rfl <;> exact Frm.arr q211 _ (by decide +kernel) (by decide)) rfl rfl rfl)) ((by rw [recK_s (by omega)]; exact rmV.push hVb (mSt.of (L := [7300, 7400, 7500, 7600, 7700, 7800, 7900, 8100]) q183 (by decide)) ⟨by omega, by omega⟩ (by omega) (fun t => by rw [(Frm.arr q900018 44 (by decide +kernel) (by decide))]; exact hf55 t) (Frm.arr q183 71 (by decide +kernel) (by decide)) (Frm.arr q183 72 (by decide +kernel) (by decide)) (fun j hj => (by rw [hX172, u3_k _ _ _ _ (by first | exact Nat.ne_of_beq_eq_false rfl | decide), hG171 73 0 j (show 7300 ∉ [8100, 7700, 7800, 7900, 7600] by first | exact nlm_ni rfl | decide), hX78, u3_k _ _ _ _ (by first | exact Nat.ne_of_beq_eq_false rfl | decide), hX75, u3_j _ _ _ _ hj])) (fun j hj => (by rw [hX172, u3_k _ _ _ _ (by first | exact Nat.ne_of_beq_eq_false rfl | decide), hG171 74 0 j (show 7400 ∉ [8100, 7700, 7800, 7900, 7600] by first | exact nlm_ni rfl | decide), hX78, u3_j _ _ _ _ hj, hX75, u3_k _ _ _ _ (by first | exact Nat.ne_of_beq_eq_false rfl | decide)])) (fun j hj => (by rw [hX172, u3_j _ _ _ _ hj, hG171 75 0 j (show 7500 ∉ [8100, 7700, 7800, 7900, 7600] by first | exact nlm_ni rfl | decide), hX78, u3_k _ _ _ _ (by first | exact Nat.ne_of_beq_eq_false rfl | decide), hX75, u3_k _ _ _ _ (by first | exact Nat.ne_of_beq_eq_false rfl | decide)])) (fun q a b => recP_o ⟨a, by omega⟩) (fun q hq => recP_5 hq) ⟨(by rw [recP_o ⟨by omega, by omega⟩, recK_o _ ⟨by omega, by omega⟩, ← hyo, hms217.2.1, hms217.2.2.2]; exact (by rw [hX172, u3_k _ _ _ _ (by first | exact Nat.ne_of_beq_eq_false rfl | decide), hG171 73 0 (5 * (120 + r) + k) (show 7300 ∉ [8100, 7700, 7800, 7900, 7600] by first | exact nlm_ni rfl | decide), hX78, u3_k _ _ _ _ (by first | exact Nat.ne_of_beq_eq_false rfl | decide)]; rw [hVX75])), (by rw [recP_o ⟨by omega, by omega⟩, recK_o _ ⟨by omega, by omega⟩, ← hyo]; unfold lnM; rw [hms217.2.2.1, hms217.2.2.2]; exact (by rw [hX172, u3_k _ _ _ _ (by first | exact Nat.ne_of_beq_eq_false rfl | decide), hG171 74 0 (5 * (120 + r) + k) (show 7400 ∉ [8100, 7700, 7800, 7900, 7600] by first | exact nlm_ni rfl | decide)]; rw [hVX78])), (by rw [hVX172]; exact hst196.2.2)⟩)) ((by rw [hX172, u3_k _ _ _ _ (by first | exact Nat.ne_of_beq_eq_false rfl | decide), hG171 71 0 (120 + r) (show 7100 ∉ [8100, 7700, 7800, 7900, 7600] by first | exact nlm_ni rfl | decide), hX78, u3_k _ _ _ _ (by first | exact Nat.ne_of_beq_eq_false rfl | decide), hX75, u3_k _ _ _ _ (by first | exact Nat.ne_of_beq_eq_false rfl | decide)]; exact h71b)) (by first | omega | (simp only [e178, e179]; omega)) (fun h9 k' a b => if hk9 : k' = k then (by rw [hk9]; omega) else hnk h9 k' a (by omega)) (q248) hw hS (lv_sub hl [3, 4, 5, 6, 7, 8, 0] rfl)
                    · refine lv_aload_n hx hb dX9_saves_235 rfl (lv_at hl 2 rfl) ?_
                      refine lv_iconst (v := jI 4) hx hb dX9_saves_236 rfl ?_
                      refine lv_lload hx hb dX9_saves_237 (lv_at hl 0 rfl) ?_
                      refine x_l2i hx hb dX9_saves_239 ?_
                      have hMq258 : MInv X78 := minv_s4 hMI hRX78 hFX78 q900044 (by decide)
                      have hO261 : ordOK X78 := ordOK.of hOb q900030 (by decide)
                      have e262 : X78 40 0 13 = X 40 0 13 := by rw [hX78, u3_k _ _ _ _ (by first | exact Nat.ne_of_beq_eq_false rfl | decide), hX75, u3_k _ _ _ _ (by first | exact Nat.ne_of_beq_eq_false rfl | decide), hGXb 40 0 13 (show 4014 ∉ [7100, 7200, 7300, 7400, 7500, 8000, 7000, 8100, 7700, 7800, 7900, 7600] by first | exact nlm_ni rfl | decide), hX38, u3_k _ _ _ _ (by first | exact Nat.ne_of_beq_eq_false rfl | decide), hX35, u3_k _ _ _ _ (by first | exact Nat.ne_of_beq_eq_false rfl | decide), hGXa 40 0 13 (show 4014 ∉ [7100, 7200, 7300, 7400, 7500, 8000, 7000, 8100, 7700, 7800, 7900, 7600] by first | exact nlm_ni rfl | decide), hG13 40 0 13 (show 4014 ∉ [8000, 7000] by first | exact nlm_ni rfl | decide), hX2, u3_k _ _ _ _ (by first | exact Nat.ne_of_beq_eq_false rfl | decide), hX1, u3_k _ _ _ _ (by first | exact Nat.ne_of_beq_eq_false rfl | decide)]
                      have hT263 : rmT X78 (recK (lnM X) (mRid X) (mRid X) (recR (fcM X) (lnM X) (mRid X) (mRid X) x r.toNat) r k.toNat) := rmT.of hTb (by rw [hX78, u3_k _ _ _ _ (by first | exact Nat.ne_of_beq_eq_false rfl | decide), hX75, u3_k _ _ _ _ (by first | exact Nat.ne_of_beq_eq_false rfl | decide)]) (Frm.arr q900030 80 (by decide +kernel) (by decide)) rfl rfl
                      refine gos_i (run_V (As := [.int (jI 4), .int (jI (X 56 0 ((5 * (Xa 80 0 r)) + k)))]) (rest := [.int (jI ((5 * (120 + r)) + k)), .ref (ad 75 0)]) hx hb hml hown hts (c_X9_recordOf l D tc base ad cnt X78 Y ln hRX78 hFx hMq258 (X 56 0 ((5 * (Xa 80 0 r)) + k)) (by omega) (by simp only [e262]; omega) hO261 (recK (lnM X) (mRid X) (mRid X) (recR (fcM X) (lnM X) (mRid X) (mRid X) x r.toNat) r k.toNat) hT263) (cwV 2 hts gX9_saves_X9_recordOf rfl rfl rfl (by first | exact hd_X9_recordOf | decide +kernel) ⟨Nat.le_of_ble_eq_true rfl, Nat.le_of_ble_eq_true rfl⟩) hK hw (by first | exact Int.le_refl 0 | omega) (by first | exact zlt hc40 | omega) sl_40_0 rfl rfl hl.1 rfl (Nat.le_of_ble_eq_true rfl) dX9_saves_240 ⟨Nat.le_of_ble_eq_true rfl, Nat.le_of_ble_eq_true rfl⟩) hS (fun z266 u267 H locs p268 hw hS => ?_)
                      have e269 : X78 70 0 4 = Xb 70 0 4 := by rw [hX78, u3_k _ _ _ _ (by first | exact Nat.ne_of_beq_eq_false rfl | decide), hX75, u3_k _ _ _ _ (by first | exact Nat.ne_of_beq_eq_false rfl | decide)]
                      obtain ⟨X270, eu267, hRX270, hG271, hMIX270, p268, h4X270, hOX270, hleX270, hzrX270, hTrX270⟩ := p268
                      subst eu267
                      have hFX270 : Frm [7100, 7200, 7300, 7400, 7500, 8000, 7000, 8100, 7700, 7800, 7900, 7600, 4042, 4043, 4044] X X270 := Frm.tr hFX78 (Frm.mono hG271 (by first | exact nls_of rfl | decide))
                      simp only [e269] at hleX270
                      refine x_i2l hx hb (by omega) dX9_saves_243 ?_
                      refine lv_goto (tgt := 256) hx hb dX9_saves_244 (by decide) ?_
                      refine x_last hx hb hK.1 hw hS (by first | exact Int.le_refl 0 | omega) (by first | exact zlt hc75 | omega) ar_75 (len_E ar_75 (by first | exact Nat.ne_of_beq_eq_false rfl | decide)) (by omega) (by omega) (by omega) dX9_saves_256 (fun H locs hw hS => ?_)
                      obtain ⟨X272, hX272⟩ : ∃ Xq, Xq = u3 X270 75 0 ((5 * (120 + r)) + k) z266 := ⟨_, rfl⟩
                      rw [← hX272] at hw
                      have hRX272 : Rng X272 := by rw [hX272]; exact rng_set hRX270 (show (-9223372036854775808) ≤ z266 ∧ z266 ≤ 9223372036854775807 by omega)
                      have hVX272 : X272 75 0 ((5 * (120 + r)) + k) = z266 := by rw [hX272]; exact u3_s _ _ _ _ _
                      have hFX272 : Frm [7100, 7200, 7300, 7400, 7500, 8000, 7000, 8100, 7700, 7800, 7900, 7600, 4042, 4043, 4044] X X272 := by rw [hX272]; exact Frm.set hFX270 (show 7500 ∈ [7100, 7200, 7300, 7400, 7500, 8000, 7000, 8100, 7700, 7800, 7900, 7600, 4042, 4043, 4044] by first | exact nlm_in rfl | decide)
                      refine lv_iinc (v := jI (k + 1)) (lv' := [(6, .int (jI (k + 1))), (8, .long (jL (X 56 0 ((5 * (Xa 80 0 r)) + k)))), (7, .int (jI ((5 * (120 + r)) + k))), (0, .ref (ad 40 0)), (1, .int (jI x)), (2, .int (jI shut)), (3, .int (jI r)), (4, .int (jI (Xa 80 0 r))), (5, .int (jI (X 55 0 (Xa 80 0 r))))]) hx hb dX9_saves_257 hl (k := 8) rfl (jI_add _ _) (by decide) rfl (fun ls hl => ?_)
                      refine lv_goto (tgt := 80) hx hb dX9_saves_260 (by decide) ?_
                      have q276 : Frm [7100, 7200, 7300, 7400, 7500, 8000, 7000, 8100, 7700, 7800, 7900, 7600] X38 X270 := Frm.tr q900022 (Frm.mono hG271 (by first | exact nls_of rfl | decide))
                      have q277 : Frm [7100, 7200, 7300, 7400, 7500, 8000, 7000, 8100, 7700, 7800, 7900, 7600] X38 X272 := by rw [hX272]; exact Frm.set q276 (show 7500 ∈ [7100, 7200, 7300, 7400, 7500, 8000, 7000, 8100, 7700, 7800, 7900, 7600] by first | exact nlm_in rfl | decide)
                      have e278 : X272 76 0 4 = Xb 76 0 4 := by rw [hX272, u3_k _ _ _ _ (by first | exact Nat.ne_of_beq_eq_false rfl | decide), hG271 76 0 4 (show 7600 ∉ [8000, 7000] by first | exact nlm_ni rfl | decide), hX78, u3_k _ _ _ _ (by first | exact Nat.ne_of_beq_eq_false rfl | decide), hX75, u3_k _ _ _ _ (by first | exact Nat.ne_of_beq_eq_false rfl | decide)]
                      have e279 : X272 70 0 4 = X270 70 0 4 := by rw [hX272, u3_k _ _ _ _ (by first | exact Nat.ne_of_beq_eq_false rfl | decide)]
                      have q280 : Frm [7500] X270 X272 := by rw [hX272]; exact Frm.set Frm.rf (show 7500 ∈ [7500] by first | exact nlm_in rfl | decide)
                      have hO281 : ordOK X272 := ordOK.of hOX270 q280 (by decide)
                      have q285 : S4 X38 X270 := S4.tr q900028 h4X270
                      have q286 : S4 X38 X272 := by rw [hX272]; exact S4.set q285 ⟨by first | exact fun h => absurd h (Nat.ne_of_beq_eq_false rfl) | omega, by first | exact fun h => absurd h (Nat.ne_of_beq_eq_false rfl) | omega, by first | exact fun h => absurd h (Nat.ne_of_beq_eq_false rfl) | omega, by first | exact fun h => absurd h (Nat.ne_of_beq_eq_false rfl) | omega, by first | exact fun h => absurd h (Nat.ne_of_beq_eq_false rfl) | omega⟩
                      have f288 : 0 ≤ X272 70 0 4 ∧ X272 70 0 4 ≤ 30 := hRX272 70 0 4
                      have e289 : X272 74 0 (5 * (120 + r) + k) = (X 46 0 ((5 * (X 55 0 (Xa 80 0 r))) + k)) := (by rw [hX272, u3_k _ _ _ _ (by first | exact Nat.ne_of_beq_eq_false rfl | decide), hG271 74 0 (5 * (120 + r) + k) (show 7400 ∉ [8000, 7000] by first | exact nlm_ni rfl | decide)]; exact hVX78)
                      have hcq290 : cOK X272 r (k + 1) := cOK.push (cOK.of hcO (by omega) hRX272 (by rw [show X272 40 0 2 = Xb 40 0 2 from (by rw [hX272, u3_k _ _ _ _ (by first | exact Nat.ne_of_beq_eq_false rfl | decide), hG271 40 0 2 (show 4003 ∉ [8000, 7000] by first | exact nlm_ni rfl | decide), hX78, u3_k _ _ _ _ (by first | exact Nat.ne_of_beq_eq_false rfl | decide), hX75, u3_k _ _ _ _ (by first | exact Nat.ne_of_beq_eq_false rfl | decide)])]; exact Int.le_refl _) (by omega) (fun r1 a b => ⟨(by rw [hX272, u3_k _ _ _ _ (by first | exact Nat.ne_of_beq_eq_false rfl | decide), hG271 71 0 (120 + r1) (show 7100 ∉ [8000, 7000] by first | exact nlm_ni rfl | decide), hX78, u3_k _ _ _ _ (by first | exact Nat.ne_of_beq_eq_false rfl | decide), hX75, u3_k _ _ _ _ (by first | exact Nat.ne_of_beq_eq_false rfl | decide)]), (by rw [hX272, u3_k _ _ _ _ (by first | exact Nat.ne_of_beq_eq_false rfl | decide), hG271 72 0 (120 + r1) (show 7200 ∉ [8000, 7000] by first | exact nlm_ni rfl | decide), hX78, u3_k _ _ _ _ (by first | exact Nat.ne_of_beq_eq_false rfl | decide), hX75, u3_k _ _ _ _ (by first | exact Nat.ne_of_beq_eq_false rfl | decide)])⟩) (fun j hj => ⟨(by rw [hX272, u3_k _ _ _ _ (by first | exact Nat.ne_of_beq_eq_false rfl | decide), hG271 74 0 j (show 7400 ∉ [8000, 7000] by first | exact nlm_ni rfl | decide), hX78, u3_j _ _ _ _ (by omega), hX75, u3_k _ _ _ _ (by first | exact Nat.ne_of_beq_eq_false rfl | decide)]), (by rw [hX272, u3_j _ _ _ _ (by omega), hG271 75 0 j (show 7500 ∉ [8000, 7000] by first | exact nlm_ni rfl | decide), hX78, u3_k _ _ _ _ (by first | exact Nat.ne_of_beq_eq_false rfl | decide), hX75, u3_k _ _ _ _ (by first | exact Nat.ne_of_beq_eq_false rfl | decide)])⟩) (by omega)) (by unfold ty4; rw [e289, hVX272]; exact ⟨fun _ => by omega, fun _ => by omega, fun _ => by omega⟩)
                      have hla291 : lnM X (recR (fcM X) (lnM X) (mRid X) (mRid X) x r.toNat 1 r) k = X 46 0 (5 * X 55 0 (Xa 80 0 r) + k) := by rw [← hyo]; rfl
                      have hvl292 : mRid X (recR (fcM X) (lnM X) (mRid X) (mRid X) x r.toNat 1 r) k = X 56 0 (5 * Xa 80 0 r + k) := by rw [← hyo]; rfl
                      have q295 : Frm [7000, 7300, 7400, 8000] Xb X75 := by rw [hX75]; exact Frm.set Frm.rf (show 7300 ∈ [7000, 7300, 7400, 8000] by first | exact nlm_in rfl | decide)
                      have q296 : Frm [7000, 7300, 7400, 8000] Xb X78 := by rw [hX78]; exact Frm.set q295 (show 7400 ∈ [7000, 7300, 7400, 8000] by first | exact nlm_in rfl | decide)
                      have q297 : Frm [7000, 7300, 7400, 8000] Xb X270 := Frm.tr q296 (Frm.mono hG271 (by first | exact nls_of rfl | decide))
                      have hR9294 : rmR X270 (recK (lnM X) (mRid X) (mRid X) (recR (fcM X) (lnM X) (mRid X) (mRid X) x r.toNat) r k.toNat) := rmR.of hRb9 (by rw [hG271 76 0 4 (show 7600 ∉ [8000, 7000] by first | exact nlm_ni rfl | decide), hX78, u3_k _ _ _ _ (by first | exact Nat.ne_of_beq_eq_false rfl | decide), hX75, u3_k _ _ _ _ (by first | exact Nat.ne_of_beq_eq_false rfl | decide)]) (fun q9 hq9 => by simp only [List.mem_cons, List.not_mem_nil, or_false] at hq9; rcases hq9 with rfl | rfl | rfl | rfl | rfl | rfl | rfl | rfl <;> exact Frm.arr q297 _ (by decide +kernel) (by decide)) rfl rfl rfl
                      have hst293 : mStp (lnM X) (mRid X) (mRid X) (recR (fcM X) (lnM X) (mRid X) (mRid X) x r.toNat 1 r) k (5 * r + k) X270 (recK (lnM X) (mRid X) (mRid X) (recR (fcM X) (lnM X) (mRid X) (mRid X) x r.toNat) r k.toNat) z266 := by have h8 := hTrX270; have h9 := hzrX270; rw [hyo] at h8 h9; exact mStp_t (by rw [hla291]; omega) (by rw [hvl292]; omega) h8 hR9294 h9
                      have q300 : Frm [7000, 7300, 7400, 7500, 8000] Xb X75 := by rw [hX75]; exact Frm.set Frm.rf (show 7300 ∈ [7000, 7300, 7400, 7500, 8000] by first | exact nlm_in rfl | decide)
                      have q301 : Frm [7000, 7300, 7400, 7500, 8000] Xb X78 := by rw [hX78]; exact Frm.set q300 (show 7400 ∈ [7000, 7300, 7400, 7500, 8000] by first | exact nlm_in rfl | decide)
                      have q302 : Frm [7000, 7300, 7400, 7500, 8000] Xb X270 := Frm.tr q301 (Frm.mono hG271 (by first | exact nls_of rfl | decide))
                      have q303 : Frm [7000, 7300, 7400, 7500, 8000] Xb X272 := by rw [hX272]; exact Frm.set q302 (show 7500 ∈ [7000, 7300, 7400, 7500, 8000] by first | exact nlm_in rfl | decide)
                      have q314 : Frm [7000, 7100, 7200, 7300, 7400, 7500, 7600, 7700, 7800, 7900, 8000, 8100] X X270 := Frm.tr q900032 (Frm.mono hG271 (by first | exact nls_of rfl | decide))
                      have q315 : Frm [7000, 7100, 7200, 7300, 7400, 7500, 7600, 7700, 7800, 7900, 8000, 8100] X X272 := by rw [hX272]; exact Frm.set q314 (show 7500 ∈ [7000, 7100, 7200, 7300, 7400, 7500, 7600, 7700, 7800, 7900, 8000, 8100] by first | exact nlm_in rfl | decide)
                      have hms304 : mSt X X272 := mSt.of (L := [7000, 7100, 7200, 7300, 7400, 7500, 7600, 7700, 7800, 7900, 8000, 8100]) q315 (by decide)
                      have q334 : S5 X38 X270 := S5.tr q900036 (S5.frm hG271 (by decide))
                      have q335 : S5 X38 X272 := by rw [hX272]; exact S5.set q334 ⟨by first | exact fun h => absurd h (Nat.ne_of_beq_eq_false rfl) | omega, by first | exact fun h => absurd h (Nat.ne_of_beq_eq_false rfl) | omega, by first | exact fun h => absurd h (Nat.ne_of_beq_eq_false rfl) | omega, by first | exact fun h => absurd h (Nat.ne_of_beq_eq_false rfl) | omega, by first | exact fun h => absurd h (Nat.ne_of_beq_eq_false rfl) | omega⟩
                      exact ih80 (k + 1) X272 _ _ _ (by omega) hRX272 q277 (by first | omega | (simp only [e278, e279]; omega)) (hO281) (q286) (by first | omega | (simp only [e278, e279]; omega)) (by first | omega | (simp only [e278, e279]; omega)) (hcq290) ((by rw [hX272, u3_k _ _ _ _ (by first | exact Nat.ne_of_beq_eq_false rfl | decide), hG271 71 0 (120 + r) (show 7100 ∉ [8000, 7000] by first | exact nlm_ni rfl | decide), hX78, u3_k _ _ _ _ (by first | exact Nat.ne_of_beq_eq_false rfl | decide), hX75, u3_k _ _ _ _ (by first | exact Nat.ne_of_beq_eq_false rfl | decide)]; exact h71)) ((by rw [hX272, u3_k _ _ _ _ (by first | exact Nat.ne_of_beq_eq_false rfl | decide), hG271 72 0 (120 + r) (show 7200 ∉ [8000, 7000] by first | exact nlm_ni rfl | decide), hX78, u3_k _ _ _ _ (by first | exact Nat.ne_of_beq_eq_false rfl | decide), hX75, u3_k _ _ _ _ (by first | exact Nat.ne_of_beq_eq_false rfl | decide)]; exact h72)) ((by rw [recK_s (by omega)]; exact rmT.of hst293.1 (by rw [hX272, u3_k _ _ _ _ (by first | exact Nat.ne_of_beq_eq_false rfl | decide)]) (Frm.arr q280 80 (by decide +kernel) (by decide)) rfl rfl)) ((by rw [recK_s (by omega)]; exact rmR.of hst293.2.1 (by rw [hX272, u3_k _ _ _ _ (by first | exact Nat.ne_of_beq_eq_false rfl | decide)]) (fun q9 hq9 => by simp only [List.mem_cons, List.not_mem_nil, or_false] at hq9; rcases hq9 with rfl | rfl | rfl | rfl | rfl | rfl | rfl | rfl <;> exact Frm.arr q280 _ (by decide +kernel) (by decide)) rfl rfl rfl)) ((by rw [recK_s (by omega)]; exact rmV.push hVb (mSt.of (L := [7000, 7300, 7400, 7500, 8000]) q303 (by decide)) ⟨by omega, by omega⟩ (by omega) (fun t => by rw [(Frm.arr q900018 44 (by decide +kernel) (by decide))]; exact hf55 t) (Frm.arr q303 71 (by decide +kernel) (by decide)) (Frm.arr q303 72 (by decide +kernel) (by decide)) (fun j hj => (by rw [hX272, u3_k _ _ _ _ (by first | exact Nat.ne_of_beq_eq_false rfl | decide), hG271 73 0 j (show 7300 ∉ [8000, 7000] by first | exact nlm_ni rfl | decide), hX78, u3_k _ _ _ _ (by first | exact Nat.ne_of_beq_eq_false rfl | decide), hX75, u3_j _ _ _ _ hj])) (fun j hj => (by rw [hX272, u3_k _ _ _ _ (by first | exact Nat.ne_of_beq_eq_false rfl | decide), hG271 74 0 j (show 7400 ∉ [8000, 7000] by first | exact nlm_ni rfl | decide), hX78, u3_j _ _ _ _ hj, hX75, u3_k _ _ _ _ (by first | exact Nat.ne_of_beq_eq_false rfl | decide)])) (fun j hj => (by rw [hX272, u3_j _ _ _ _ hj, hG271 75 0 j (show 7500 ∉ [8000, 7000] by first | exact nlm_ni rfl | decide), hX78, u3_k _ _ _ _ (by first | exact Nat.ne_of_beq_eq_false rfl | decide), hX75, u3_k _ _ _ _ (by first | exact Nat.ne_of_beq_eq_false rfl | decide)])) (fun q a b => recP_o ⟨a, by omega⟩) (fun q hq => recP_5 hq) ⟨(by rw [recP_o ⟨by omega, by omega⟩, recK_o _ ⟨by omega, by omega⟩, ← hyo, hms304.2.1, hms304.2.2.2]; exact (by rw [hX272, u3_k _ _ _ _ (by first | exact Nat.ne_of_beq_eq_false rfl | decide), hG271 73 0 (5 * (120 + r) + k) (show 7300 ∉ [8000, 7000] by first | exact nlm_ni rfl | decide), hX78, u3_k _ _ _ _ (by first | exact Nat.ne_of_beq_eq_false rfl | decide)]; rw [hVX75])), (by rw [recP_o ⟨by omega, by omega⟩, recK_o _ ⟨by omega, by omega⟩, ← hyo]; unfold lnM; rw [hms304.2.2.1, hms304.2.2.2]; exact (by rw [hX272, u3_k _ _ _ _ (by first | exact Nat.ne_of_beq_eq_false rfl | decide), hG271 74 0 (5 * (120 + r) + k) (show 7400 ∉ [8000, 7000] by first | exact nlm_ni rfl | decide)]; rw [hVX78])), (by rw [hVX272]; exact hst293.2.2)⟩)) ((by rw [hX272, u3_k _ _ _ _ (by first | exact Nat.ne_of_beq_eq_false rfl | decide), hG271 71 0 (120 + r) (show 7100 ∉ [8000, 7000] by first | exact nlm_ni rfl | decide), hX78, u3_k _ _ _ _ (by first | exact Nat.ne_of_beq_eq_false rfl | decide), hX75, u3_k _ _ _ _ (by first | exact Nat.ne_of_beq_eq_false rfl | decide)]; exact h71b)) (by first | omega | (simp only [e278, e279]; omega)) (fun h9 k' a b => if hk9 : k' = k then (by rw [hk9]; omega) else hnk h9 k' a (by omega)) (q335) hw hS (lv_sub hl [3, 4, 5, 6, 7, 8, 0] rfl)
                  · replace c142 := cz_geF gz141 c142
                    clear gz141
                    refine lv_lload hx hb dX9_saves_219 (lv_at hl 0 rfl) ?_
                    refine lv_goto (tgt := 256) hx hb dX9_saves_221 (by decide) ?_
                    refine x_last hx hb hK.1 hw hS (by first | exact Int.le_refl 0 | omega) (by first | exact zlt hc75 | omega) ar_75 (len_E ar_75 (by first | exact Nat.ne_of_beq_eq_false rfl | decide)) (by omega) (by omega) (by omega) dX9_saves_256 (fun H locs hw hS => ?_)
                    obtain ⟨X336, hX336⟩ : ∃ Xq, Xq = u3 X78 75 0 ((5 * (120 + r)) + k) (X 56 0 ((5 * (Xa 80 0 r)) + k)) := ⟨_, rfl⟩
                    rw [← hX336] at hw
                    have hRX336 : Rng X336 := by rw [hX336]; exact rng_set hRX78 (show (-9223372036854775808) ≤ (X 56 0 ((5 * (Xa 80 0 r)) + k)) ∧ (X 56 0 ((5 * (Xa 80 0 r)) + k)) ≤ 9223372036854775807 by omega)
                    have hVX336 : X336 75 0 ((5 * (120 + r)) + k) = (X 56 0 ((5 * (Xa 80 0 r)) + k)) := by rw [hX336]; exact u3_s _ _ _ _ _
                    have hFX336 : Frm [7100, 7200, 7300, 7400, 7500, 8000, 7000, 8100, 7700, 7800, 7900, 7600, 4042, 4043, 4044] X X336 := by rw [hX336]; exact Frm.set hFX78 (show 7500 ∈ [7100, 7200, 7300, 7400, 7500, 8000, 7000, 8100, 7700, 7800, 7900, 7600, 4042, 4043, 4044] by first | exact nlm_in rfl | decide)
                    refine lv_iinc (v := jI (k + 1)) (lv' := [(6, .int (jI (k + 1))), (8, .long (jL (X 56 0 ((5 * (Xa 80 0 r)) + k)))), (7, .int (jI ((5 * (120 + r)) + k))), (0, .ref (ad 40 0)), (1, .int (jI x)), (2, .int (jI shut)), (3, .int (jI r)), (4, .int (jI (Xa 80 0 r))), (5, .int (jI (X 55 0 (Xa 80 0 r))))]) hx hb dX9_saves_257 hl (k := 8) rfl (jI_add _ _) (by decide) rfl (fun ls hl => ?_)
                    refine lv_goto (tgt := 80) hx hb dX9_saves_260 (by decide) ?_
                    have q340 : Frm [7100, 7200, 7300, 7400, 7500, 8000, 7000, 8100, 7700, 7800, 7900, 7600] X38 X336 := by rw [hX336]; exact Frm.set q900022 (show 7500 ∈ [7100, 7200, 7300, 7400, 7500, 8000, 7000, 8100, 7700, 7800, 7900, 7600] by first | exact nlm_in rfl | decide)
                    have e341 : X336 76 0 4 = Xb 76 0 4 := by rw [hX336, u3_k _ _ _ _ (by first | exact Nat.ne_of_beq_eq_false rfl | decide), hX78, u3_k _ _ _ _ (by first | exact Nat.ne_of_beq_eq_false rfl | decide), hX75, u3_k _ _ _ _ (by first | exact Nat.ne_of_beq_eq_false rfl | decide)]
                    have e342 : X336 70 0 4 = Xb 70 0 4 := by rw [hX336, u3_k _ _ _ _ (by first | exact Nat.ne_of_beq_eq_false rfl | decide), hX78, u3_k _ _ _ _ (by first | exact Nat.ne_of_beq_eq_false rfl | decide), hX75, u3_k _ _ _ _ (by first | exact Nat.ne_of_beq_eq_false rfl | decide)]
                    have q345 : Frm [7300, 7400, 7500] Xb X336 := by rw [hX336]; exact Frm.set q900024 (show 7500 ∈ [7300, 7400, 7500] by first | exact nlm_in rfl | decide)
                    have hO346 : ordOK X336 := ordOK.of hOb q345 (by decide)
                    have q350 : S4 X38 X336 := by rw [hX336]; exact S4.set q900028 ⟨by first | exact fun h => absurd h (Nat.ne_of_beq_eq_false rfl) | omega, by first | exact fun h => absurd h (Nat.ne_of_beq_eq_false rfl) | omega, by first | exact fun h => absurd h (Nat.ne_of_beq_eq_false rfl) | omega, by first | exact fun h => absurd h (Nat.ne_of_beq_eq_false rfl) | omega, by first | exact fun h => absurd h (Nat.ne_of_beq_eq_false rfl) | omega⟩
                    have f352 : 0 ≤ X336 70 0 4 ∧ X336 70 0 4 ≤ 30 := hRX336 70 0 4
                    have e353 : X336 74 0 (5 * (120 + r) + k) = (X 46 0 ((5 * (X 55 0 (Xa 80 0 r))) + k)) := (by rw [hX336, u3_k _ _ _ _ (by first | exact Nat.ne_of_beq_eq_false rfl | decide)]; exact hVX78)
                    have hcq354 : cOK X336 r (k + 1) := cOK.push (cOK.of hcO (by omega) hRX336 (by rw [show X336 40 0 2 = Xb 40 0 2 from (by rw [hX336, u3_k _ _ _ _ (by first | exact Nat.ne_of_beq_eq_false rfl | decide), hX78, u3_k _ _ _ _ (by first | exact Nat.ne_of_beq_eq_false rfl | decide), hX75, u3_k _ _ _ _ (by first | exact Nat.ne_of_beq_eq_false rfl | decide)])]; exact Int.le_refl _) (by omega) (fun r1 a b => ⟨(by rw [hX336, u3_k _ _ _ _ (by first | exact Nat.ne_of_beq_eq_false rfl | decide), hX78, u3_k _ _ _ _ (by first | exact Nat.ne_of_beq_eq_false rfl | decide), hX75, u3_k _ _ _ _ (by first | exact Nat.ne_of_beq_eq_false rfl | decide)]), (by rw [hX336, u3_k _ _ _ _ (by first | exact Nat.ne_of_beq_eq_false rfl | decide), hX78, u3_k _ _ _ _ (by first | exact Nat.ne_of_beq_eq_false rfl | decide), hX75, u3_k _ _ _ _ (by first | exact Nat.ne_of_beq_eq_false rfl | decide)])⟩) (fun j hj => ⟨(by rw [hX336, u3_k _ _ _ _ (by first | exact Nat.ne_of_beq_eq_false rfl | decide), hX78, u3_j _ _ _ _ (by omega), hX75, u3_k _ _ _ _ (by first | exact Nat.ne_of_beq_eq_false rfl | decide)]), (by rw [hX336, u3_j _ _ _ _ (by omega), hX78, u3_k _ _ _ _ (by first | exact Nat.ne_of_beq_eq_false rfl | decide), hX75, u3_k _ _ _ _ (by first | exact Nat.ne_of_beq_eq_false rfl | decide)])⟩) (by omega)) (by unfold ty4; rw [e353, hVX336]; exact ⟨fun _ => by omega, fun _ => by omega, fun _ => by omega⟩)
                    have hla355 : lnM X (recR (fcM X) (lnM X) (mRid X) (mRid X) x r.toNat 1 r) k = X 46 0 (5 * X 55 0 (Xa 80 0 r) + k) := by rw [← hyo]; rfl
                    have hvl356 : mRid X (recR (fcM X) (lnM X) (mRid X) (mRid X) x r.toNat 1 r) k = X 56 0 (5 * Xa 80 0 r + k) := by rw [← hyo]; rfl
                    have hT358 : rmT X78 (recK (lnM X) (mRid X) (mRid X) (recR (fcM X) (lnM X) (mRid X) (mRid X) x r.toNat) r k.toNat) := rmT.of hTb (by rw [hX78, u3_k _ _ _ _ (by first | exact Nat.ne_of_beq_eq_false rfl | decide), hX75, u3_k _ _ _ _ (by first | exact Nat.ne_of_beq_eq_false rfl | decide)]) (Frm.arr q900030 80 (by decide +kernel) (by decide)) rfl rfl
                    have hR9361 : rmR X78 (recK (lnM X) (mRid X) (mRid X) (recR (fcM X) (lnM X) (mRid X) (mRid X) x r.toNat) r k.toNat) := rmR.of hRb9 (by rw [hX78, u3_k _ _ _ _ (by first | exact Nat.ne_of_beq_eq_false rfl | decide), hX75, u3_k _ _ _ _ (by first | exact Nat.ne_of_beq_eq_false rfl | decide)]) (fun q9 hq9 => by simp only [List.mem_cons, List.not_mem_nil, or_false] at hq9; rcases hq9 with rfl | rfl | rfl | rfl | rfl | rfl | rfl | rfl <;> exact Frm.arr q900030 _ (by decide +kernel) (by decide)) rfl rfl rfl
                    have hst357 : mStp (lnM X) (mRid X) (mRid X) (recR (fcM X) (lnM X) (mRid X) (mRid X) x r.toNat 1 r) k (5 * r + k) X78 (recK (lnM X) (mRid X) (mRid X) (recR (fcM X) (lnM X) (mRid X) (mRid X) x r.toNat) r k.toNat) (X 56 0 ((5 * (Xa 80 0 r)) + k)) := by first | exact mStp_v hT358 hR9361 (by rw [recP_1 (by rw [hla355]; omega), hvl356]) | (rw [show ((X 56 0 ((5 * (Xa 80 0 r)) + k)) : Int) = -1 by omega]; rcases (show X 46 0 (5 * X 55 0 (Xa 80 0 r) + k) = 2 ∨ 3 ≤ X 46 0 (5 * X 55 0 (Xa 80 0 r) + k) by omega) with h2 | h2; exact mStp_v hT358 hR9361 (recP_2n (by rw [hla355]; exact h2) (by rw [hvl356]; omega)); exact mStp_v hT358 hR9361 (recP_3n (by rw [hla355]; exact h2) (by rw [hvl356]; omega)))
                    have q364 : Frm [7500] X78 X336 := by rw [hX336]; exact Frm.set Frm.rf (show 7500 ∈ [7500] by first | exact nlm_in rfl | decide)
                    have q379 : Frm [7000, 7100, 7200, 7300, 7400, 7500, 7600, 7700, 7800, 7900, 8000, 8100] X X336 := by rw [hX336]; exact Frm.set q900032 (show 7500 ∈ [7000, 7100, 7200, 7300, 7400, 7500, 7600, 7700, 7800, 7900, 8000, 8100] by first | exact nlm_in rfl | decide)
                    have hms369 : mSt X X336 := mSt.of (L := [7000, 7100, 7200, 7300, 7400, 7500, 7600, 7700, 7800, 7900, 8000, 8100]) q379 (by decide)
                    have q396 : S5 X38 X336 := by rw [hX336]; exact S5.set q900036 ⟨by first | exact fun h => absurd h (Nat.ne_of_beq_eq_false rfl) | omega, by first | exact fun h => absurd h (Nat.ne_of_beq_eq_false rfl) | omega, by first | exact fun h => absurd h (Nat.ne_of_beq_eq_false rfl) | omega, by first | exact fun h => absurd h (Nat.ne_of_beq_eq_false rfl) | omega, by first | exact fun h => absurd h (Nat.ne_of_beq_eq_false rfl) | omega⟩
                    exact ih80 (k + 1) X336 _ _ _ (by omega) hRX336 q340 (by first | omega | (simp only [e341, e342]; omega)) (hO346) (q350) (by first | omega | (simp only [e341, e342]; omega)) (by first | omega | (simp only [e341, e342]; omega)) (hcq354) ((by rw [hX336, u3_k _ _ _ _ (by first | exact Nat.ne_of_beq_eq_false rfl | decide), hX78, u3_k _ _ _ _ (by first | exact Nat.ne_of_beq_eq_false rfl | decide), hX75, u3_k _ _ _ _ (by first | exact Nat.ne_of_beq_eq_false rfl | decide)]; exact h71)) ((by rw [hX336, u3_k _ _ _ _ (by first | exact Nat.ne_of_beq_eq_false rfl | decide), hX78, u3_k _ _ _ _ (by first | exact Nat.ne_of_beq_eq_false rfl | decide), hX75, u3_k _ _ _ _ (by first | exact Nat.ne_of_beq_eq_false rfl | decide)]; exact h72)) ((by rw [recK_s (by omega)]; exact rmT.of hst357.1 (by rw [hX336, u3_k _ _ _ _ (by first | exact Nat.ne_of_beq_eq_false rfl | decide)]) (Frm.arr q364 80 (by decide +kernel) (by decide)) rfl rfl)) ((by rw [recK_s (by omega)]; exact rmR.of hst357.2.1 (by rw [hX336, u3_k _ _ _ _ (by first | exact Nat.ne_of_beq_eq_false rfl | decide)]) (fun q9 hq9 => by simp only [List.mem_cons, List.not_mem_nil, or_false] at hq9; rcases hq9 with rfl | rfl | rfl | rfl | rfl | rfl | rfl | rfl <;> exact Frm.arr q364 _ (by decide +kernel) (by decide)) rfl rfl rfl)) ((by rw [recK_s (by omega)]; exact rmV.push hVb (mSt.of (L := [7300, 7400, 7500]) q345 (by decide)) ⟨by omega, by omega⟩ (by omega) (fun t => by rw [(Frm.arr q900018 44 (by decide +kernel) (by decide))]; exact hf55 t) (Frm.arr q345 71 (by decide +kernel) (by decide)) (Frm.arr q345 72 (by decide +kernel) (by decide)) (fun j hj => (by rw [hX336, u3_k _ _ _ _ (by first | exact Nat.ne_of_beq_eq_false rfl | decide), hX78, u3_k _ _ _ _ (by first | exact Nat.ne_of_beq_eq_false rfl | decide), hX75, u3_j _ _ _ _ hj])) (fun j hj => (by rw [hX336, u3_k _ _ _ _ (by first | exact Nat.ne_of_beq_eq_false rfl | decide), hX78, u3_j _ _ _ _ hj, hX75, u3_k _ _ _ _ (by first | exact Nat.ne_of_beq_eq_false rfl | decide)])) (fun j hj => (by rw [hX336, u3_j _ _ _ _ hj, hX78, u3_k _ _ _ _ (by first | exact Nat.ne_of_beq_eq_false rfl | decide), hX75, u3_k _ _ _ _ (by first | exact Nat.ne_of_beq_eq_false rfl | decide)])) (fun q a b => recP_o ⟨a, by omega⟩) (fun q hq => recP_5 hq) ⟨(by rw [recP_o ⟨by omega, by omega⟩, recK_o _ ⟨by omega, by omega⟩, ← hyo, hms369.2.1, hms369.2.2.2]; exact (by rw [hX336, u3_k _ _ _ _ (by first | exact Nat.ne_of_beq_eq_false rfl | decide), hX78, u3_k _ _ _ _ (by first | exact Nat.ne_of_beq_eq_false rfl | decide)]; rw [hVX75])), (by rw [recP_o ⟨by omega, by omega⟩, recK_o _ ⟨by omega, by omega⟩, ← hyo]; unfold lnM; rw [hms369.2.2.1, hms369.2.2.2]; exact (by rw [hX336, u3_k _ _ _ _ (by first | exact Nat.ne_of_beq_eq_false rfl | decide)]; rw [hVX78])), (by rw [hVX336]; exact hst357.2.2)⟩)) ((by rw [hX336, u3_k _ _ _ _ (by first | exact Nat.ne_of_beq_eq_false rfl | decide), hX78, u3_k _ _ _ _ (by first | exact Nat.ne_of_beq_eq_false rfl | decide), hX75, u3_k _ _ _ _ (by first | exact Nat.ne_of_beq_eq_false rfl | decide)]; exact h71b)) (by first | omega | (simp only [e341, e342]; omega)) (fun h9 k' a b => if hk9 : k' = k then (by rw [hk9]; omega) else hnk h9 k' a (by omega)) (q396) hw hS (lv_sub hl [3, 4, 5, 6, 7, 8, 0] rfl)
              · refine lv_iload_n hx hb dX9_saves_107 rfl (lv_at hl 2 rfl) ?_
                refine x_if_eq (tgt := 132) hx hb (by omega) dX9_saves_108 (by decide) (fun c397 => ?_) (fun c397 => ?_)
                · refine lv_iconst (v := jI 5) hx hb dX9_saves_132 rfl ?_
                  refine lv_bipush (v := jI 120) hx hb dX9_saves_133 (by decide) ?_
                  refine lv_iload_n hx hb dX9_saves_135 rfl (lv_at hl 3 rfl) ?_
                  refine x_iadd hx hb dX9_saves_136 ?_
                  refine x_imul hx hb dX9_saves_137 ?_
                  refine lv_iload hx hb dX9_saves_138 (lv_at hl 6 rfl) ?_
                  refine x_iadd hx hb dX9_saves_140 ?_
                  refine lv_istore (lv' := [(7, .int (jI ((5 * (120 + r)) + k))), (0, .ref (ad 40 0)), (1, .int (jI x)), (2, .int (jI shut)), (3, .int (jI r)), (4, .int (jI (Xa 80 0 r))), (5, .int (jI (X 55 0 (Xa 80 0 r)))), (6, .int (jI k))]) hx hb dX9_saves_141 hl (by decide) rfl (fun ls hl => ?_)
                  refine lv_aload_n hx hb dX9_saves_143 rfl (lv_at hl 1 rfl) ?_
                  refine x_geto hx hb hf9 hw (by first | exact Int.le_refl 0 | omega) (by first | exact zlt hc40 | omega) sl_40_15 lk48 dX9_saves_144 ?_
                  refine lv_iconst (v := jI 5) hx hb dX9_saves_147 rfl ?_
                  refine lv_iload hx hb dX9_saves_148 (lv_at hl 5 rfl) ?_
                  refine x_imul hx hb dX9_saves_150 ?_
                  refine lv_iload hx hb dX9_saves_151 (lv_at hl 7 rfl) ?_
                  refine x_iadd hx hb dX9_saves_153 ?_
                  obtain ⟨hy1, hy2, hy3⟩ := hMI.1 (Xa 80 0 r) k (by omega) (by omega) (by omega) (by omega)
                  refine x_lald hx hb hK.1 hw (by first | exact Int.le_refl 0 | omega) (by first | exact zlt hc56 | omega) ar_56 (len_E ar_56 (by first | exact Nat.ne_of_beq_eq_false rfl | decide)) (by omega) (by omega) (by omega) dX9_saves_154 ?_
                  have e398 : ∀ p9 q9 : Int, Xb 56 p9 q9 = X 56 p9 q9 := fun p9 q9 => by rw [hGXb 56 p9 q9 (show 5600 ∉ [7100, 7200, 7300, 7400, 7500, 8000, 7000, 8100, 7700, 7800, 7900, 7600] by first | exact nlm_ni rfl | decide), hX38, u3_k _ _ _ _ (by first | exact Nat.ne_of_beq_eq_false rfl | decide), hX35, u3_k _ _ _ _ (by first | exact Nat.ne_of_beq_eq_false rfl | decide), hGXa 56 p9 q9 (show 5600 ∉ [7100, 7200, 7300, 7400, 7500, 8000, 7000, 8100, 7700, 7800, 7900, 7600] by first | exact nlm_ni rfl | decide), hG13 56 p9 q9 (show 5600 ∉ [8000, 7000] by first | exact nlm_ni rfl | decide), hX2, u3_k _ _ _ _ (by first | exact Nat.ne_of_beq_eq_false rfl | decide), hX1, u3_k _ _ _ _ (by first | exact Nat.ne_of_beq_eq_false rfl | decide)]
                  rw [e398 0 ((5 * (Xa 80 0 r)) + k)]
                  have f399 : (-9223372036854775808) ≤ X 56 0 ((5 * (Xa 80 0 r)) + k) ∧ X 56 0 ((5 * (Xa 80 0 r)) + k) ≤ 9223372036854775807 := hR 56 0 ((5 * (Xa 80 0 r)) + k)
                  refine lv_lstore (lv' := [(8, .long (jL (X 56 0 ((5 * (Xa 80 0 r)) + k)))), (7, .int (jI ((5 * (120 + r)) + k))), (0, .ref (ad 40 0)), (1, .int (jI x)), (2, .int (jI shut)), (3, .int (jI r)), (4, .int (jI (Xa 80 0 r))), (5, .int (jI (X 55 0 (Xa 80 0 r)))), (6, .int (jI k))]) hx hb dX9_saves_155 hl (by decide) rfl (fun ls hl => ?_)
                  refine lv_aload_n hx hb dX9_saves_157 rfl (lv_at hl 2 rfl) ?_
                  refine x_geto hx hb hf9 hw (by first | exact Int.le_refl 0 | omega) (by first | exact zlt hc40 | omega) sl_40_32 lk90 dX9_saves_158 ?_
                  refine lv_iload hx hb dX9_saves_161 (lv_at hl 1 rfl) ?_
                  refine lv_aload_n hx hb dX9_saves_163 rfl (lv_at hl 2 rfl) ?_
                  refine x_geto hx hb hf9 hw (by first | exact Int.le_refl 0 | omega) (by first | exact zlt hc40 | omega) sl_40_4 lk17 dX9_saves_164 ?_
                  refine lv_iconst (v := jI 5) hx hb dX9_saves_167 rfl ?_
                  refine lv_iload hx hb dX9_saves_168 (lv_at hl 7 rfl) ?_
                  refine x_imul hx hb dX9_saves_170 ?_
                  refine lv_iload hx hb dX9_saves_171 (lv_at hl 8 rfl) ?_
                  refine x_iadd hx hb dX9_saves_173 ?_
                  refine x_iald hx hb hK.1 hw (by first | exact Int.le_refl 0 | omega) (by first | exact zlt hc45 | omega) ar_45 (len_E ar_45 (by first | exact Nat.ne_of_beq_eq_false rfl | decide)) (by omega) (by omega) (by omega) dX9_saves_174 ?_
                  have e400 : ∀ p9 q9 : Int, Xb 45 p9 q9 = X 45 p9 q9 := fun p9 q9 => by rw [hGXb 45 p9 q9 (show 4500 ∉ [7100, 7200, 7300, 7400, 7500, 8000, 7000, 8100, 7700, 7800, 7900, 7600] by first | exact nlm_ni rfl | decide), hX38, u3_k _ _ _ _ (by first | exact Nat.ne_of_beq_eq_false rfl | decide), hX35, u3_k _ _ _ _ (by first | exact Nat.ne_of_beq_eq_false rfl | decide), hGXa 45 p9 q9 (show 4500 ∉ [7100, 7200, 7300, 7400, 7500, 8000, 7000, 8100, 7700, 7800, 7900, 7600] by first | exact nlm_ni rfl | decide), hG13 45 p9 q9 (show 4500 ∉ [8000, 7000] by first | exact nlm_ni rfl | decide), hX2, u3_k _ _ _ _ (by first | exact Nat.ne_of_beq_eq_false rfl | decide), hX1, u3_k _ _ _ _ (by first | exact Nat.ne_of_beq_eq_false rfl | decide)]
                  rw [e400 0 ((5 * (X 55 0 (Xa 80 0 r))) + k)]
                  have f401 : 0 ≤ X 45 0 ((5 * (X 55 0 (Xa 80 0 r))) + k) ∧ X 45 0 ((5 * (X 55 0 (Xa 80 0 r))) + k) ≤ 19 := hR 45 0 ((5 * (X 55 0 (Xa 80 0 r))) + k)
                  refine x_iast hx hb hK.1 hw hS (by first | exact Int.le_refl 0 | omega) (by first | exact zlt hc73 | omega) ar_73 (len_E ar_73 (by first | exact Nat.ne_of_beq_eq_false rfl | decide)) (by omega) (by omega) (by omega) dX9_saves_175 (fun H locs hw hS => ?_)
                  obtain ⟨X402, hX402⟩ : ∃ Xq, Xq = u3 Xb 73 0 ((5 * (120 + r)) + k) (X 45 0 ((5 * (X 55 0 (Xa 80 0 r))) + k)) := ⟨_, rfl⟩
                  rw [← hX402] at hw
                  have hRX402 : Rng X402 := by rw [hX402]; exact rng_set hRXb (show 0 ≤ (X 45 0 ((5 * (X 55 0 (Xa 80 0 r))) + k)) ∧ (X 45 0 ((5 * (X 55 0 (Xa 80 0 r))) + k)) ≤ 19 by omega)
                  have hVX402 : X402 73 0 ((5 * (120 + r)) + k) = (X 45 0 ((5 * (X 55 0 (Xa 80 0 r))) + k)) := by rw [hX402]; exact u3_s _ _ _ _ _
                  have hFX402 : Frm [7100, 7200, 7300, 7400, 7500, 8000, 7000, 8100, 7700, 7800, 7900, 7600, 4042, 4043, 4044] X X402 := by rw [hX402]; exact Frm.set hFXb (show 7300 ∈ [7100, 7200, 7300, 7400, 7500, 8000, 7000, 8100, 7700, 7800, 7900, 7600, 4042, 4043, 4044] by first | exact nlm_in rfl | decide)
                  refine lv_aload_n hx hb dX9_saves_176 rfl (lv_at hl 2 rfl) ?_
                  refine x_geto hx hb hf9 hw (by first | exact Int.le_refl 0 | omega) (by first | exact zlt hc40 | omega) sl_40_33 lk93 dX9_saves_177 ?_
                  refine lv_iload hx hb dX9_saves_180 (lv_at hl 1 rfl) ?_
                  refine lv_aload_n hx hb dX9_saves_182 rfl (lv_at hl 2 rfl) ?_
                  refine x_geto hx hb hf9 hw (by first | exact Int.le_refl 0 | omega) (by first | exact zlt hc40 | omega) sl_40_5 lk20 dX9_saves_183 ?_
                  refine lv_iconst (v := jI 5) hx hb dX9_saves_186 rfl ?_
                  refine lv_iload hx hb dX9_saves_187 (lv_at hl 7 rfl) ?_
                  refine x_imul hx hb dX9_saves_189 ?_
                  refine lv_iload hx hb dX9_saves_190 (lv_at hl 8 rfl) ?_
                  refine x_iadd hx hb dX9_saves_192 ?_
                  refine x_iald hx hb hK.1 hw (by first | exact Int.le_refl 0 | omega) (by first | exact zlt hc46 | omega) ar_46 (len_E ar_46 (by first | exact Nat.ne_of_beq_eq_false rfl | decide)) (by omega) (by omega) (by omega) dX9_saves_193 ?_
                  have e403 : ∀ p9 q9 : Int, X402 46 p9 q9 = X 46 p9 q9 := fun p9 q9 => by rw [hX402, u3_k _ _ _ _ (by first | exact Nat.ne_of_beq_eq_false rfl | decide), hGXb 46 p9 q9 (show 4600 ∉ [7100, 7200, 7300, 7400, 7500, 8000, 7000, 8100, 7700, 7800, 7900, 7600] by first | exact nlm_ni rfl | decide), hX38, u3_k _ _ _ _ (by first | exact Nat.ne_of_beq_eq_false rfl | decide), hX35, u3_k _ _ _ _ (by first | exact Nat.ne_of_beq_eq_false rfl | decide), hGXa 46 p9 q9 (show 4600 ∉ [7100, 7200, 7300, 7400, 7500, 8000, 7000, 8100, 7700, 7800, 7900, 7600] by first | exact nlm_ni rfl | decide), hG13 46 p9 q9 (show 4600 ∉ [8000, 7000] by first | exact nlm_ni rfl | decide), hX2, u3_k _ _ _ _ (by first | exact Nat.ne_of_beq_eq_false rfl | decide), hX1, u3_k _ _ _ _ (by first | exact Nat.ne_of_beq_eq_false rfl | decide)]
                  rw [e403 0 ((5 * (X 55 0 (Xa 80 0 r))) + k)]
                  have f404 : 0 ≤ X 46 0 ((5 * (X 55 0 (Xa 80 0 r))) + k) ∧ X 46 0 ((5 * (X 55 0 (Xa 80 0 r))) + k) ≤ 5 := hR 46 0 ((5 * (X 55 0 (Xa 80 0 r))) + k)
                  refine x_iast hx hb hK.1 hw hS (by first | exact Int.le_refl 0 | omega) (by first | exact zlt hc74 | omega) ar_74 (len_E ar_74 (by first | exact Nat.ne_of_beq_eq_false rfl | decide)) (by omega) (by omega) (by omega) dX9_saves_194 (fun H locs hw hS => ?_)
                  obtain ⟨X405, hX405⟩ : ∃ Xq, Xq = u3 X402 74 0 ((5 * (120 + r)) + k) (X 46 0 ((5 * (X 55 0 (Xa 80 0 r))) + k)) := ⟨_, rfl⟩
                  rw [← hX405] at hw
                  have hRX405 : Rng X405 := by rw [hX405]; exact rng_set hRX402 (show 0 ≤ (X 46 0 ((5 * (X 55 0 (Xa 80 0 r))) + k)) ∧ (X 46 0 ((5 * (X 55 0 (Xa 80 0 r))) + k)) ≤ 5 by omega)
                  have hVX405 : X405 74 0 ((5 * (120 + r)) + k) = (X 46 0 ((5 * (X 55 0 (Xa 80 0 r))) + k)) := by rw [hX405]; exact u3_s _ _ _ _ _
                  have hFX405 : Frm [7100, 7200, 7300, 7400, 7500, 8000, 7000, 8100, 7700, 7800, 7900, 7600, 4042, 4043, 4044] X X405 := by rw [hX405]; exact Frm.set hFX402 (show 7400 ∈ [7100, 7200, 7300, 7400, 7500, 8000, 7000, 8100, 7700, 7800, 7900, 7600, 4042, 4043, 4044] by first | exact nlm_in rfl | decide)
                  refine lv_aload_n hx hb dX9_saves_195 rfl (lv_at hl 2 rfl) ?_
                  refine x_geto hx hb hf9 hw (by first | exact Int.le_refl 0 | omega) (by first | exact zlt hc40 | omega) sl_40_34 lk96 dX9_saves_196 ?_
                  refine lv_iload hx hb dX9_saves_199 (lv_at hl 1 rfl) ?_
                  refine lv_aload_n hx hb dX9_saves_201 rfl (lv_at hl 2 rfl) ?_
                  refine x_geto hx hb hf9 hw (by first | exact Int.le_refl 0 | omega) (by first | exact zlt hc40 | omega) sl_40_33 lk93 dX9_saves_202 ?_
                  refine lv_iload hx hb dX9_saves_205 (lv_at hl 1 rfl) ?_
                  refine x_iald hx hb hK.1 hw (by first | exact Int.le_refl 0 | omega) (by first | exact zlt hc74 | omega) ar_74 (len_E ar_74 (by first | exact Nat.ne_of_beq_eq_false rfl | decide)) (by omega) (by omega) (by omega) dX9_saves_207 ?_
                  rw [hVX405]
                  refine lv_iconst (v := jI 2) hx hb dX9_saves_208 rfl ?_
                  have q900045 : Frm [7100, 7200, 7300, 7400, 7500, 8000, 7000, 8100, 7700, 7800, 7900, 7600] X38 X402 := by rw [hX402]; exact Frm.set q900020 (show 7300 ∈ [7100, 7200, 7300, 7400, 7500, 8000, 7000, 8100, 7700, 7800, 7900, 7600] by first | exact nlm_in rfl | decide)
                  have q900046 : Frm [7100, 7200, 7300, 7400, 7500, 8000, 7000, 8100, 7700, 7800, 7900, 7600] X38 X405 := by rw [hX405]; exact Frm.set q900045 (show 7400 ∈ [7100, 7200, 7300, 7400, 7500, 8000, 7000, 8100, 7700, 7800, 7900, 7600] by first | exact nlm_in rfl | decide)
                  have q900047 : Frm [7300, 7400, 7500] Xb X402 := by rw [hX402]; exact Frm.set Frm.rf (show 7300 ∈ [7300, 7400, 7500] by first | exact nlm_in rfl | decide)
                  have q900048 : Frm [7300, 7400, 7500] Xb X405 := by rw [hX405]; exact Frm.set q900047 (show 7400 ∈ [7300, 7400, 7500] by first | exact nlm_in rfl | decide)
                  have q900049 : S4 X38 X402 := by rw [hX402]; exact S4.set q900026 ⟨by first | exact fun h => absurd h (Nat.ne_of_beq_eq_false rfl) | omega, by first | exact fun h => absurd h (Nat.ne_of_beq_eq_false rfl) | omega, by first | exact fun h => absurd h (Nat.ne_of_beq_eq_false rfl) | omega, by first | exact fun h => absurd h (Nat.ne_of_beq_eq_false rfl) | omega, by first | exact fun h => absurd h (Nat.ne_of_beq_eq_false rfl) | omega⟩
                  have q900050 : S4 X38 X405 := by rw [hX405]; exact S4.set q900049 ⟨by first | exact fun h => absurd h (Nat.ne_of_beq_eq_false rfl) | omega, by first | exact fun h => absurd h (Nat.ne_of_beq_eq_false rfl) | omega, by first | exact fun h => absurd h (Nat.ne_of_beq_eq_false rfl) | omega, by first | exact fun h => absurd h (Nat.ne_of_beq_eq_false rfl) | omega, by first | exact fun h => absurd h (Nat.ne_of_beq_eq_false rfl) | omega⟩
                  have q900051 : Frm [7300, 7400] Xb X402 := by rw [hX402]; exact Frm.set Frm.rf (show 7300 ∈ [7300, 7400] by first | exact nlm_in rfl | decide)
                  have q900052 : Frm [7300, 7400] Xb X405 := by rw [hX405]; exact Frm.set q900051 (show 7400 ∈ [7300, 7400] by first | exact nlm_in rfl | decide)
                  have q900053 : Frm [7000, 7100, 7200, 7300, 7400, 7500, 7600, 7700, 7800, 7900, 8000, 8100] X X402 := by rw [hX402]; exact Frm.set q900018 (show 7300 ∈ [7000, 7100, 7200, 7300, 7400, 7500, 7600, 7700, 7800, 7900, 8000, 8100] by first | exact nlm_in rfl | decide)
                  have q900054 : Frm [7000, 7100, 7200, 7300, 7400, 7500, 7600, 7700, 7800, 7900, 8000, 8100] X X405 := by rw [hX405]; exact Frm.set q900053 (show 7400 ∈ [7000, 7100, 7200, 7300, 7400, 7500, 7600, 7700, 7800, 7900, 8000, 8100] by first | exact nlm_in rfl | decide)
                  have q900055 : S5 X38 X402 := by rw [hX402]; exact S5.set q900034 ⟨by first | exact fun h => absurd h (Nat.ne_of_beq_eq_false rfl) | omega, by first | exact fun h => absurd h (Nat.ne_of_beq_eq_false rfl) | omega, by first | exact fun h => absurd h (Nat.ne_of_beq_eq_false rfl) | omega, by first | exact fun h => absurd h (Nat.ne_of_beq_eq_false rfl) | omega, by first | exact fun h => absurd h (Nat.ne_of_beq_eq_false rfl) | omega⟩
                  have q900056 : S5 X38 X405 := by rw [hX405]; exact S5.set q900055 ⟨by first | exact fun h => absurd h (Nat.ne_of_beq_eq_false rfl) | omega, by first | exact fun h => absurd h (Nat.ne_of_beq_eq_false rfl) | omega, by first | exact fun h => absurd h (Nat.ne_of_beq_eq_false rfl) | omega, by first | exact fun h => absurd h (Nat.ne_of_beq_eq_false rfl) | omega, by first | exact fun h => absurd h (Nat.ne_of_beq_eq_false rfl) | omega⟩
                  refine x_icmp_lt (tgt := 219) hx hb (by omega) (by omega) dX9_saves_209 (by decide) (fun c406 => ?_) (fun c406 => ?_)
                  · refine lv_lload hx hb dX9_saves_219 (lv_at hl 0 rfl) ?_
                    refine lv_goto (tgt := 256) hx hb dX9_saves_221 (by decide) ?_
                    refine x_last hx hb hK.1 hw hS (by first | exact Int.le_refl 0 | omega) (by first | exact zlt hc75 | omega) ar_75 (len_E ar_75 (by first | exact Nat.ne_of_beq_eq_false rfl | decide)) (by omega) (by omega) (by omega) dX9_saves_256 (fun H locs hw hS => ?_)
                    obtain ⟨X407, hX407⟩ : ∃ Xq, Xq = u3 X405 75 0 ((5 * (120 + r)) + k) (X 56 0 ((5 * (Xa 80 0 r)) + k)) := ⟨_, rfl⟩
                    rw [← hX407] at hw
                    have hRX407 : Rng X407 := by rw [hX407]; exact rng_set hRX405 (show (-9223372036854775808) ≤ (X 56 0 ((5 * (Xa 80 0 r)) + k)) ∧ (X 56 0 ((5 * (Xa 80 0 r)) + k)) ≤ 9223372036854775807 by omega)
                    have hVX407 : X407 75 0 ((5 * (120 + r)) + k) = (X 56 0 ((5 * (Xa 80 0 r)) + k)) := by rw [hX407]; exact u3_s _ _ _ _ _
                    have hFX407 : Frm [7100, 7200, 7300, 7400, 7500, 8000, 7000, 8100, 7700, 7800, 7900, 7600, 4042, 4043, 4044] X X407 := by rw [hX407]; exact Frm.set hFX405 (show 7500 ∈ [7100, 7200, 7300, 7400, 7500, 8000, 7000, 8100, 7700, 7800, 7900, 7600, 4042, 4043, 4044] by first | exact nlm_in rfl | decide)
                    refine lv_iinc (v := jI (k + 1)) (lv' := [(6, .int (jI (k + 1))), (8, .long (jL (X 56 0 ((5 * (Xa 80 0 r)) + k)))), (7, .int (jI ((5 * (120 + r)) + k))), (0, .ref (ad 40 0)), (1, .int (jI x)), (2, .int (jI shut)), (3, .int (jI r)), (4, .int (jI (Xa 80 0 r))), (5, .int (jI (X 55 0 (Xa 80 0 r))))]) hx hb dX9_saves_257 hl (k := 8) rfl (jI_add _ _) (by decide) rfl (fun ls hl => ?_)
                    refine lv_goto (tgt := 80) hx hb dX9_saves_260 (by decide) ?_
                    have q411 : Frm [7100, 7200, 7300, 7400, 7500, 8000, 7000, 8100, 7700, 7800, 7900, 7600] X38 X407 := by rw [hX407]; exact Frm.set q900046 (show 7500 ∈ [7100, 7200, 7300, 7400, 7500, 8000, 7000, 8100, 7700, 7800, 7900, 7600] by first | exact nlm_in rfl | decide)
                    have e412 : X407 76 0 4 = Xb 76 0 4 := by rw [hX407, u3_k _ _ _ _ (by first | exact Nat.ne_of_beq_eq_false rfl | decide), hX405, u3_k _ _ _ _ (by first | exact Nat.ne_of_beq_eq_false rfl | decide), hX402, u3_k _ _ _ _ (by first | exact Nat.ne_of_beq_eq_false rfl | decide)]
                    have e413 : X407 70 0 4 = Xb 70 0 4 := by rw [hX407, u3_k _ _ _ _ (by first | exact Nat.ne_of_beq_eq_false rfl | decide), hX405, u3_k _ _ _ _ (by first | exact Nat.ne_of_beq_eq_false rfl | decide), hX402, u3_k _ _ _ _ (by first | exact Nat.ne_of_beq_eq_false rfl | decide)]
                    have q416 : Frm [7300, 7400, 7500] Xb X407 := by rw [hX407]; exact Frm.set q900048 (show 7500 ∈ [7300, 7400, 7500] by first | exact nlm_in rfl | decide)
                    have hO417 : ordOK X407 := ordOK.of hOb q416 (by decide)
                    have q421 : S4 X38 X407 := by rw [hX407]; exact S4.set q900050 ⟨by first | exact fun h => absurd h (Nat.ne_of_beq_eq_false rfl) | omega, by first | exact fun h => absurd h (Nat.ne_of_beq_eq_false rfl) | omega, by first | exact fun h => absurd h (Nat.ne_of_beq_eq_false rfl) | omega, by first | exact fun h => absurd h (Nat.ne_of_beq_eq_false rfl) | omega, by first | exact fun h => absurd h (Nat.ne_of_beq_eq_false rfl) | omega⟩
                    have f423 : 0 ≤ X407 70 0 4 ∧ X407 70 0 4 ≤ 30 := hRX407 70 0 4
                    have e424 : X407 74 0 (5 * (120 + r) + k) = (X 46 0 ((5 * (X 55 0 (Xa 80 0 r))) + k)) := (by rw [hX407, u3_k _ _ _ _ (by first | exact Nat.ne_of_beq_eq_false rfl | decide)]; exact hVX405)
                    have hcq425 : cOK X407 r (k + 1) := cOK.push (cOK.of hcO (by omega) hRX407 (by rw [show X407 40 0 2 = Xb 40 0 2 from (by rw [hX407, u3_k _ _ _ _ (by first | exact Nat.ne_of_beq_eq_false rfl | decide), hX405, u3_k _ _ _ _ (by first | exact Nat.ne_of_beq_eq_false rfl | decide), hX402, u3_k _ _ _ _ (by first | exact Nat.ne_of_beq_eq_false rfl | decide)])]; exact Int.le_refl _) (by omega) (fun r1 a b => ⟨(by rw [hX407, u3_k _ _ _ _ (by first | exact Nat.ne_of_beq_eq_false rfl | decide), hX405, u3_k _ _ _ _ (by first | exact Nat.ne_of_beq_eq_false rfl | decide), hX402, u3_k _ _ _ _ (by first | exact Nat.ne_of_beq_eq_false rfl | decide)]), (by rw [hX407, u3_k _ _ _ _ (by first | exact Nat.ne_of_beq_eq_false rfl | decide), hX405, u3_k _ _ _ _ (by first | exact Nat.ne_of_beq_eq_false rfl | decide), hX402, u3_k _ _ _ _ (by first | exact Nat.ne_of_beq_eq_false rfl | decide)])⟩) (fun j hj => ⟨(by rw [hX407, u3_k _ _ _ _ (by first | exact Nat.ne_of_beq_eq_false rfl | decide), hX405, u3_j _ _ _ _ (by omega), hX402, u3_k _ _ _ _ (by first | exact Nat.ne_of_beq_eq_false rfl | decide)]), (by rw [hX407, u3_j _ _ _ _ (by omega), hX405, u3_k _ _ _ _ (by first | exact Nat.ne_of_beq_eq_false rfl | decide), hX402, u3_k _ _ _ _ (by first | exact Nat.ne_of_beq_eq_false rfl | decide)])⟩) (by omega)) (by unfold ty4; rw [e424, hVX407]; exact ⟨fun _ => by omega, fun _ => by omega, fun _ => by omega⟩)
                    have hla426 : lnM X (recR (fcM X) (lnM X) (mRid X) (mRid X) x r.toNat 1 r) k = X 46 0 (5 * X 55 0 (Xa 80 0 r) + k) := by rw [← hyo]; rfl
                    have hvl427 : mRid X (recR (fcM X) (lnM X) (mRid X) (mRid X) x r.toNat 1 r) k = X 56 0 (5 * Xa 80 0 r + k) := by rw [← hyo]; rfl
                    have hT429 : rmT X405 (recK (lnM X) (mRid X) (mRid X) (recR (fcM X) (lnM X) (mRid X) (mRid X) x r.toNat) r k.toNat) := rmT.of hTb (by rw [hX405, u3_k _ _ _ _ (by first | exact Nat.ne_of_beq_eq_false rfl | decide), hX402, u3_k _ _ _ _ (by first | exact Nat.ne_of_beq_eq_false rfl | decide)]) (Frm.arr q900052 80 (by decide +kernel) (by decide)) rfl rfl
                    have hR9432 : rmR X405 (recK (lnM X) (mRid X) (mRid X) (recR (fcM X) (lnM X) (mRid X) (mRid X) x r.toNat) r k.toNat) := rmR.of hRb9 (by rw [hX405, u3_k _ _ _ _ (by first | exact Nat.ne_of_beq_eq_false rfl | decide), hX402, u3_k _ _ _ _ (by first | exact Nat.ne_of_beq_eq_false rfl | decide)]) (fun q9 hq9 => by simp only [List.mem_cons, List.not_mem_nil, or_false] at hq9; rcases hq9 with rfl | rfl | rfl | rfl | rfl | rfl | rfl | rfl <;> exact Frm.arr q900052 _ (by decide +kernel) (by decide)) rfl rfl rfl
                    have hst428 : mStp (lnM X) (mRid X) (mRid X) (recR (fcM X) (lnM X) (mRid X) (mRid X) x r.toNat 1 r) k (5 * r + k) X405 (recK (lnM X) (mRid X) (mRid X) (recR (fcM X) (lnM X) (mRid X) (mRid X) x r.toNat) r k.toNat) (X 56 0 ((5 * (Xa 80 0 r)) + k)) := by first | exact mStp_v hT429 hR9432 (by rw [recP_1 (by rw [hla426]; omega), hvl427]) | (rw [show ((X 56 0 ((5 * (Xa 80 0 r)) + k)) : Int) = -1 by omega]; rcases (show X 46 0 (5 * X 55 0 (Xa 80 0 r) + k) = 2 ∨ 3 ≤ X 46 0 (5 * X 55 0 (Xa 80 0 r) + k) by omega) with h2 | h2; exact mStp_v hT429 hR9432 (recP_2n (by rw [hla426]; exact h2) (by rw [hvl427]; omega)); exact mStp_v hT429 hR9432 (recP_3n (by rw [hla426]; exact h2) (by rw [hvl427]; omega)))
                    have q435 : Frm [7500] X405 X407 := by rw [hX407]; exact Frm.set Frm.rf (show 7500 ∈ [7500] by first | exact nlm_in rfl | decide)
                    have q450 : Frm [7000, 7100, 7200, 7300, 7400, 7500, 7600, 7700, 7800, 7900, 8000, 8100] X X407 := by rw [hX407]; exact Frm.set q900054 (show 7500 ∈ [7000, 7100, 7200, 7300, 7400, 7500, 7600, 7700, 7800, 7900, 8000, 8100] by first | exact nlm_in rfl | decide)
                    have hms440 : mSt X X407 := mSt.of (L := [7000, 7100, 7200, 7300, 7400, 7500, 7600, 7700, 7800, 7900, 8000, 8100]) q450 (by decide)
                    have q467 : S5 X38 X407 := by rw [hX407]; exact S5.set q900056 ⟨by first | exact fun h => absurd h (Nat.ne_of_beq_eq_false rfl) | omega, by first | exact fun h => absurd h (Nat.ne_of_beq_eq_false rfl) | omega, by first | exact fun h => absurd h (Nat.ne_of_beq_eq_false rfl) | omega, by first | exact fun h => absurd h (Nat.ne_of_beq_eq_false rfl) | omega, by first | exact fun h => absurd h (Nat.ne_of_beq_eq_false rfl) | omega⟩
                    exact ih80 (k + 1) X407 _ _ _ (by omega) hRX407 q411 (by first | omega | (simp only [e412, e413]; omega)) (hO417) (q421) (by first | omega | (simp only [e412, e413]; omega)) (by first | omega | (simp only [e412, e413]; omega)) (hcq425) ((by rw [hX407, u3_k _ _ _ _ (by first | exact Nat.ne_of_beq_eq_false rfl | decide), hX405, u3_k _ _ _ _ (by first | exact Nat.ne_of_beq_eq_false rfl | decide), hX402, u3_k _ _ _ _ (by first | exact Nat.ne_of_beq_eq_false rfl | decide)]; exact h71)) ((by rw [hX407, u3_k _ _ _ _ (by first | exact Nat.ne_of_beq_eq_false rfl | decide), hX405, u3_k _ _ _ _ (by first | exact Nat.ne_of_beq_eq_false rfl | decide), hX402, u3_k _ _ _ _ (by first | exact Nat.ne_of_beq_eq_false rfl | decide)]; exact h72)) ((by rw [recK_s (by omega)]; exact rmT.of hst428.1 (by rw [hX407, u3_k _ _ _ _ (by first | exact Nat.ne_of_beq_eq_false rfl | decide)]) (Frm.arr q435 80 (by decide +kernel) (by decide)) rfl rfl)) ((by rw [recK_s (by omega)]; exact rmR.of hst428.2.1 (by rw [hX407, u3_k _ _ _ _ (by first | exact Nat.ne_of_beq_eq_false rfl | decide)]) (fun q9 hq9 => by simp only [List.mem_cons, List.not_mem_nil, or_false] at hq9; rcases hq9 with rfl | rfl | rfl | rfl | rfl | rfl | rfl | rfl <;> exact Frm.arr q435 _ (by decide +kernel) (by decide)) rfl rfl rfl)) ((by rw [recK_s (by omega)]; exact rmV.push hVb (mSt.of (L := [7300, 7400, 7500]) q416 (by decide)) ⟨by omega, by omega⟩ (by omega) (fun t => by rw [(Frm.arr q900018 44 (by decide +kernel) (by decide))]; exact hf55 t) (Frm.arr q416 71 (by decide +kernel) (by decide)) (Frm.arr q416 72 (by decide +kernel) (by decide)) (fun j hj => (by rw [hX407, u3_k _ _ _ _ (by first | exact Nat.ne_of_beq_eq_false rfl | decide), hX405, u3_k _ _ _ _ (by first | exact Nat.ne_of_beq_eq_false rfl | decide), hX402, u3_j _ _ _ _ hj])) (fun j hj => (by rw [hX407, u3_k _ _ _ _ (by first | exact Nat.ne_of_beq_eq_false rfl | decide), hX405, u3_j _ _ _ _ hj, hX402, u3_k _ _ _ _ (by first | exact Nat.ne_of_beq_eq_false rfl | decide)])) (fun j hj => (by rw [hX407, u3_j _ _ _ _ hj, hX405, u3_k _ _ _ _ (by first | exact Nat.ne_of_beq_eq_false rfl | decide), hX402, u3_k _ _ _ _ (by first | exact Nat.ne_of_beq_eq_false rfl | decide)])) (fun q a b => recP_o ⟨a, by omega⟩) (fun q hq => recP_5 hq) ⟨(by rw [recP_o ⟨by omega, by omega⟩, recK_o _ ⟨by omega, by omega⟩, ← hyo, hms440.2.1, hms440.2.2.2]; exact (by rw [hX407, u3_k _ _ _ _ (by first | exact Nat.ne_of_beq_eq_false rfl | decide), hX405, u3_k _ _ _ _ (by first | exact Nat.ne_of_beq_eq_false rfl | decide)]; rw [hVX402])), (by rw [recP_o ⟨by omega, by omega⟩, recK_o _ ⟨by omega, by omega⟩, ← hyo]; unfold lnM; rw [hms440.2.2.1, hms440.2.2.2]; exact (by rw [hX407, u3_k _ _ _ _ (by first | exact Nat.ne_of_beq_eq_false rfl | decide)]; rw [hVX405])), (by rw [hVX407]; exact hst428.2.2)⟩)) ((by rw [hX407, u3_k _ _ _ _ (by first | exact Nat.ne_of_beq_eq_false rfl | decide), hX405, u3_k _ _ _ _ (by first | exact Nat.ne_of_beq_eq_false rfl | decide), hX402, u3_k _ _ _ _ (by first | exact Nat.ne_of_beq_eq_false rfl | decide)]; exact h71b)) (by first | omega | (simp only [e412, e413]; omega)) (fun h9 k' a b => if hk9 : k' = k then (by rw [hk9]; omega) else hnk h9 k' a (by omega)) (q467) hw hS (lv_sub hl [3, 4, 5, 6, 7, 8, 0] rfl)
                  · refine lv_lload hx hb dX9_saves_212 (lv_at hl 0 rfl) ?_
                    refine lv_lconst (v := jL 0) hx hb dX9_saves_214 (by decide) ?_
                    refine x_lcmp hx hb (by omega) (by omega) dX9_saves_215 ?_
                    obtain ⟨z468, ez468⟩ : ∃ y : Int, y = cmpZ (X 56 0 ((5 * (Xa 80 0 r)) + k)) 0 := ⟨_, rfl⟩
                    rw [← ez468]
                    have gz468 : (z468 < 0 ↔ ((X 56 0 ((5 * (Xa 80 0 r)) + k)) : Int) < 0) ∧ (z468 = 0 ↔ ((X 56 0 ((5 * (Xa 80 0 r)) + k)) : Int) = 0) ∧ -1 ≤ z468 ∧ z468 ≤ 1 := by rw [ez468]; exact ⟨cmpZ_lt, cmpZ_eq, (cmpZ_r _ _).1, (cmpZ_r _ _).2⟩
                    clear ez468
                    refine x_if_ge (tgt := 224) hx hb (by omega) dX9_saves_216 (by decide) (fun c469 => ?_) (fun c469 => ?_)
                    · replace c469 := cz_geT gz468 c469
                      clear gz468
                      refine lv_aload_n hx hb dX9_saves_224 rfl (lv_at hl 2 rfl) ?_
                      refine x_geto hx hb hf9 hw (by first | exact Int.le_refl 0 | omega) (by first | exact zlt hc40 | omega) sl_40_33 lk93 dX9_saves_225 ?_
                      refine lv_iload hx hb dX9_saves_228 (lv_at hl 1 rfl) ?_
                      refine x_iald hx hb hK.1 hw (by first | exact Int.le_refl 0 | omega) (by first | exact zlt hc74 | omega) ar_74 (len_E ar_74 (by first | exact Nat.ne_of_beq_eq_false rfl | decide)) (by omega) (by omega) (by omega) dX9_saves_230 ?_
                      rw [hVX405]
                      refine lv_iconst (v := jI 2) hx hb dX9_saves_231 rfl ?_
                      have q900057 : S4 X X402 := by rw [hX402]; exact S4.set q900042 ⟨by first | exact fun h => absurd h (Nat.ne_of_beq_eq_false rfl) | omega, by first | exact fun h => absurd h (Nat.ne_of_beq_eq_false rfl) | omega, by first | exact fun h => absurd h (Nat.ne_of_beq_eq_false rfl) | omega, by first | exact fun h => absurd h (Nat.ne_of_beq_eq_false rfl) | omega, by first | exact fun h => absurd h (Nat.ne_of_beq_eq_false rfl) | omega⟩
                      have q900058 : S4 X X405 := by rw [hX405]; exact S4.set q900057 ⟨by first | exact fun h => absurd h (Nat.ne_of_beq_eq_false rfl) | omega, by first | exact fun h => absurd h (Nat.ne_of_beq_eq_false rfl) | omega, by first | exact fun h => absurd h (Nat.ne_of_beq_eq_false rfl) | omega, by first | exact fun h => absurd h (Nat.ne_of_beq_eq_false rfl) | omega, by first | exact fun h => absurd h (Nat.ne_of_beq_eq_false rfl) | omega⟩
                      refine x_icmp_ne (tgt := 247) hx hb (by omega) (by omega) dX9_saves_232 (by decide) (fun c470 => ?_) (fun c470 => ?_)
                      · refine lv_aload_n hx hb dX9_saves_247 rfl (lv_at hl 2 rfl) ?_
                        refine lv_iconst (v := jI 4) hx hb dX9_saves_248 rfl ?_
                        refine lv_lload hx hb dX9_saves_249 (lv_at hl 0 rfl) ?_
                        refine x_l2i hx hb dX9_saves_251 ?_
                        have hMq480 : MInv X405 := minv_s4 hMI hRX405 hFX405 q900058 (by decide)
                        have e481 : X405 76 0 4 = Xb 76 0 4 := by rw [hX405, u3_k _ _ _ _ (by first | exact Nat.ne_of_beq_eq_false rfl | decide), hX402, u3_k _ _ _ _ (by first | exact Nat.ne_of_beq_eq_false rfl | decide)]
                        have hR9482 : rmR X405 (recK (lnM X) (mRid X) (mRid X) (recR (fcM X) (lnM X) (mRid X) (mRid X) x r.toNat) r k.toNat) := rmR.of hRb9 (by rw [hX405, u3_k _ _ _ _ (by first | exact Nat.ne_of_beq_eq_false rfl | decide), hX402, u3_k _ _ _ _ (by first | exact Nat.ne_of_beq_eq_false rfl | decide)]) (fun q9 hq9 => by simp only [List.mem_cons, List.not_mem_nil, or_false] at hq9; rcases hq9 with rfl | rfl | rfl | rfl | rfl | rfl | rfl | rfl <;> exact Frm.arr q900052 _ (by decide +kernel) (by decide)) rfl rfl rfl
                        refine gos_i (run_V (As := [.int (jI 4), .int (jI (X 56 0 ((5 * (Xa 80 0 r)) + k)))]) (rest := [.int (jI ((5 * (120 + r)) + k)), .ref (ad 75 0)]) hx hb hml hown hts (c_X9_rowOf l D tc base ad cnt X405 Y ln hRX405 hFx hMq480 (X 56 0 ((5 * (Xa 80 0 r)) + k)) (by omega) (by simp only [e481]; omega) (recK (lnM X) (mRid X) (mRid X) (recR (fcM X) (lnM X) (mRid X) (mRid X) x r.toNat) r k.toNat) hR9482 (Xa 80 0 r) k (by unfold mRid; rw [(Frm.arr q900054 56 (by decide +kernel) (by decide))])) (cwV 2 hts gX9_saves_X9_rowOf rfl rfl rfl (by first | exact hd_X9_rowOf | decide +kernel) ⟨Nat.le_of_ble_eq_true rfl, Nat.le_of_ble_eq_true rfl⟩) hK hw (by first | exact Int.le_refl 0 | omega) (by first | exact zlt hc40 | omega) sl_40_0 rfl rfl hl.1 rfl (Nat.le_of_ble_eq_true rfl) dX9_saves_252 ⟨Nat.le_of_ble_eq_true rfl, Nat.le_of_ble_eq_true rfl⟩) hS (fun z494 u495 H locs p496 hw hS => ?_)
                        obtain ⟨X497, eu495, hRX497, hG498, hMIX497, p496, hnrX497, hzrX497, hRrX497, h5X497⟩ := p496
                        subst eu495
                        have hFX497 : Frm [7100, 7200, 7300, 7400, 7500, 8000, 7000, 8100, 7700, 7800, 7900, 7600, 4042, 4043, 4044] X X497 := Frm.tr hFX405 (Frm.mono hG498 (by first | exact nls_of rfl | decide))
                        refine x_i2l hx hb (by omega) dX9_saves_255 ?_
                        refine x_last hx hb hK.1 hw hS (by first | exact Int.le_refl 0 | omega) (by first | exact zlt hc75 | omega) ar_75 (len_E ar_75 (by first | exact Nat.ne_of_beq_eq_false rfl | decide)) (by omega) (by omega) (by omega) dX9_saves_256 (fun H locs hw hS => ?_)
                        obtain ⟨X499, hX499⟩ : ∃ Xq, Xq = u3 X497 75 0 ((5 * (120 + r)) + k) z494 := ⟨_, rfl⟩
                        rw [← hX499] at hw
                        have hRX499 : Rng X499 := by rw [hX499]; exact rng_set hRX497 (show (-9223372036854775808) ≤ z494 ∧ z494 ≤ 9223372036854775807 by omega)
                        have hVX499 : X499 75 0 ((5 * (120 + r)) + k) = z494 := by rw [hX499]; exact u3_s _ _ _ _ _
                        have hFX499 : Frm [7100, 7200, 7300, 7400, 7500, 8000, 7000, 8100, 7700, 7800, 7900, 7600, 4042, 4043, 4044] X X499 := by rw [hX499]; exact Frm.set hFX497 (show 7500 ∈ [7100, 7200, 7300, 7400, 7500, 8000, 7000, 8100, 7700, 7800, 7900, 7600, 4042, 4043, 4044] by first | exact nlm_in rfl | decide)
                        refine lv_iinc (v := jI (k + 1)) (lv' := [(6, .int (jI (k + 1))), (8, .long (jL (X 56 0 ((5 * (Xa 80 0 r)) + k)))), (7, .int (jI ((5 * (120 + r)) + k))), (0, .ref (ad 40 0)), (1, .int (jI x)), (2, .int (jI shut)), (3, .int (jI r)), (4, .int (jI (Xa 80 0 r))), (5, .int (jI (X 55 0 (Xa 80 0 r))))]) hx hb dX9_saves_257 hl (k := 8) rfl (jI_add _ _) (by decide) rfl (fun ls hl => ?_)
                        refine lv_goto (tgt := 80) hx hb dX9_saves_260 (by decide) ?_
                        have q503 : Frm [7100, 7200, 7300, 7400, 7500, 8000, 7000, 8100, 7700, 7800, 7900, 7600] X38 X497 := Frm.tr q900046 (Frm.mono hG498 (by first | exact nls_of rfl | decide))
                        have q504 : Frm [7100, 7200, 7300, 7400, 7500, 8000, 7000, 8100, 7700, 7800, 7900, 7600] X38 X499 := by rw [hX499]; exact Frm.set q503 (show 7500 ∈ [7100, 7200, 7300, 7400, 7500, 8000, 7000, 8100, 7700, 7800, 7900, 7600] by first | exact nlm_in rfl | decide)
                        have e505 : X499 76 0 4 = X497 76 0 4 := by rw [hX499, u3_k _ _ _ _ (by first | exact Nat.ne_of_beq_eq_false rfl | decide)]
                        have e506 : X499 70 0 4 = Xb 70 0 4 := by rw [hX499, u3_k _ _ _ _ (by first | exact Nat.ne_of_beq_eq_false rfl | decide), hG498 70 0 4 (show 7000 ∉ [8100, 7700, 7800, 7900, 7600] by first | exact nlm_ni rfl | decide), hX405, u3_k _ _ _ _ (by first | exact Nat.ne_of_beq_eq_false rfl | decide), hX402, u3_k _ _ _ _ (by first | exact Nat.ne_of_beq_eq_false rfl | decide)]
                        have q507 : Frm [7300, 7400, 7500, 7600, 7700, 7800, 7900, 8100] Xb X402 := by rw [hX402]; exact Frm.set Frm.rf (show 7300 ∈ [7300, 7400, 7500, 7600, 7700, 7800, 7900, 8100] by first | exact nlm_in rfl | decide)
                        have q508 : Frm [7300, 7400, 7500, 7600, 7700, 7800, 7900, 8100] Xb X405 := by rw [hX405]; exact Frm.set q507 (show 7400 ∈ [7300, 7400, 7500, 7600, 7700, 7800, 7900, 8100] by first | exact nlm_in rfl | decide)
                        have q509 : Frm [7300, 7400, 7500, 7600, 7700, 7800, 7900, 8100] Xb X497 := Frm.tr q508 (Frm.mono hG498 (by first | exact nls_of rfl | decide))
                        have q510 : Frm [7300, 7400, 7500, 7600, 7700, 7800, 7900, 8100] Xb X499 := by rw [hX499]; exact Frm.set q509 (show 7500 ∈ [7300, 7400, 7500, 7600, 7700, 7800, 7900, 8100] by first | exact nlm_in rfl | decide)
                        have hO511 : ordOK X499 := ordOK.of hOb q510 (by decide)
                        have q515 : S4 X38 X497 := S4.tr q900050 (S4.frm hG498 (by decide))
                        have q516 : S4 X38 X499 := by rw [hX499]; exact S4.set q515 ⟨by first | exact fun h => absurd h (Nat.ne_of_beq_eq_false rfl) | omega, by first | exact fun h => absurd h (Nat.ne_of_beq_eq_false rfl) | omega, by first | exact fun h => absurd h (Nat.ne_of_beq_eq_false rfl) | omega, by first | exact fun h => absurd h (Nat.ne_of_beq_eq_false rfl) | omega, by first | exact fun h => absurd h (Nat.ne_of_beq_eq_false rfl) | omega⟩
                        have f518 : 0 ≤ X499 70 0 4 ∧ X499 70 0 4 ≤ 30 := hRX499 70 0 4
                        have e519 : X499 74 0 (5 * (120 + r) + k) = (X 46 0 ((5 * (X 55 0 (Xa 80 0 r))) + k)) := (by rw [hX499, u3_k _ _ _ _ (by first | exact Nat.ne_of_beq_eq_false rfl | decide), hG498 74 0 (5 * (120 + r) + k) (show 7400 ∉ [8100, 7700, 7800, 7900, 7600] by first | exact nlm_ni rfl | decide)]; exact hVX405)
                        have hcq520 : cOK X499 r (k + 1) := cOK.push (cOK.of hcO (by omega) hRX499 (by rw [show X499 40 0 2 = Xb 40 0 2 from (by rw [hX499, u3_k _ _ _ _ (by first | exact Nat.ne_of_beq_eq_false rfl | decide), hG498 40 0 2 (show 4003 ∉ [8100, 7700, 7800, 7900, 7600] by first | exact nlm_ni rfl | decide), hX405, u3_k _ _ _ _ (by first | exact Nat.ne_of_beq_eq_false rfl | decide), hX402, u3_k _ _ _ _ (by first | exact Nat.ne_of_beq_eq_false rfl | decide)])]; exact Int.le_refl _) (by omega) (fun r1 a b => ⟨(by rw [hX499, u3_k _ _ _ _ (by first | exact Nat.ne_of_beq_eq_false rfl | decide), hG498 71 0 (120 + r1) (show 7100 ∉ [8100, 7700, 7800, 7900, 7600] by first | exact nlm_ni rfl | decide), hX405, u3_k _ _ _ _ (by first | exact Nat.ne_of_beq_eq_false rfl | decide), hX402, u3_k _ _ _ _ (by first | exact Nat.ne_of_beq_eq_false rfl | decide)]), (by rw [hX499, u3_k _ _ _ _ (by first | exact Nat.ne_of_beq_eq_false rfl | decide), hG498 72 0 (120 + r1) (show 7200 ∉ [8100, 7700, 7800, 7900, 7600] by first | exact nlm_ni rfl | decide), hX405, u3_k _ _ _ _ (by first | exact Nat.ne_of_beq_eq_false rfl | decide), hX402, u3_k _ _ _ _ (by first | exact Nat.ne_of_beq_eq_false rfl | decide)])⟩) (fun j hj => ⟨(by rw [hX499, u3_k _ _ _ _ (by first | exact Nat.ne_of_beq_eq_false rfl | decide), hG498 74 0 j (show 7400 ∉ [8100, 7700, 7800, 7900, 7600] by first | exact nlm_ni rfl | decide), hX405, u3_j _ _ _ _ (by omega), hX402, u3_k _ _ _ _ (by first | exact Nat.ne_of_beq_eq_false rfl | decide)]), (by rw [hX499, u3_j _ _ _ _ (by omega), hG498 75 0 j (show 7500 ∉ [8100, 7700, 7800, 7900, 7600] by first | exact nlm_ni rfl | decide), hX405, u3_k _ _ _ _ (by first | exact Nat.ne_of_beq_eq_false rfl | decide), hX402, u3_k _ _ _ _ (by first | exact Nat.ne_of_beq_eq_false rfl | decide)])⟩) (by omega)) (by unfold ty4; rw [e519, hVX499]; exact ⟨fun _ => by omega, fun _ => by omega, fun _ => by omega⟩)
                        have hla521 : lnM X (recR (fcM X) (lnM X) (mRid X) (mRid X) x r.toNat 1 r) k = X 46 0 (5 * X 55 0 (Xa 80 0 r) + k) := by rw [← hyo]; rfl
                        have hvl522 : mRid X (recR (fcM X) (lnM X) (mRid X) (mRid X) x r.toNat 1 r) k = X 56 0 (5 * Xa 80 0 r + k) := by rw [← hyo]; rfl
                        have q525 : Frm [7300, 7400, 7600, 7700, 7800, 7900, 8100] Xb X402 := by rw [hX402]; exact Frm.set Frm.rf (show 7300 ∈ [7300, 7400, 7600, 7700, 7800, 7900, 8100] by first | exact nlm_in rfl | decide)
                        have q526 : Frm [7300, 7400, 7600, 7700, 7800, 7900, 8100] Xb X405 := by rw [hX405]; exact Frm.set q525 (show 7400 ∈ [7300, 7400, 7600, 7700, 7800, 7900, 8100] by first | exact nlm_in rfl | decide)
                        have q527 : Frm [7300, 7400, 7600, 7700, 7800, 7900, 8100] Xb X497 := Frm.tr q526 (Frm.mono hG498 (by first | exact nls_of rfl | decide))
                        have hT524 : rmT X497 (recK (lnM X) (mRid X) (mRid X) (recR (fcM X) (lnM X) (mRid X) (mRid X) x r.toNat) r k.toNat) := rmT.of hTb (by rw [hG498 70 0 4 (show 7000 ∉ [8100, 7700, 7800, 7900, 7600] by first | exact nlm_ni rfl | decide), hX405, u3_k _ _ _ _ (by first | exact Nat.ne_of_beq_eq_false rfl | decide), hX402, u3_k _ _ _ _ (by first | exact Nat.ne_of_beq_eq_false rfl | decide)]) (Frm.arr q527 80 (by decide +kernel) (by decide)) rfl rfl
                        have hmr528 : mRid X405 = mRid X := by funext a9 b9; unfold mRid; rw [(Frm.arr q900054 56 (by decide +kernel) (by decide))]
                        have hst523 : mStp (lnM X) (mRid X) (mRid X) (recR (fcM X) (lnM X) (mRid X) (mRid X) x r.toNat 1 r) k (5 * r + k) X497 (recK (lnM X) (mRid X) (mRid X) (recR (fcM X) (lnM X) (mRid X) (mRid X) x r.toNat) r k.toNat) z494 := by have h8 := hRrX497; have h9 := hzrX497; rw [hmr528, hyo] at h8 h9; exact mStp_r (by rw [hla521]; omega) (by rw [hvl522]; omega) hT524 h8 h9
                        have q538 : Frm [7500] X497 X499 := by rw [hX499]; exact Frm.set Frm.rf (show 7500 ∈ [7500] by first | exact nlm_in rfl | decide)
                        have q554 : Frm [7000, 7100, 7200, 7300, 7400, 7500, 7600, 7700, 7800, 7900, 8000, 8100] X X497 := Frm.tr q900054 (Frm.mono hG498 (by first | exact nls_of rfl | decide))
                        have q555 : Frm [7000, 7100, 7200, 7300, 7400, 7500, 7600, 7700, 7800, 7900, 8000, 8100] X X499 := by rw [hX499]; exact Frm.set q554 (show 7500 ∈ [7000, 7100, 7200, 7300, 7400, 7500, 7600, 7700, 7800, 7900, 8000, 8100] by first | exact nlm_in rfl | decide)
                        have hms544 : mSt X X499 := mSt.of (L := [7000, 7100, 7200, 7300, 7400, 7500, 7600, 7700, 7800, 7900, 8000, 8100]) q555 (by decide)
                        have q574 : S5 X38 X497 := S5.tr q900056 h5X497
                        have q575 : S5 X38 X499 := by rw [hX499]; exact S5.set q574 ⟨by first | exact fun h => absurd h (Nat.ne_of_beq_eq_false rfl) | omega, by first | exact fun h => absurd h (Nat.ne_of_beq_eq_false rfl) | omega, by first | exact fun h => absurd h (Nat.ne_of_beq_eq_false rfl) | omega, by first | exact fun h => absurd h (Nat.ne_of_beq_eq_false rfl) | omega, by first | exact fun h => absurd h (Nat.ne_of_beq_eq_false rfl) | omega⟩
                        exact ih80 (k + 1) X499 _ _ _ (by omega) hRX499 q504 (by first | omega | (simp only [e505, e506]; omega)) (hO511) (q516) (by first | omega | (simp only [e505, e506]; omega)) (by first | omega | (simp only [e505, e506]; omega)) (hcq520) ((by rw [hX499, u3_k _ _ _ _ (by first | exact Nat.ne_of_beq_eq_false rfl | decide), hG498 71 0 (120 + r) (show 7100 ∉ [8100, 7700, 7800, 7900, 7600] by first | exact nlm_ni rfl | decide), hX405, u3_k _ _ _ _ (by first | exact Nat.ne_of_beq_eq_false rfl | decide), hX402, u3_k _ _ _ _ (by first | exact Nat.ne_of_beq_eq_false rfl | decide)]; exact h71)) ((by rw [hX499, u3_k _ _ _ _ (by first | exact Nat.ne_of_beq_eq_false rfl | decide), hG498 72 0 (120 + r) (show 7200 ∉ [8100, 7700, 7800, 7900, 7600] by first | exact nlm_ni rfl | decide), hX405, u3_k _ _ _ _ (by first | exact Nat.ne_of_beq_eq_false rfl | decide), hX402, u3_k _ _ _ _ (by first | exact Nat.ne_of_beq_eq_false rfl | decide)]; exact h72)) ((by rw [recK_s (by omega)]; exact rmT.of hst523.1 (by rw [hX499, u3_k _ _ _ _ (by first | exact Nat.ne_of_beq_eq_false rfl | decide)]) (Frm.arr q538 80 (by decide +kernel) (by decide)) rfl rfl)) ((by rw [recK_s (by omega)]; exact rmR.of hst523.2.1 (by rw [hX499, u3_k _ _ _ _ (by first | exact Nat.ne_of_beq_eq_false rfl | decide)]) (fun q9 hq9 => by simp only [List.mem_cons, List.not_mem_nil, or_false] at hq9; rcases hq9 with rfl | rfl | rfl | rfl | rfl | rfl | rfl | rfl <;> exact Frm.arr q538 _ (by decide +kernel) (by decide)) rfl rfl rfl)) ((by rw [recK_s (by omega)]; exact rmV.push hVb (mSt.of (L := [7300, 7400, 7500, 7600, 7700, 7800, 7900, 8100]) q510 (by decide)) ⟨by omega, by omega⟩ (by omega) (fun t => by rw [(Frm.arr q900018 44 (by decide +kernel) (by decide))]; exact hf55 t) (Frm.arr q510 71 (by decide +kernel) (by decide)) (Frm.arr q510 72 (by decide +kernel) (by decide)) (fun j hj => (by rw [hX499, u3_k _ _ _ _ (by first | exact Nat.ne_of_beq_eq_false rfl | decide), hG498 73 0 j (show 7300 ∉ [8100, 7700, 7800, 7900, 7600] by first | exact nlm_ni rfl | decide), hX405, u3_k _ _ _ _ (by first | exact Nat.ne_of_beq_eq_false rfl | decide), hX402, u3_j _ _ _ _ hj])) (fun j hj => (by rw [hX499, u3_k _ _ _ _ (by first | exact Nat.ne_of_beq_eq_false rfl | decide), hG498 74 0 j (show 7400 ∉ [8100, 7700, 7800, 7900, 7600] by first | exact nlm_ni rfl | decide), hX405, u3_j _ _ _ _ hj, hX402, u3_k _ _ _ _ (by first | exact Nat.ne_of_beq_eq_false rfl | decide)])) (fun j hj => (by rw [hX499, u3_j _ _ _ _ hj, hG498 75 0 j (show 7500 ∉ [8100, 7700, 7800, 7900, 7600] by first | exact nlm_ni rfl | decide), hX405, u3_k _ _ _ _ (by first | exact Nat.ne_of_beq_eq_false rfl | decide), hX402, u3_k _ _ _ _ (by first | exact Nat.ne_of_beq_eq_false rfl | decide)])) (fun q a b => recP_o ⟨a, by omega⟩) (fun q hq => recP_5 hq) ⟨(by rw [recP_o ⟨by omega, by omega⟩, recK_o _ ⟨by omega, by omega⟩, ← hyo, hms544.2.1, hms544.2.2.2]; exact (by rw [hX499, u3_k _ _ _ _ (by first | exact Nat.ne_of_beq_eq_false rfl | decide), hG498 73 0 (5 * (120 + r) + k) (show 7300 ∉ [8100, 7700, 7800, 7900, 7600] by first | exact nlm_ni rfl | decide), hX405, u3_k _ _ _ _ (by first | exact Nat.ne_of_beq_eq_false rfl | decide)]; rw [hVX402])), (by rw [recP_o ⟨by omega, by omega⟩, recK_o _ ⟨by omega, by omega⟩, ← hyo]; unfold lnM; rw [hms544.2.2.1, hms544.2.2.2]; exact (by rw [hX499, u3_k _ _ _ _ (by first | exact Nat.ne_of_beq_eq_false rfl | decide), hG498 74 0 (5 * (120 + r) + k) (show 7400 ∉ [8100, 7700, 7800, 7900, 7600] by first | exact nlm_ni rfl | decide)]; rw [hVX405])), (by rw [hVX499]; exact hst523.2.2)⟩)) ((by rw [hX499, u3_k _ _ _ _ (by first | exact Nat.ne_of_beq_eq_false rfl | decide), hG498 71 0 (120 + r) (show 7100 ∉ [8100, 7700, 7800, 7900, 7600] by first | exact nlm_ni rfl | decide), hX405, u3_k _ _ _ _ (by first | exact Nat.ne_of_beq_eq_false rfl | decide), hX402, u3_k _ _ _ _ (by first | exact Nat.ne_of_beq_eq_false rfl | decide)]; exact h71b)) (by first | omega | (simp only [e505, e506]; omega)) (fun h9 k' a b => if hk9 : k' = k then (by rw [hk9]; omega) else hnk h9 k' a (by omega)) (q575) hw hS (lv_sub hl [3, 4, 5, 6, 7, 8, 0] rfl)
                      · refine lv_aload_n hx hb dX9_saves_235 rfl (lv_at hl 2 rfl) ?_
                        refine lv_iconst (v := jI 4) hx hb dX9_saves_236 rfl ?_
                        refine lv_lload hx hb dX9_saves_237 (lv_at hl 0 rfl) ?_
                        refine x_l2i hx hb dX9_saves_239 ?_
                        have hMq585 : MInv X405 := minv_s4 hMI hRX405 hFX405 q900058 (by decide)
                        have hO588 : ordOK X405 := ordOK.of hOb q900052 (by decide)
                        have e589 : X405 40 0 13 = X 40 0 13 := by rw [hX405, u3_k _ _ _ _ (by first | exact Nat.ne_of_beq_eq_false rfl | decide), hX402, u3_k _ _ _ _ (by first | exact Nat.ne_of_beq_eq_false rfl | decide), hGXb 40 0 13 (show 4014 ∉ [7100, 7200, 7300, 7400, 7500, 8000, 7000, 8100, 7700, 7800, 7900, 7600] by first | exact nlm_ni rfl | decide), hX38, u3_k _ _ _ _ (by first | exact Nat.ne_of_beq_eq_false rfl | decide), hX35, u3_k _ _ _ _ (by first | exact Nat.ne_of_beq_eq_false rfl | decide), hGXa 40 0 13 (show 4014 ∉ [7100, 7200, 7300, 7400, 7500, 8000, 7000, 8100, 7700, 7800, 7900, 7600] by first | exact nlm_ni rfl | decide), hG13 40 0 13 (show 4014 ∉ [8000, 7000] by first | exact nlm_ni rfl | decide), hX2, u3_k _ _ _ _ (by first | exact Nat.ne_of_beq_eq_false rfl | decide), hX1, u3_k _ _ _ _ (by first | exact Nat.ne_of_beq_eq_false rfl | decide)]
                        have hT590 : rmT X405 (recK (lnM X) (mRid X) (mRid X) (recR (fcM X) (lnM X) (mRid X) (mRid X) x r.toNat) r k.toNat) := rmT.of hTb (by rw [hX405, u3_k _ _ _ _ (by first | exact Nat.ne_of_beq_eq_false rfl | decide), hX402, u3_k _ _ _ _ (by first | exact Nat.ne_of_beq_eq_false rfl | decide)]) (Frm.arr q900052 80 (by decide +kernel) (by decide)) rfl rfl
                        refine gos_i (run_V (As := [.int (jI 4), .int (jI (X 56 0 ((5 * (Xa 80 0 r)) + k)))]) (rest := [.int (jI ((5 * (120 + r)) + k)), .ref (ad 75 0)]) hx hb hml hown hts (c_X9_recordOf l D tc base ad cnt X405 Y ln hRX405 hFx hMq585 (X 56 0 ((5 * (Xa 80 0 r)) + k)) (by omega) (by simp only [e589]; omega) hO588 (recK (lnM X) (mRid X) (mRid X) (recR (fcM X) (lnM X) (mRid X) (mRid X) x r.toNat) r k.toNat) hT590) (cwV 2 hts gX9_saves_X9_recordOf rfl rfl rfl (by first | exact hd_X9_recordOf | decide +kernel) ⟨Nat.le_of_ble_eq_true rfl, Nat.le_of_ble_eq_true rfl⟩) hK hw (by first | exact Int.le_refl 0 | omega) (by first | exact zlt hc40 | omega) sl_40_0 rfl rfl hl.1 rfl (Nat.le_of_ble_eq_true rfl) dX9_saves_240 ⟨Nat.le_of_ble_eq_true rfl, Nat.le_of_ble_eq_true rfl⟩) hS (fun z593 u594 H locs p595 hw hS => ?_)
                        have e596 : X405 70 0 4 = Xb 70 0 4 := by rw [hX405, u3_k _ _ _ _ (by first | exact Nat.ne_of_beq_eq_false rfl | decide), hX402, u3_k _ _ _ _ (by first | exact Nat.ne_of_beq_eq_false rfl | decide)]
                        obtain ⟨X597, eu594, hRX597, hG598, hMIX597, p595, h4X597, hOX597, hleX597, hzrX597, hTrX597⟩ := p595
                        subst eu594
                        have hFX597 : Frm [7100, 7200, 7300, 7400, 7500, 8000, 7000, 8100, 7700, 7800, 7900, 7600, 4042, 4043, 4044] X X597 := Frm.tr hFX405 (Frm.mono hG598 (by first | exact nls_of rfl | decide))
                        simp only [e596] at hleX597
                        refine x_i2l hx hb (by omega) dX9_saves_243 ?_
                        refine lv_goto (tgt := 256) hx hb dX9_saves_244 (by decide) ?_
                        refine x_last hx hb hK.1 hw hS (by first | exact Int.le_refl 0 | omega) (by first | exact zlt hc75 | omega) ar_75 (len_E ar_75 (by first | exact Nat.ne_of_beq_eq_false rfl | decide)) (by omega) (by omega) (by omega) dX9_saves_256 (fun H locs hw hS => ?_)
                        obtain ⟨X599, hX599⟩ : ∃ Xq, Xq = u3 X597 75 0 ((5 * (120 + r)) + k) z593 := ⟨_, rfl⟩
                        rw [← hX599] at hw
                        have hRX599 : Rng X599 := by rw [hX599]; exact rng_set hRX597 (show (-9223372036854775808) ≤ z593 ∧ z593 ≤ 9223372036854775807 by omega)
                        have hVX599 : X599 75 0 ((5 * (120 + r)) + k) = z593 := by rw [hX599]; exact u3_s _ _ _ _ _
                        have hFX599 : Frm [7100, 7200, 7300, 7400, 7500, 8000, 7000, 8100, 7700, 7800, 7900, 7600, 4042, 4043, 4044] X X599 := by rw [hX599]; exact Frm.set hFX597 (show 7500 ∈ [7100, 7200, 7300, 7400, 7500, 8000, 7000, 8100, 7700, 7800, 7900, 7600, 4042, 4043, 4044] by first | exact nlm_in rfl | decide)
                        refine lv_iinc (v := jI (k + 1)) (lv' := [(6, .int (jI (k + 1))), (8, .long (jL (X 56 0 ((5 * (Xa 80 0 r)) + k)))), (7, .int (jI ((5 * (120 + r)) + k))), (0, .ref (ad 40 0)), (1, .int (jI x)), (2, .int (jI shut)), (3, .int (jI r)), (4, .int (jI (Xa 80 0 r))), (5, .int (jI (X 55 0 (Xa 80 0 r))))]) hx hb dX9_saves_257 hl (k := 8) rfl (jI_add _ _) (by decide) rfl (fun ls hl => ?_)
                        refine lv_goto (tgt := 80) hx hb dX9_saves_260 (by decide) ?_
                        have q603 : Frm [7100, 7200, 7300, 7400, 7500, 8000, 7000, 8100, 7700, 7800, 7900, 7600] X38 X597 := Frm.tr q900046 (Frm.mono hG598 (by first | exact nls_of rfl | decide))
                        have q604 : Frm [7100, 7200, 7300, 7400, 7500, 8000, 7000, 8100, 7700, 7800, 7900, 7600] X38 X599 := by rw [hX599]; exact Frm.set q603 (show 7500 ∈ [7100, 7200, 7300, 7400, 7500, 8000, 7000, 8100, 7700, 7800, 7900, 7600] by first | exact nlm_in rfl | decide)
                        have e605 : X599 76 0 4 = Xb 76 0 4 := by rw [hX599, u3_k _ _ _ _ (by first | exact Nat.ne_of_beq_eq_false rfl | decide), hG598 76 0 4 (show 7600 ∉ [8000, 7000] by first | exact nlm_ni rfl | decide), hX405, u3_k _ _ _ _ (by first | exact Nat.ne_of_beq_eq_false rfl | decide), hX402, u3_k _ _ _ _ (by first | exact Nat.ne_of_beq_eq_false rfl | decide)]
                        have e606 : X599 70 0 4 = X597 70 0 4 := by rw [hX599, u3_k _ _ _ _ (by first | exact Nat.ne_of_beq_eq_false rfl | decide)]
                        have q607 : Frm [7500] X597 X599 := by rw [hX599]; exact Frm.set Frm.rf (show 7500 ∈ [7500] by first | exact nlm_in rfl | decide)
                        have hO608 : ordOK X599 := ordOK.of hOX597 q607 (by decide)
                        have q612 : S4 X38 X597 := S4.tr q900050 h4X597
                        have q613 : S4 X38 X599 := by rw [hX599]; exact S4.set q612 ⟨by first | exact fun h => absurd h (Nat.ne_of_beq_eq_false rfl) | omega, by first | exact fun h => absurd h (Nat.ne_of_beq_eq_false rfl) | omega, by first | exact fun h => absurd h (Nat.ne_of_beq_eq_false rfl) | omega, by first | exact fun h => absurd h (Nat.ne_of_beq_eq_false rfl) | omega, by first | exact fun h => absurd h (Nat.ne_of_beq_eq_false rfl) | omega⟩
                        have f615 : 0 ≤ X599 70 0 4 ∧ X599 70 0 4 ≤ 30 := hRX599 70 0 4
                        have e616 : X599 74 0 (5 * (120 + r) + k) = (X 46 0 ((5 * (X 55 0 (Xa 80 0 r))) + k)) := (by rw [hX599, u3_k _ _ _ _ (by first | exact Nat.ne_of_beq_eq_false rfl | decide), hG598 74 0 (5 * (120 + r) + k) (show 7400 ∉ [8000, 7000] by first | exact nlm_ni rfl | decide)]; exact hVX405)
                        have hcq617 : cOK X599 r (k + 1) := cOK.push (cOK.of hcO (by omega) hRX599 (by rw [show X599 40 0 2 = Xb 40 0 2 from (by rw [hX599, u3_k _ _ _ _ (by first | exact Nat.ne_of_beq_eq_false rfl | decide), hG598 40 0 2 (show 4003 ∉ [8000, 7000] by first | exact nlm_ni rfl | decide), hX405, u3_k _ _ _ _ (by first | exact Nat.ne_of_beq_eq_false rfl | decide), hX402, u3_k _ _ _ _ (by first | exact Nat.ne_of_beq_eq_false rfl | decide)])]; exact Int.le_refl _) (by omega) (fun r1 a b => ⟨(by rw [hX599, u3_k _ _ _ _ (by first | exact Nat.ne_of_beq_eq_false rfl | decide), hG598 71 0 (120 + r1) (show 7100 ∉ [8000, 7000] by first | exact nlm_ni rfl | decide), hX405, u3_k _ _ _ _ (by first | exact Nat.ne_of_beq_eq_false rfl | decide), hX402, u3_k _ _ _ _ (by first | exact Nat.ne_of_beq_eq_false rfl | decide)]), (by rw [hX599, u3_k _ _ _ _ (by first | exact Nat.ne_of_beq_eq_false rfl | decide), hG598 72 0 (120 + r1) (show 7200 ∉ [8000, 7000] by first | exact nlm_ni rfl | decide), hX405, u3_k _ _ _ _ (by first | exact Nat.ne_of_beq_eq_false rfl | decide), hX402, u3_k _ _ _ _ (by first | exact Nat.ne_of_beq_eq_false rfl | decide)])⟩) (fun j hj => ⟨(by rw [hX599, u3_k _ _ _ _ (by first | exact Nat.ne_of_beq_eq_false rfl | decide), hG598 74 0 j (show 7400 ∉ [8000, 7000] by first | exact nlm_ni rfl | decide), hX405, u3_j _ _ _ _ (by omega), hX402, u3_k _ _ _ _ (by first | exact Nat.ne_of_beq_eq_false rfl | decide)]), (by rw [hX599, u3_j _ _ _ _ (by omega), hG598 75 0 j (show 7500 ∉ [8000, 7000] by first | exact nlm_ni rfl | decide), hX405, u3_k _ _ _ _ (by first | exact Nat.ne_of_beq_eq_false rfl | decide), hX402, u3_k _ _ _ _ (by first | exact Nat.ne_of_beq_eq_false rfl | decide)])⟩) (by omega)) (by unfold ty4; rw [e616, hVX599]; exact ⟨fun _ => by omega, fun _ => by omega, fun _ => by omega⟩)
                        have hla618 : lnM X (recR (fcM X) (lnM X) (mRid X) (mRid X) x r.toNat 1 r) k = X 46 0 (5 * X 55 0 (Xa 80 0 r) + k) := by rw [← hyo]; rfl
                        have hvl619 : mRid X (recR (fcM X) (lnM X) (mRid X) (mRid X) x r.toNat 1 r) k = X 56 0 (5 * Xa 80 0 r + k) := by rw [← hyo]; rfl
                        have q622 : Frm [7000, 7300, 7400, 8000] Xb X402 := by rw [hX402]; exact Frm.set Frm.rf (show 7300 ∈ [7000, 7300, 7400, 8000] by first | exact nlm_in rfl | decide)
                        have q623 : Frm [7000, 7300, 7400, 8000] Xb X405 := by rw [hX405]; exact Frm.set q622 (show 7400 ∈ [7000, 7300, 7400, 8000] by first | exact nlm_in rfl | decide)
                        have q624 : Frm [7000, 7300, 7400, 8000] Xb X597 := Frm.tr q623 (Frm.mono hG598 (by first | exact nls_of rfl | decide))
                        have hR9621 : rmR X597 (recK (lnM X) (mRid X) (mRid X) (recR (fcM X) (lnM X) (mRid X) (mRid X) x r.toNat) r k.toNat) := rmR.of hRb9 (by rw [hG598 76 0 4 (show 7600 ∉ [8000, 7000] by first | exact nlm_ni rfl | decide), hX405, u3_k _ _ _ _ (by first | exact Nat.ne_of_beq_eq_false rfl | decide), hX402, u3_k _ _ _ _ (by first | exact Nat.ne_of_beq_eq_false rfl | decide)]) (fun q9 hq9 => by simp only [List.mem_cons, List.not_mem_nil, or_false] at hq9; rcases hq9 with rfl | rfl | rfl | rfl | rfl | rfl | rfl | rfl <;> exact Frm.arr q624 _ (by decide +kernel) (by decide)) rfl rfl rfl
                        have hst620 : mStp (lnM X) (mRid X) (mRid X) (recR (fcM X) (lnM X) (mRid X) (mRid X) x r.toNat 1 r) k (5 * r + k) X597 (recK (lnM X) (mRid X) (mRid X) (recR (fcM X) (lnM X) (mRid X) (mRid X) x r.toNat) r k.toNat) z593 := by have h8 := hTrX597; have h9 := hzrX597; rw [hyo] at h8 h9; exact mStp_t (by rw [hla618]; omega) (by rw [hvl619]; omega) h8 hR9621 h9
                        have q627 : Frm [7000, 7300, 7400, 7500, 8000] Xb X402 := by rw [hX402]; exact Frm.set Frm.rf (show 7300 ∈ [7000, 7300, 7400, 7500, 8000] by first | exact nlm_in rfl | decide)
                        have q628 : Frm [7000, 7300, 7400, 7500, 8000] Xb X405 := by rw [hX405]; exact Frm.set q627 (show 7400 ∈ [7000, 7300, 7400, 7500, 8000] by first | exact nlm_in rfl | decide)
                        have q629 : Frm [7000, 7300, 7400, 7500, 8000] Xb X597 := Frm.tr q628 (Frm.mono hG598 (by first | exact nls_of rfl | decide))
                        have q630 : Frm [7000, 7300, 7400, 7500, 8000] Xb X599 := by rw [hX599]; exact Frm.set q629 (show 7500 ∈ [7000, 7300, 7400, 7500, 8000] by first | exact nlm_in rfl | decide)
                        have q641 : Frm [7000, 7100, 7200, 7300, 7400, 7500, 7600, 7700, 7800, 7900, 8000, 8100] X X597 := Frm.tr q900054 (Frm.mono hG598 (by first | exact nls_of rfl | decide))
                        have q642 : Frm [7000, 7100, 7200, 7300, 7400, 7500, 7600, 7700, 7800, 7900, 8000, 8100] X X599 := by rw [hX599]; exact Frm.set q641 (show 7500 ∈ [7000, 7100, 7200, 7300, 7400, 7500, 7600, 7700, 7800, 7900, 8000, 8100] by first | exact nlm_in rfl | decide)
                        have hms631 : mSt X X599 := mSt.of (L := [7000, 7100, 7200, 7300, 7400, 7500, 7600, 7700, 7800, 7900, 8000, 8100]) q642 (by decide)
                        have q661 : S5 X38 X597 := S5.tr q900056 (S5.frm hG598 (by decide))
                        have q662 : S5 X38 X599 := by rw [hX599]; exact S5.set q661 ⟨by first | exact fun h => absurd h (Nat.ne_of_beq_eq_false rfl) | omega, by first | exact fun h => absurd h (Nat.ne_of_beq_eq_false rfl) | omega, by first | exact fun h => absurd h (Nat.ne_of_beq_eq_false rfl) | omega, by first | exact fun h => absurd h (Nat.ne_of_beq_eq_false rfl) | omega, by first | exact fun h => absurd h (Nat.ne_of_beq_eq_false rfl) | omega⟩
                        exact ih80 (k + 1) X599 _ _ _ (by omega) hRX599 q604 (by first | omega | (simp only [e605, e606]; omega)) (hO608) (q613) (by first | omega | (simp only [e605, e606]; omega)) (by first | omega | (simp only [e605, e606]; omega)) (hcq617) ((by rw [hX599, u3_k _ _ _ _ (by first | exact Nat.ne_of_beq_eq_false rfl | decide), hG598 71 0 (120 + r) (show 7100 ∉ [8000, 7000] by first | exact nlm_ni rfl | decide), hX405, u3_k _ _ _ _ (by first | exact Nat.ne_of_beq_eq_false rfl | decide), hX402, u3_k _ _ _ _ (by first | exact Nat.ne_of_beq_eq_false rfl | decide)]; exact h71)) ((by rw [hX599, u3_k _ _ _ _ (by first | exact Nat.ne_of_beq_eq_false rfl | decide), hG598 72 0 (120 + r) (show 7200 ∉ [8000, 7000] by first | exact nlm_ni rfl | decide), hX405, u3_k _ _ _ _ (by first | exact Nat.ne_of_beq_eq_false rfl | decide), hX402, u3_k _ _ _ _ (by first | exact Nat.ne_of_beq_eq_false rfl | decide)]; exact h72)) ((by rw [recK_s (by omega)]; exact rmT.of hst620.1 (by rw [hX599, u3_k _ _ _ _ (by first | exact Nat.ne_of_beq_eq_false rfl | decide)]) (Frm.arr q607 80 (by decide +kernel) (by decide)) rfl rfl)) ((by rw [recK_s (by omega)]; exact rmR.of hst620.2.1 (by rw [hX599, u3_k _ _ _ _ (by first | exact Nat.ne_of_beq_eq_false rfl | decide)]) (fun q9 hq9 => by simp only [List.mem_cons, List.not_mem_nil, or_false] at hq9; rcases hq9 with rfl | rfl | rfl | rfl | rfl | rfl | rfl | rfl <;> exact Frm.arr q607 _ (by decide +kernel) (by decide)) rfl rfl rfl)) ((by rw [recK_s (by omega)]; exact rmV.push hVb (mSt.of (L := [7000, 7300, 7400, 7500, 8000]) q630 (by decide)) ⟨by omega, by omega⟩ (by omega) (fun t => by rw [(Frm.arr q900018 44 (by decide +kernel) (by decide))]; exact hf55 t) (Frm.arr q630 71 (by decide +kernel) (by decide)) (Frm.arr q630 72 (by decide +kernel) (by decide)) (fun j hj => (by rw [hX599, u3_k _ _ _ _ (by first | exact Nat.ne_of_beq_eq_false rfl | decide), hG598 73 0 j (show 7300 ∉ [8000, 7000] by first | exact nlm_ni rfl | decide), hX405, u3_k _ _ _ _ (by first | exact Nat.ne_of_beq_eq_false rfl | decide), hX402, u3_j _ _ _ _ hj])) (fun j hj => (by rw [hX599, u3_k _ _ _ _ (by first | exact Nat.ne_of_beq_eq_false rfl | decide), hG598 74 0 j (show 7400 ∉ [8000, 7000] by first | exact nlm_ni rfl | decide), hX405, u3_j _ _ _ _ hj, hX402, u3_k _ _ _ _ (by first | exact Nat.ne_of_beq_eq_false rfl | decide)])) (fun j hj => (by rw [hX599, u3_j _ _ _ _ hj, hG598 75 0 j (show 7500 ∉ [8000, 7000] by first | exact nlm_ni rfl | decide), hX405, u3_k _ _ _ _ (by first | exact Nat.ne_of_beq_eq_false rfl | decide), hX402, u3_k _ _ _ _ (by first | exact Nat.ne_of_beq_eq_false rfl | decide)])) (fun q a b => recP_o ⟨a, by omega⟩) (fun q hq => recP_5 hq) ⟨(by rw [recP_o ⟨by omega, by omega⟩, recK_o _ ⟨by omega, by omega⟩, ← hyo, hms631.2.1, hms631.2.2.2]; exact (by rw [hX599, u3_k _ _ _ _ (by first | exact Nat.ne_of_beq_eq_false rfl | decide), hG598 73 0 (5 * (120 + r) + k) (show 7300 ∉ [8000, 7000] by first | exact nlm_ni rfl | decide), hX405, u3_k _ _ _ _ (by first | exact Nat.ne_of_beq_eq_false rfl | decide)]; rw [hVX402])), (by rw [recP_o ⟨by omega, by omega⟩, recK_o _ ⟨by omega, by omega⟩, ← hyo]; unfold lnM; rw [hms631.2.2.1, hms631.2.2.2]; exact (by rw [hX599, u3_k _ _ _ _ (by first | exact Nat.ne_of_beq_eq_false rfl | decide), hG598 74 0 (5 * (120 + r) + k) (show 7400 ∉ [8000, 7000] by first | exact nlm_ni rfl | decide)]; rw [hVX405])), (by rw [hVX599]; exact hst620.2.2)⟩)) ((by rw [hX599, u3_k _ _ _ _ (by first | exact Nat.ne_of_beq_eq_false rfl | decide), hG598 71 0 (120 + r) (show 7100 ∉ [8000, 7000] by first | exact nlm_ni rfl | decide), hX405, u3_k _ _ _ _ (by first | exact Nat.ne_of_beq_eq_false rfl | decide), hX402, u3_k _ _ _ _ (by first | exact Nat.ne_of_beq_eq_false rfl | decide)]; exact h71b)) (by first | omega | (simp only [e605, e606]; omega)) (fun h9 k' a b => if hk9 : k' = k then (by rw [hk9]; omega) else hnk h9 k' a (by omega)) (q662) hw hS (lv_sub hl [3, 4, 5, 6, 7, 8, 0] rfl)
                    · replace c469 := cz_geF gz468 c469
                      clear gz468
                      refine lv_lload hx hb dX9_saves_219 (lv_at hl 0 rfl) ?_
                      refine lv_goto (tgt := 256) hx hb dX9_saves_221 (by decide) ?_
                      refine x_last hx hb hK.1 hw hS (by first | exact Int.le_refl 0 | omega) (by first | exact zlt hc75 | omega) ar_75 (len_E ar_75 (by first | exact Nat.ne_of_beq_eq_false rfl | decide)) (by omega) (by omega) (by omega) dX9_saves_256 (fun H locs hw hS => ?_)
                      obtain ⟨X663, hX663⟩ : ∃ Xq, Xq = u3 X405 75 0 ((5 * (120 + r)) + k) (X 56 0 ((5 * (Xa 80 0 r)) + k)) := ⟨_, rfl⟩
                      rw [← hX663] at hw
                      have hRX663 : Rng X663 := by rw [hX663]; exact rng_set hRX405 (show (-9223372036854775808) ≤ (X 56 0 ((5 * (Xa 80 0 r)) + k)) ∧ (X 56 0 ((5 * (Xa 80 0 r)) + k)) ≤ 9223372036854775807 by omega)
                      have hVX663 : X663 75 0 ((5 * (120 + r)) + k) = (X 56 0 ((5 * (Xa 80 0 r)) + k)) := by rw [hX663]; exact u3_s _ _ _ _ _
                      have hFX663 : Frm [7100, 7200, 7300, 7400, 7500, 8000, 7000, 8100, 7700, 7800, 7900, 7600, 4042, 4043, 4044] X X663 := by rw [hX663]; exact Frm.set hFX405 (show 7500 ∈ [7100, 7200, 7300, 7400, 7500, 8000, 7000, 8100, 7700, 7800, 7900, 7600, 4042, 4043, 4044] by first | exact nlm_in rfl | decide)
                      refine lv_iinc (v := jI (k + 1)) (lv' := [(6, .int (jI (k + 1))), (8, .long (jL (X 56 0 ((5 * (Xa 80 0 r)) + k)))), (7, .int (jI ((5 * (120 + r)) + k))), (0, .ref (ad 40 0)), (1, .int (jI x)), (2, .int (jI shut)), (3, .int (jI r)), (4, .int (jI (Xa 80 0 r))), (5, .int (jI (X 55 0 (Xa 80 0 r))))]) hx hb dX9_saves_257 hl (k := 8) rfl (jI_add _ _) (by decide) rfl (fun ls hl => ?_)
                      refine lv_goto (tgt := 80) hx hb dX9_saves_260 (by decide) ?_
                      have q667 : Frm [7100, 7200, 7300, 7400, 7500, 8000, 7000, 8100, 7700, 7800, 7900, 7600] X38 X663 := by rw [hX663]; exact Frm.set q900046 (show 7500 ∈ [7100, 7200, 7300, 7400, 7500, 8000, 7000, 8100, 7700, 7800, 7900, 7600] by first | exact nlm_in rfl | decide)
                      have e668 : X663 76 0 4 = Xb 76 0 4 := by rw [hX663, u3_k _ _ _ _ (by first | exact Nat.ne_of_beq_eq_false rfl | decide), hX405, u3_k _ _ _ _ (by first | exact Nat.ne_of_beq_eq_false rfl | decide), hX402, u3_k _ _ _ _ (by first | exact Nat.ne_of_beq_eq_false rfl | decide)]
                      have e669 : X663 70 0 4 = Xb 70 0 4 := by rw [hX663, u3_k _ _ _ _ (by first | exact Nat.ne_of_beq_eq_false rfl | decide), hX405, u3_k _ _ _ _ (by first | exact Nat.ne_of_beq_eq_false rfl | decide), hX402, u3_k _ _ _ _ (by first | exact Nat.ne_of_beq_eq_false rfl | decide)]
                      have q672 : Frm [7300, 7400, 7500] Xb X663 := by rw [hX663]; exact Frm.set q900048 (show 7500 ∈ [7300, 7400, 7500] by first | exact nlm_in rfl | decide)
                      have hO673 : ordOK X663 := ordOK.of hOb q672 (by decide)
                      have q677 : S4 X38 X663 := by rw [hX663]; exact S4.set q900050 ⟨by first | exact fun h => absurd h (Nat.ne_of_beq_eq_false rfl) | omega, by first | exact fun h => absurd h (Nat.ne_of_beq_eq_false rfl) | omega, by first | exact fun h => absurd h (Nat.ne_of_beq_eq_false rfl) | omega, by first | exact fun h => absurd h (Nat.ne_of_beq_eq_false rfl) | omega, by first | exact fun h => absurd h (Nat.ne_of_beq_eq_false rfl) | omega⟩
                      have f679 : 0 ≤ X663 70 0 4 ∧ X663 70 0 4 ≤ 30 := hRX663 70 0 4
                      have e680 : X663 74 0 (5 * (120 + r) + k) = (X 46 0 ((5 * (X 55 0 (Xa 80 0 r))) + k)) := (by rw [hX663, u3_k _ _ _ _ (by first | exact Nat.ne_of_beq_eq_false rfl | decide)]; exact hVX405)
                      have hcq681 : cOK X663 r (k + 1) := cOK.push (cOK.of hcO (by omega) hRX663 (by rw [show X663 40 0 2 = Xb 40 0 2 from (by rw [hX663, u3_k _ _ _ _ (by first | exact Nat.ne_of_beq_eq_false rfl | decide), hX405, u3_k _ _ _ _ (by first | exact Nat.ne_of_beq_eq_false rfl | decide), hX402, u3_k _ _ _ _ (by first | exact Nat.ne_of_beq_eq_false rfl | decide)])]; exact Int.le_refl _) (by omega) (fun r1 a b => ⟨(by rw [hX663, u3_k _ _ _ _ (by first | exact Nat.ne_of_beq_eq_false rfl | decide), hX405, u3_k _ _ _ _ (by first | exact Nat.ne_of_beq_eq_false rfl | decide), hX402, u3_k _ _ _ _ (by first | exact Nat.ne_of_beq_eq_false rfl | decide)]), (by rw [hX663, u3_k _ _ _ _ (by first | exact Nat.ne_of_beq_eq_false rfl | decide), hX405, u3_k _ _ _ _ (by first | exact Nat.ne_of_beq_eq_false rfl | decide), hX402, u3_k _ _ _ _ (by first | exact Nat.ne_of_beq_eq_false rfl | decide)])⟩) (fun j hj => ⟨(by rw [hX663, u3_k _ _ _ _ (by first | exact Nat.ne_of_beq_eq_false rfl | decide), hX405, u3_j _ _ _ _ (by omega), hX402, u3_k _ _ _ _ (by first | exact Nat.ne_of_beq_eq_false rfl | decide)]), (by rw [hX663, u3_j _ _ _ _ (by omega), hX405, u3_k _ _ _ _ (by first | exact Nat.ne_of_beq_eq_false rfl | decide), hX402, u3_k _ _ _ _ (by first | exact Nat.ne_of_beq_eq_false rfl | decide)])⟩) (by omega)) (by unfold ty4; rw [e680, hVX663]; exact ⟨fun _ => by omega, fun _ => by omega, fun _ => by omega⟩)
                      have hla682 : lnM X (recR (fcM X) (lnM X) (mRid X) (mRid X) x r.toNat 1 r) k = X 46 0 (5 * X 55 0 (Xa 80 0 r) + k) := by rw [← hyo]; rfl
                      have hvl683 : mRid X (recR (fcM X) (lnM X) (mRid X) (mRid X) x r.toNat 1 r) k = X 56 0 (5 * Xa 80 0 r + k) := by rw [← hyo]; rfl
                      have hT685 : rmT X405 (recK (lnM X) (mRid X) (mRid X) (recR (fcM X) (lnM X) (mRid X) (mRid X) x r.toNat) r k.toNat) := rmT.of hTb (by rw [hX405, u3_k _ _ _ _ (by first | exact Nat.ne_of_beq_eq_false rfl | decide), hX402, u3_k _ _ _ _ (by first | exact Nat.ne_of_beq_eq_false rfl | decide)]) (Frm.arr q900052 80 (by decide +kernel) (by decide)) rfl rfl
                      have hR9688 : rmR X405 (recK (lnM X) (mRid X) (mRid X) (recR (fcM X) (lnM X) (mRid X) (mRid X) x r.toNat) r k.toNat) := rmR.of hRb9 (by rw [hX405, u3_k _ _ _ _ (by first | exact Nat.ne_of_beq_eq_false rfl | decide), hX402, u3_k _ _ _ _ (by first | exact Nat.ne_of_beq_eq_false rfl | decide)]) (fun q9 hq9 => by simp only [List.mem_cons, List.not_mem_nil, or_false] at hq9; rcases hq9 with rfl | rfl | rfl | rfl | rfl | rfl | rfl | rfl <;> exact Frm.arr q900052 _ (by decide +kernel) (by decide)) rfl rfl rfl
                      have hst684 : mStp (lnM X) (mRid X) (mRid X) (recR (fcM X) (lnM X) (mRid X) (mRid X) x r.toNat 1 r) k (5 * r + k) X405 (recK (lnM X) (mRid X) (mRid X) (recR (fcM X) (lnM X) (mRid X) (mRid X) x r.toNat) r k.toNat) (X 56 0 ((5 * (Xa 80 0 r)) + k)) := by first | exact mStp_v hT685 hR9688 (by rw [recP_1 (by rw [hla682]; omega), hvl683]) | (rw [show ((X 56 0 ((5 * (Xa 80 0 r)) + k)) : Int) = -1 by omega]; rcases (show X 46 0 (5 * X 55 0 (Xa 80 0 r) + k) = 2 ∨ 3 ≤ X 46 0 (5 * X 55 0 (Xa 80 0 r) + k) by omega) with h2 | h2; exact mStp_v hT685 hR9688 (recP_2n (by rw [hla682]; exact h2) (by rw [hvl683]; omega)); exact mStp_v hT685 hR9688 (recP_3n (by rw [hla682]; exact h2) (by rw [hvl683]; omega)))
                      have q691 : Frm [7500] X405 X663 := by rw [hX663]; exact Frm.set Frm.rf (show 7500 ∈ [7500] by first | exact nlm_in rfl | decide)
                      have q706 : Frm [7000, 7100, 7200, 7300, 7400, 7500, 7600, 7700, 7800, 7900, 8000, 8100] X X663 := by rw [hX663]; exact Frm.set q900054 (show 7500 ∈ [7000, 7100, 7200, 7300, 7400, 7500, 7600, 7700, 7800, 7900, 8000, 8100] by first | exact nlm_in rfl | decide)
                      have hms696 : mSt X X663 := mSt.of (L := [7000, 7100, 7200, 7300, 7400, 7500, 7600, 7700, 7800, 7900, 8000, 8100]) q706 (by decide)
                      have q723 : S5 X38 X663 := by rw [hX663]; exact S5.set q900056 ⟨by first | exact fun h => absurd h (Nat.ne_of_beq_eq_false rfl) | omega, by first | exact fun h => absurd h (Nat.ne_of_beq_eq_false rfl) | omega, by first | exact fun h => absurd h (Nat.ne_of_beq_eq_false rfl) | omega, by first | exact fun h => absurd h (Nat.ne_of_beq_eq_false rfl) | omega, by first | exact fun h => absurd h (Nat.ne_of_beq_eq_false rfl) | omega⟩
                      exact ih80 (k + 1) X663 _ _ _ (by omega) hRX663 q667 (by first | omega | (simp only [e668, e669]; omega)) (hO673) (q677) (by first | omega | (simp only [e668, e669]; omega)) (by first | omega | (simp only [e668, e669]; omega)) (hcq681) ((by rw [hX663, u3_k _ _ _ _ (by first | exact Nat.ne_of_beq_eq_false rfl | decide), hX405, u3_k _ _ _ _ (by first | exact Nat.ne_of_beq_eq_false rfl | decide), hX402, u3_k _ _ _ _ (by first | exact Nat.ne_of_beq_eq_false rfl | decide)]; exact h71)) ((by rw [hX663, u3_k _ _ _ _ (by first | exact Nat.ne_of_beq_eq_false rfl | decide), hX405, u3_k _ _ _ _ (by first | exact Nat.ne_of_beq_eq_false rfl | decide), hX402, u3_k _ _ _ _ (by first | exact Nat.ne_of_beq_eq_false rfl | decide)]; exact h72)) ((by rw [recK_s (by omega)]; exact rmT.of hst684.1 (by rw [hX663, u3_k _ _ _ _ (by first | exact Nat.ne_of_beq_eq_false rfl | decide)]) (Frm.arr q691 80 (by decide +kernel) (by decide)) rfl rfl)) ((by rw [recK_s (by omega)]; exact rmR.of hst684.2.1 (by rw [hX663, u3_k _ _ _ _ (by first | exact Nat.ne_of_beq_eq_false rfl | decide)]) (fun q9 hq9 => by simp only [List.mem_cons, List.not_mem_nil, or_false] at hq9; rcases hq9 with rfl | rfl | rfl | rfl | rfl | rfl | rfl | rfl <;> exact Frm.arr q691 _ (by decide +kernel) (by decide)) rfl rfl rfl)) ((by rw [recK_s (by omega)]; exact rmV.push hVb (mSt.of (L := [7300, 7400, 7500]) q672 (by decide)) ⟨by omega, by omega⟩ (by omega) (fun t => by rw [(Frm.arr q900018 44 (by decide +kernel) (by decide))]; exact hf55 t) (Frm.arr q672 71 (by decide +kernel) (by decide)) (Frm.arr q672 72 (by decide +kernel) (by decide)) (fun j hj => (by rw [hX663, u3_k _ _ _ _ (by first | exact Nat.ne_of_beq_eq_false rfl | decide), hX405, u3_k _ _ _ _ (by first | exact Nat.ne_of_beq_eq_false rfl | decide), hX402, u3_j _ _ _ _ hj])) (fun j hj => (by rw [hX663, u3_k _ _ _ _ (by first | exact Nat.ne_of_beq_eq_false rfl | decide), hX405, u3_j _ _ _ _ hj, hX402, u3_k _ _ _ _ (by first | exact Nat.ne_of_beq_eq_false rfl | decide)])) (fun j hj => (by rw [hX663, u3_j _ _ _ _ hj, hX405, u3_k _ _ _ _ (by first | exact Nat.ne_of_beq_eq_false rfl | decide), hX402, u3_k _ _ _ _ (by first | exact Nat.ne_of_beq_eq_false rfl | decide)])) (fun q a b => recP_o ⟨a, by omega⟩) (fun q hq => recP_5 hq) ⟨(by rw [recP_o ⟨by omega, by omega⟩, recK_o _ ⟨by omega, by omega⟩, ← hyo, hms696.2.1, hms696.2.2.2]; exact (by rw [hX663, u3_k _ _ _ _ (by first | exact Nat.ne_of_beq_eq_false rfl | decide), hX405, u3_k _ _ _ _ (by first | exact Nat.ne_of_beq_eq_false rfl | decide)]; rw [hVX402])), (by rw [recP_o ⟨by omega, by omega⟩, recK_o _ ⟨by omega, by omega⟩, ← hyo]; unfold lnM; rw [hms696.2.2.1, hms696.2.2.2]; exact (by rw [hX663, u3_k _ _ _ _ (by first | exact Nat.ne_of_beq_eq_false rfl | decide)]; rw [hVX405])), (by rw [hVX663]; exact hst684.2.2)⟩)) ((by rw [hX663, u3_k _ _ _ _ (by first | exact Nat.ne_of_beq_eq_false rfl | decide), hX405, u3_k _ _ _ _ (by first | exact Nat.ne_of_beq_eq_false rfl | decide), hX402, u3_k _ _ _ _ (by first | exact Nat.ne_of_beq_eq_false rfl | decide)]; exact h71b)) (by first | omega | (simp only [e668, e669]; omega)) (fun h9 k' a b => if hk9 : k' = k then (by rw [hk9]; omega) else hnk h9 k' a (by omega)) (q723) hw hS (lv_sub hl [3, 4, 5, 6, 7, 8, 0] rfl)
                · refine lv_aload_n hx hb dX9_saves_111 rfl (lv_at hl 0 rfl) ?_
                  refine lv_bipush (v := jI 10) hx hb dX9_saves_112 (by decide) ?_
                  refine lv_iload_n hx hb dX9_saves_114 rfl (lv_at hl 3 rfl) ?_
                  refine lv_aload_n hx hb dX9_saves_115 rfl (lv_at hl 0 rfl) ?_
                  refine x_geto hx hb hf9 hw (by first | exact Int.le_refl 0 | omega) (by first | exact zlt hc40 | omega) sl_40_4 lk17 dX9_saves_116 ?_
                  refine lv_iconst (v := jI 5) hx hb dX9_saves_119 rfl ?_
                  refine lv_iload hx hb dX9_saves_120 (lv_at hl 5 rfl) ?_
                  refine x_imul hx hb dX9_saves_122 ?_
                  refine lv_iload hx hb dX9_saves_123 (lv_at hl 6 rfl) ?_
                  refine x_iadd hx hb dX9_saves_125 ?_
                  refine x_iald hx hb hK.1 hw (by first | exact Int.le_refl 0 | omega) (by first | exact zlt hc45 | omega) ar_45 (len_E ar_45 (by first | exact Nat.ne_of_beq_eq_false rfl | decide)) (by omega) (by omega) (by omega) dX9_saves_126 ?_
                  have e724 : ∀ p9 q9 : Int, Xb 45 p9 q9 = X 45 p9 q9 := fun p9 q9 => by rw [hGXb 45 p9 q9 (show 4500 ∉ [7100, 7200, 7300, 7400, 7500, 8000, 7000, 8100, 7700, 7800, 7900, 7600] by first | exact nlm_ni rfl | decide), hX38, u3_k _ _ _ _ (by first | exact Nat.ne_of_beq_eq_false rfl | decide), hX35, u3_k _ _ _ _ (by first | exact Nat.ne_of_beq_eq_false rfl | decide), hGXa 45 p9 q9 (show 4500 ∉ [7100, 7200, 7300, 7400, 7500, 8000, 7000, 8100, 7700, 7800, 7900, 7600] by first | exact nlm_ni rfl | decide), hG13 45 p9 q9 (show 4500 ∉ [8000, 7000] by first | exact nlm_ni rfl | decide), hX2, u3_k _ _ _ _ (by first | exact Nat.ne_of_beq_eq_false rfl | decide), hX1, u3_k _ _ _ _ (by first | exact Nat.ne_of_beq_eq_false rfl | decide)]
                  rw [e724 0 ((5 * (X 55 0 (Xa 80 0 r))) + k)]
                  have f725 : 0 ≤ X 45 0 ((5 * (X 55 0 (Xa 80 0 r))) + k) ∧ X 45 0 ((5 * (X 55 0 (Xa 80 0 r))) + k) ≤ 19 := hR 45 0 ((5 * (X 55 0 (Xa 80 0 r))) + k)
                  refine lv_iconst (v := jI (-1)) hx hb dX9_saves_127 rfl ?_
                  have hMq733 : MInv Xb := minv_s4 hMI hRXb hFXb q900042 (by decide)
                  refine gos_i (run_V (As := [.int (jI 10), .int (jI r), .int (jI (X 45 0 ((5 * (X 55 0 (Xa 80 0 r))) + k))), .int (jI (-1))]) (rest := []) hx hb hml hown hts (c_X9_faulty l D tc base ad cnt Xb Y ln hRXb hFx hMq733 10 r (X 45 0 ((5 * (X 55 0 (Xa 80 0 r))) + k)) (-1) (by omega) (by omega) (by omega) (by omega)) (cwV 4 hts gX9_saves_X9_faulty rfl rfl rfl (by first | exact hd_X9_faulty | decide +kernel) ⟨Nat.le_of_ble_eq_true rfl, Nat.le_of_ble_eq_true rfl⟩) hK hw (by first | exact Int.le_refl 0 | omega) (by first | exact zlt hc40 | omega) sl_40_0 rfl rfl hl.1 rfl (Nat.le_of_ble_eq_true rfl) dX9_saves_128 ⟨Nat.le_of_ble_eq_true rfl, Nat.le_of_ble_eq_true rfl⟩) hS (fun z734 u735 H locs p736 hw hS => ?_)
                  obtain ⟨X737, eu735, hRX737, hG738, hMIX737, p736⟩ := p736
                  subst eu735
                  have hFX737 : Frm [7100, 7200, 7300, 7400, 7500, 8000, 7000, 8100, 7700, 7800, 7900, 7600, 4042, 4043, 4044] X X737 := Frm.tr hFXb (Frm.mono hG738 (by first | exact nls_of rfl | decide))
                  rw [hQ9]
                  refine ret_i (mc := 0) (ms := 0) hx hb hr hlocks hw hS (by first | exact Nat.le_of_ble_eq_true rfl | omega) (by first | exact Nat.le_of_ble_eq_true rfl | omega) dX9_saves_131 ?_
                  have q746 : S4 X X737 := S4.tr q900042 (S4.frm hG738 (by decide))
                  have q751 : S5 X X35 := by rw [hX35]; exact S5.set q900011 ⟨by first | exact fun h => absurd h (Nat.ne_of_beq_eq_false rfl) | omega, by first | exact fun h => absurd h (Nat.ne_of_beq_eq_false rfl) | omega, by first | exact fun h => absurd h (Nat.ne_of_beq_eq_false rfl) | omega, by first | exact fun h => absurd h (Nat.ne_of_beq_eq_false rfl) | omega, by first | exact fun h => absurd h (Nat.ne_of_beq_eq_false rfl) | omega⟩
                  have q752 : S5 X X38 := by rw [hX38]; exact S5.set q751 ⟨by first | exact fun h => absurd h (Nat.ne_of_beq_eq_false rfl) | omega, by first | exact fun h => absurd h (Nat.ne_of_beq_eq_false rfl) | omega, by first | exact fun h => absurd h (Nat.ne_of_beq_eq_false rfl) | omega, by first | exact fun h => absurd h (Nat.ne_of_beq_eq_false rfl) | omega, by first | exact fun h => absurd h (Nat.ne_of_beq_eq_false rfl) | omega⟩
                  have q753 : S5 X Xb := S5.tr q752 h5Xb
                  have q754 : S5 X X737 := S5.tr q753 (S5.frm hG738 (by decide))
                  exact ⟨X737, rfl, hRX737, hFX737, hMIX737, by omega, q746, fun h => absurd h (by omega), Or.inl ⟨by omega, by omega, r, k, by omega, (recR_at (fc := fcM X) (la := lnM X) (vl := mRid X) (rid := mRid X) (x := x) (r := r) (q := r) ⟨by omega, by omega⟩ ⟨by omega, by omega⟩).2, by omega, (by rw [(recR_at (fc := fcM X) (la := lnM X) (vl := mRid X) (rid := mRid X) (x := x) (r := r) (q := r) ⟨by omega, by omega⟩ ⟨by omega, by omega⟩).1, ← hyo]; unfold fcM; omega), (by rw [(recR_at (fc := fcM X) (la := lnM X) (vl := mRid X) (rid := mRid X) (x := x) (r := r) (q := r) ⟨by omega, by omega⟩ ⟨by omega, by omega⟩).1, ← hyo]; omega)⟩, q754, fun q => by omega⟩
        have e755 : X38 76 0 4 = Xa 76 0 4 := by rw [hX38, u3_k _ _ _ _ (by first | exact Nat.ne_of_beq_eq_false rfl | decide), hX35, u3_k _ _ _ _ (by first | exact Nat.ne_of_beq_eq_false rfl | decide)]
        have e756 : X38 70 0 4 = Xa 70 0 4 := by rw [hX38, u3_k _ _ _ _ (by first | exact Nat.ne_of_beq_eq_false rfl | decide), hX35, u3_k _ _ _ _ (by first | exact Nat.ne_of_beq_eq_false rfl | decide)]
        have q757 : Frm [7100, 7200] Xa X35 := by rw [hX35]; exact Frm.set Frm.rf (show 7100 ∈ [7100, 7200] by first | exact nlm_in rfl | decide)
        have q758 : Frm [7100, 7200] Xa X38 := by rw [hX38]; exact Frm.set q757 (show 7200 ∈ [7100, 7200] by first | exact nlm_in rfl | decide)
        have hO759 : ordOK X38 := ordOK.of hOa q758 (by decide)
        have hT760 : rmT X38 (recR (fcM X) (lnM X) (mRid X) (mRid X) x r.toNat) := rmT.of hTa (by rw [hX38, u3_k _ _ _ _ (by first | exact Nat.ne_of_beq_eq_false rfl | decide), hX35, u3_k _ _ _ _ (by first | exact Nat.ne_of_beq_eq_false rfl | decide)]) (Frm.arr q758 80 (by decide +kernel) (by decide)) rfl rfl
        have hR9763 : rmR X38 (recR (fcM X) (lnM X) (mRid X) (mRid X) x r.toNat) := rmR.of hRa9 (by rw [hX38, u3_k _ _ _ _ (by first | exact Nat.ne_of_beq_eq_false rfl | decide), hX35, u3_k _ _ _ _ (by first | exact Nat.ne_of_beq_eq_false rfl | decide)]) (fun q9 hq9 => by simp only [List.mem_cons, List.not_mem_nil, or_false] at hq9; rcases hq9 with rfl | rfl | rfl | rfl | rfl | rfl | rfl | rfl <;> exact Frm.arr q758 _ (by decide +kernel) (by decide)) rfl rfl rfl
        have q766 : Frm [7000, 7100, 7200, 7300, 7400, 7500, 7600, 7700, 7800, 7900, 8000, 8100] X X1 := by rw [hX1]; exact Frm.set Frm.rf (show 7000 ∈ [7000, 7100, 7200, 7300, 7400, 7500, 7600, 7700, 7800, 7900, 8000, 8100] by first | exact nlm_in rfl | decide)
        have q767 : Frm [7000, 7100, 7200, 7300, 7400, 7500, 7600, 7700, 7800, 7900, 8000, 8100] X X2 := by rw [hX2]; exact Frm.set q766 (show 7600 ∈ [7000, 7100, 7200, 7300, 7400, 7500, 7600, 7700, 7800, 7900, 8000, 8100] by first | exact nlm_in rfl | decide)
        have q768 : Frm [7000, 7100, 7200, 7300, 7400, 7500, 7600, 7700, 7800, 7900, 8000, 8100] X X12 := Frm.tr q767 (Frm.mono hG13 (by first | exact nls_of rfl | decide))
        have q769 : Frm [7000, 7100, 7200, 7300, 7400, 7500, 7600, 7700, 7800, 7900, 8000, 8100] X Xa := Frm.tr q768 (Frm.mono hGXa (by first | exact nls_of rfl | decide))
        exact lp80 (5 - 0 : Int).toNat.succ 0 X38 _ _ _ (by omega) hRX38 Frm.rf (by first | omega | (simp only [e755, e756]; omega)) (hO759) (S4.rf) (by first | omega | (simp only [e755, e756]; omega)) (by first | omega | (simp only [e755, e756]; omega)) ((by rw [hX38, hX35]; exact cOK.of hcOa (by omega) (by rw [← hX35, ← hX38]; exact hRX38) (by rw [u3_k _ _ _ _ (by first | exact Nat.ne_of_beq_eq_false rfl | decide), u3_k _ _ _ _ (by first | exact Nat.ne_of_beq_eq_false rfl | decide)]; exact Int.le_refl _) (by rw [u3_k _ _ _ _ (by first | exact Nat.ne_of_beq_eq_false rfl | decide), u3_k _ _ _ _ (by first | exact Nat.ne_of_beq_eq_false rfl | decide)]; exact Int.le_refl _) (fun r1 a b => ⟨by rw [u3_k _ _ _ _ (by first | exact Nat.ne_of_beq_eq_false rfl | decide), u3_j _ _ _ _ (by omega)], by rw [u3_j _ _ _ _ (by omega), u3_k _ _ _ _ (by first | exact Nat.ne_of_beq_eq_false rfl | decide)]⟩) (fun j hj => ⟨by rw [u3_k _ _ _ _ (by first | exact Nat.ne_of_beq_eq_false rfl | decide), u3_k _ _ _ _ (by first | exact Nat.ne_of_beq_eq_false rfl | decide)], by rw [u3_k _ _ _ _ (by first | exact Nat.ne_of_beq_eq_false rfl | decide), u3_k _ _ _ _ (by first | exact Nat.ne_of_beq_eq_false rfl | decide)]⟩) (by omega))) ((by rw [hX38, u3_k _ _ _ _ (by first | exact Nat.ne_of_beq_eq_false rfl | decide)]; rw [hVX35]; exact hyf)) (hVX38) (hT760) (hR9763) (rmV.in_ hVa (mSt.of (L := [7100, 7200]) q758 (by decide)) (by omega) (fun t => by rw [(Frm.arr q769 44 (by decide +kernel) (by decide))]; exact hf55 t) (fun j hj => (by rw [hX38, u3_k _ _ _ _ (by first | exact Nat.ne_of_beq_eq_false rfl | decide), hX35, u3_j _ _ _ _ hj])) (fun j hj => (by rw [hX38, u3_j _ _ _ _ hj, hX35, u3_k _ _ _ _ (by first | exact Nat.ne_of_beq_eq_false rfl | decide)])) (Frm.arr q758 73 (by decide +kernel) (by decide)) (Frm.arr q758 74 (by decide +kernel) (by decide)) (Frm.arr q758 75 (by decide +kernel) (by decide))) ((by rw [hX38, u3_k _ _ _ _ (by first | exact Nat.ne_of_beq_eq_false rfl | decide)]; exact hVX35)) (by first | omega | (simp only [e755, e756]; omega)) (fun _ k' a b => by omega) (S5.rf) hw hS (lv_sub hl [3, 4, 5, 6, 2, 1, 0] rfl)
  have e778 : X12 76 0 4 = X2 76 0 4 := by rw [hG13 76 0 4 (show 7600 ∉ [8000, 7000] by first | exact nlm_ni rfl | decide)]
  exact lp23 (30 - 0 : Int).toNat.succ 0 X12 _ _ _ (by omega) hRX12 Frm.rf (by first | omega | (simp only [e778]; omega)) (hOX12) (S4.rf) (by first | omega | (simp only [e778]; omega)) (cOK.nil) (rmT.init hTrX12) (rmR.init (by rw [hG13 76 0 4 (show 7600 ∉ [8000, 7000] by first | exact nlm_ni rfl | decide)]; exact hVX2)) (⟨fun r' a b => by omega, fun k' a b => by omega⟩) (fun _ r' k' a b => by omega) (S5.rf) hw hS (lv_sub hl [1, 2, 3, 0] rfl)
end
