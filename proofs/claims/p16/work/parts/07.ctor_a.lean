set_option maxHeartbeats 4000000 in
set_option maxRecDepth 100000 in
theorem c_X5_init (l : Launch) (D : va_G) (tc : Nat → ClassId) (base : Nat) (u : St) (E : va_W) (h0 : Nat) (n : Int) (hn : 0 ≤ n ∧ n ≤ 12) : KC l D tc base yX5_init wsX5_init ({ frames := 1, cells := 1, slots := 12, locals := 12 } : Room) [.ref h0, .int (jI n)] u (E ++ ([(h0, .inr (5, [.null, .int 0]))] : va_W)) 1 12 (fun u' E' => u' = u ∧ ∃ q1 : Nat, E' = E ++ ([(h0, .inr (5, [.ref q1, .int 0])), (q1, .inl (tc 1, (n : Int).toNat, .inr (.inl (fun _ => 0))))] : va_W)) := by
  refine KC_of (cc := cX5_init) (maxL := 2) (ret := none) (by decide) rfl (Nat.le_of_ble_eq_true rfl) ?_
  intro p e s m below meth c ls hx hb hr hml hown hts hlocks hnm hl hK hw hS
  have hnm : meth.name = "<init>" := hnm
  have hown : s.vm.findClass RX5 = some m.cls := hown
  have hbs : base ≤ s.heap.size := hw.2.2
  have hi5 : ∀ w ∈ wsX50, w ∈ wsX5_init := fun w h => List.mem_cons_of_mem _ (List.mem_append_right _ h)
  have hf5 : fctx s m _ RX5 wsX5_init D tc RX5 TX5 2 5 := ⟨hts, hi5, hown, hK.1, rfl⟩
  have lk7 := hts (.fieldLink RX5 7 (TX5 0).1 (TX5 0).2.1 (TX5 0).2.2.1) (gj_X5_init_0 _ (gp_4 gp_h))
  have hl : lv_has ls 2 [(0, .ref h0), (1, .int (jI n))] := hl
  refine lv_aload_n hx hb dX5_init_0 rfl (lv_at hl 0 rfl) ?_
  refine W.objInit hx hb hown (hts (.methodLink RX5 1 objectInit) (by first | exact gj_X5_init_0 _ (gp_h) | decide +kernel)) (hts (.instanceMethod objectInit) (by first | exact gj_X5_init_0 _ (gp_1 gp_h) | decide +kernel)) (hts _ (List.mem_cons_of_mem _ (List.mem_append_left _ (List.mem_of_getElem? (i := 2) rfl)))) rfl (by rw [hml]; exact hl.1) rfl dX5_init_1 (Nat.le_of_ble_eq_true rfl) (Nat.le_of_ble_eq_true rfl) ?_
  refine W.eq (g2 := F0 m 4 ls []) rfl ?_
  refine lv_aload_n hx hb dX5_init_4 rfl (lv_at hl 0 rfl) ?_
  refine lv_iload_n hx hb dX5_init_5 rfl (lv_at hl 1 rfl) ?_
  refine g_newa (t := 1) (z := n) (a0 := ((n : Int).toNat, .inr (.inl (fun _ => 0)))) (atype := .long) hx hb (hts (.arrayClass .long) (by first | exact gj_X5_init_0 _ (gp_1 (gp_1 (gp_1 gp_h))) | decide +kernel)) rfl hK.1 rfl hw hS hbs (fun _ => rfl) (by omega) (by omega) (show (n : Int).toNat * 8 ≤ 536870912 by omega) (show 0 + 1 ≤ 1 by omega) (show 0 + (n : Int).toNat ≤ 12 by omega) dX5_init_6 (fun q1 H hw hS => ?_)
  have hw : wx D tc base u (E ++ ([(h0, .inr (5, [.null, .int 0])), (q1, .inl (tc 1, (n : Int).toNat, .inr (.inl (fun _ => 0))))] : va_W)) H := hw
  refine W.widen (k := 1) (n := 12) (by omega) (by omega) ?_
  refine g_putF (ci := 5) hx hb hf5 ⟨tyX5_ok, nmX5⟩ hw hS 0 rfl 0 (by decide) lk7 rfl hnm rfl (tyX5_ok 0 (by decide)) rfl rfl (Nat.le_of_ble_eq_true rfl) dX5_init_8 (fun H locs hw hS => ?_)
  have hw : wx D tc base u (E ++ ([(h0, .inr (5, [.ref q1, .int 0])), (q1, .inl (tc 1, (n : Int).toNat, .inr (.inl (fun _ => 0))))] : va_W)) H := hw
  refine ret_x hx hb hr hlocks hw hS (show 1 ≤ 1 by omega) (show 12 ≤ 12 by omega) dX5_init_11 ?_
  exact ⟨rfl, q1, rfl⟩

set_option maxHeartbeats 4000000 in
set_option maxRecDepth 100000 in
theorem c_X0_init (l : Launch) (D : va_G) (tc : Nat → ClassId) (base : Nat) (u : St) (E : va_W) (h0 : Nat) (kind a b v : Int) : KC l D tc base yX0_init wsX0_init ({ frames := 1, cells := 0, slots := 0, locals := 12 } : Room) [.ref h0, .int (jI kind), .int (jI a), .int (jI b), .long (jL v)] u (E ++ ([(h0, .inr (0, [.int 0, .int 0, .int 0, .long 0]))] : va_W)) 0 0 (fun u' E' => u' = u ∧ E' = E ++ ([(h0, .inr (0, [.int (jI kind), .int (jI a), .int (jI b), .long (jL v)]))] : va_W)) := by
  refine KC_of (cc := cX0_init) (maxL := 6) (ret := none) (by decide) rfl (Nat.le_of_ble_eq_true rfl) ?_
  intro p e s m below meth c ls hx hb hr hml hown hts hlocks hnm hl hK hw hS
  have hnm : meth.name = "<init>" := hnm
  have hown : s.vm.findClass RX0 = some m.cls := hown
  have hbs : base ≤ s.heap.size := hw.2.2
  have hi0 : ∀ w ∈ wsX00, w ∈ wsX0_init := fun w h => List.mem_cons_of_mem _ (List.mem_append_right _ h)
  have hf0 : fctx s m _ RX0 wsX0_init D tc RX0 TX0 4 0 := ⟨hts, hi0, hown, hK.1, rfl⟩
  have lk7 := hts (.fieldLink RX0 7 (TX0 0).1 (TX0 0).2.1 (TX0 0).2.2.1) (gj_X0_init_0 _ (gp_1 (gp_1 (gp_1 gp_h))))
  have lk13 := hts (.fieldLink RX0 13 (TX0 1).1 (TX0 1).2.1 (TX0 1).2.2.1) (gj_X0_init_0 _ (gp_4 gp_h))
  have lk16 := hts (.fieldLink RX0 16 (TX0 2).1 (TX0 2).2.1 (TX0 2).2.2.1) (gj_X0_init_0 _ (gp_4 (gp_1 gp_h)))
  have lk19 := hts (.fieldLink RX0 19 (TX0 3).1 (TX0 3).2.1 (TX0 3).2.2.1) (gj_X0_init_0 _ (gp_4 (gp_1 (gp_1 gp_h))))
  have hl : lv_has ls 6 [(0, .ref h0), (1, .int (jI kind)), (2, .int (jI a)), (3, .int (jI b)), (4, .long (jL v))] := hl
  refine lv_aload_n hx hb dX0_init_0 rfl (lv_at hl 0 rfl) ?_
  refine W.objInit hx hb hown (hts (.methodLink RX0 1 objectInit) (by first | exact gj_X0_init_0 _ (gp_h) | decide +kernel)) (hts (.instanceMethod objectInit) (by first | exact gj_X0_init_0 _ (gp_1 gp_h) | decide +kernel)) (hts _ (List.mem_cons_of_mem _ (List.mem_append_left _ (List.mem_of_getElem? (i := 2) rfl)))) rfl (by rw [hml]; exact hl.1) rfl dX0_init_1 (Nat.le_of_ble_eq_true rfl) (Nat.le_of_ble_eq_true rfl) ?_
  refine W.eq (g2 := F0 m 4 ls []) rfl ?_
  refine lv_aload_n hx hb dX0_init_4 rfl (lv_at hl 0 rfl) ?_
  refine lv_iload_n hx hb dX0_init_5 rfl (lv_at hl 1 rfl) ?_
  refine g_putF (ci := 0) hx hb hf0 ⟨tyX0_ok, nmX0⟩ hw hS 0 rfl 0 (by decide) lk7 rfl hnm rfl (tyX0_ok 0 (by decide)) rfl rfl (Nat.le_of_ble_eq_true rfl) dX0_init_6 (fun H locs hw hS => ?_)
  have hw : wx D tc base u (E ++ ([(h0, .inr (0, [.int (jI kind), .int 0, .int 0, .long 0]))] : va_W)) H := hw
  refine lv_aload_n hx hb dX0_init_9 rfl (lv_at hl 0 rfl) ?_
  refine lv_iload_n hx hb dX0_init_10 rfl (lv_at hl 2 rfl) ?_
  refine g_putF (ci := 0) hx hb hf0 ⟨tyX0_ok, nmX0⟩ hw hS 0 rfl 1 (by decide) lk13 rfl hnm rfl (tyX0_ok 1 (by decide)) rfl rfl (Nat.le_of_ble_eq_true rfl) dX0_init_11 (fun H locs hw hS => ?_)
  have hw : wx D tc base u (E ++ ([(h0, .inr (0, [.int (jI kind), .int (jI a), .int 0, .long 0]))] : va_W)) H := hw
  refine lv_aload_n hx hb dX0_init_14 rfl (lv_at hl 0 rfl) ?_
  refine lv_iload_n hx hb dX0_init_15 rfl (lv_at hl 3 rfl) ?_
  refine g_putF (ci := 0) hx hb hf0 ⟨tyX0_ok, nmX0⟩ hw hS 0 rfl 2 (by decide) lk16 rfl hnm rfl (tyX0_ok 2 (by decide)) rfl rfl (Nat.le_of_ble_eq_true rfl) dX0_init_16 (fun H locs hw hS => ?_)
  have hw : wx D tc base u (E ++ ([(h0, .inr (0, [.int (jI kind), .int (jI a), .int (jI b), .long 0]))] : va_W)) H := hw
  refine lv_aload_n hx hb dX0_init_19 rfl (lv_at hl 0 rfl) ?_
  refine lv_lload hx hb dX0_init_20 (lv_at hl 4 rfl) ?_
  refine g_putF (ci := 0) hx hb hf0 ⟨tyX0_ok, nmX0⟩ hw hS 0 rfl 3 (by decide) lk19 rfl hnm rfl (tyX0_ok 3 (by decide)) rfl rfl (Nat.le_of_ble_eq_true rfl) dX0_init_22 (fun H locs hw hS => ?_)
  have hw : wx D tc base u (E ++ ([(h0, .inr (0, [.int (jI kind), .int (jI a), .int (jI b), .long (jL v)]))] : va_W)) H := hw
  refine ret_x hx hb hr hlocks hw hS (show 0 ≤ 0 by omega) (show 0 ≤ 0 by omega) dX0_init_25 ?_
  exact ⟨rfl, rfl⟩

set_option maxHeartbeats 4000000 in
set_option maxRecDepth 100000 in
theorem c_X7_init (l : Launch) (D : va_G) (tc : Nat → ClassId) (base : Nat) (u : St) (E : va_W) (h0 : Nat) (n : Int) : KC l D tc base yX7_init wsX7_init ({ frames := 1, cells := 5, slots := 24, locals := 12 } : Room) [.ref h0, .int (jI n)] u (E ++ ([(h0, .inr (7, [.int 0, .int 0, .null, .null, .null, .null, .int 0, .null]))] : va_W)) 5 24 (fun u' E' => u' = u ∧ ∃ q1 : Nat, ∃ q2 : Nat, ∃ q3 : Nat, ∃ q4 : Nat, ∃ q5 : Nat, E' = E ++ ([(h0, .inr (7, [.int (jI n), .int 0, .ref q1, .ref q2, .ref q3, .ref q4, .int 0, .ref q5])), (q1, .inl (tc 0, (5 : Int).toNat, .inl (fun _ => 0))), (q2, .inl (tc 0, (5 : Int).toNat, .inl (fun _ => 0))), (q3, .inl (tc 1, (5 : Int).toNat, .inr (.inl (fun _ => 0)))), (q4, .inl (tc 2, (5 : Int).toNat, .inl (fun _ => 0))), (q5, .inl (tc 3, (4 : Int).toNat, .inr (.inr (.inr (.inr (fun _ => none))))))] : va_W)) := by
  refine KC_of (cc := cX7_init) (maxL := 2) (ret := none) (by decide) rfl (Nat.le_of_ble_eq_true rfl) ?_
  intro p e s m below meth c ls hx hb hr hml hown hts hlocks hnm hl hK hw hS
  have hnm : meth.name = "<init>" := hnm
  have hown : s.vm.findClass RX7 = some m.cls := hown
  have hbs : base ≤ s.heap.size := hw.2.2
  have hi7 : ∀ w ∈ wsX70, w ∈ wsX7_init := fun w h => List.mem_cons_of_mem _ (List.mem_append_right _ h)
  have hf7 : fctx s m _ RX7 wsX7_init D tc RX7 TX7 8 7 := ⟨hts, hi7, hown, hK.1, rfl⟩
  have lk9 := hts (.fieldLink RX7 9 (TX7 2).1 (TX7 2).2.1 (TX7 2).2.2.1) (gj_X7_init_0 _ (gp_4 gp_h))
  have lk15 := hts (.fieldLink RX7 15 (TX7 3).1 (TX7 3).2.1 (TX7 3).2.2.1) (gj_X7_init_0 _ (gp_4 (gp_1 gp_h)))
  have lk18 := hts (.fieldLink RX7 18 (TX7 4).1 (TX7 4).2.1 (TX7 4).2.2.1) (gj_X7_init_0 _ (gp_4 (gp_1 (gp_1 (gp_1 gp_h)))))
  have lk22 := hts (.fieldLink RX7 22 (TX7 5).1 (TX7 5).2.1 (TX7 5).2.2.1) (gj_X7_init_0 _ (gp_4 (gp_4 (gp_1 gp_h))))
  have lk28 := hts (.fieldLink RX7 28 (TX7 7).1 (TX7 7).2.1 (TX7 7).2.2.1) (gj_X7_init_0 _ (gp_4 (gp_4 (gp_1 (gp_1 (gp_1 gp_h))))))
  have lk32 := hts (.fieldLink RX7 32 (TX7 0).1 (TX7 0).2.1 (TX7 0).2.2.1) (gj_X7_init_0 _ (gp_4 (gp_4 (gp_4 gp_h))))
  have hl : lv_has ls 2 [(0, .ref h0), (1, .int (jI n))] := hl
  refine lv_aload_n hx hb dX7_init_0 rfl (lv_at hl 0 rfl) ?_
  refine W.objInit hx hb hown (hts (.methodLink RX7 3 objectInit) (by first | exact gj_X7_init_0 _ (gp_h) | decide +kernel)) (hts (.instanceMethod objectInit) (by first | exact gj_X7_init_0 _ (gp_1 gp_h) | decide +kernel)) (hts _ (List.mem_cons_of_mem _ (List.mem_append_left _ (List.mem_of_getElem? (i := 2) rfl)))) rfl (by rw [hml]; exact hl.1) rfl dX7_init_1 (Nat.le_of_ble_eq_true rfl) (Nat.le_of_ble_eq_true rfl) ?_
  refine W.eq (g2 := F0 m 4 ls []) rfl ?_
  refine lv_aload_n hx hb dX7_init_4 rfl (lv_at hl 0 rfl) ?_
  refine lv_iconst (v := jI 5) hx hb dX7_init_5 rfl ?_
  refine g_newa (t := 0) (z := 5) (a0 := ((5 : Int).toNat, .inl (fun _ => 0))) (atype := .int) hx hb (hts (.arrayClass .int) (by first | exact gj_X7_init_0 _ (gp_1 (gp_1 (gp_1 gp_h))) | decide +kernel)) rfl hK.1 rfl hw hS hbs (fun _ => rfl) (by omega) (by omega) (by decide) (show 0 + 1 ≤ 5 by omega) (show 0 + (5 : Int).toNat ≤ 24 by omega) dX7_init_6 (fun q1 H hw hS => ?_)
  have hw : wx D tc base u (E ++ ([(h0, .inr (7, [.int 0, .int 0, .null, .null, .null, .null, .int 0, .null])), (q1, .inl (tc 0, (5 : Int).toNat, .inl (fun _ => 0)))] : va_W)) H := hw
  refine W.widen (k := 1) (n := 5) (by omega) (by omega) ?_
  refine g_putF (ci := 7) hx hb hf7 ⟨tyX7_ok, nmX7⟩ hw hS 0 rfl 2 (by decide) lk9 rfl hnm rfl (tyX7_ok 2 (by decide)) rfl rfl (Nat.le_of_ble_eq_true rfl) dX7_init_8 (fun H locs hw hS => ?_)
  have hw : wx D tc base u (E ++ ([(h0, .inr (7, [.int 0, .int 0, .ref q1, .null, .null, .null, .int 0, .null])), (q1, .inl (tc 0, (5 : Int).toNat, .inl (fun _ => 0)))] : va_W)) H := hw
  refine lv_aload_n hx hb dX7_init_11 rfl (lv_at hl 0 rfl) ?_
  refine lv_iconst (v := jI 5) hx hb dX7_init_12 rfl ?_
  refine g_newa (t := 0) (z := 5) (a0 := ((5 : Int).toNat, .inl (fun _ => 0))) (atype := .int) hx hb (hts (.arrayClass .int) (by first | exact gj_X7_init_0 _ (gp_1 (gp_1 (gp_1 gp_h))) | decide +kernel)) rfl hK.1 rfl hw hS hbs (fun _ => rfl) (by omega) (by omega) (by decide) (show 1 + 1 ≤ 5 by omega) (show 5 + (5 : Int).toNat ≤ 24 by omega) dX7_init_13 (fun q2 H hw hS => ?_)
  have hw : wx D tc base u (E ++ ([(h0, .inr (7, [.int 0, .int 0, .ref q1, .null, .null, .null, .int 0, .null])), (q1, .inl (tc 0, (5 : Int).toNat, .inl (fun _ => 0))), (q2, .inl (tc 0, (5 : Int).toNat, .inl (fun _ => 0)))] : va_W)) H := hw
  refine W.widen (k := 2) (n := 10) (by omega) (by omega) ?_
  refine g_putF (ci := 7) hx hb hf7 ⟨tyX7_ok, nmX7⟩ hw hS 0 rfl 3 (by decide) lk15 rfl hnm rfl (tyX7_ok 3 (by decide)) rfl rfl (Nat.le_of_ble_eq_true rfl) dX7_init_15 (fun H locs hw hS => ?_)
  have hw : wx D tc base u (E ++ ([(h0, .inr (7, [.int 0, .int 0, .ref q1, .ref q2, .null, .null, .int 0, .null])), (q1, .inl (tc 0, (5 : Int).toNat, .inl (fun _ => 0))), (q2, .inl (tc 0, (5 : Int).toNat, .inl (fun _ => 0)))] : va_W)) H := hw
  refine lv_aload_n hx hb dX7_init_18 rfl (lv_at hl 0 rfl) ?_
  refine lv_iconst (v := jI 5) hx hb dX7_init_19 rfl ?_
  refine g_newa (t := 1) (z := 5) (a0 := ((5 : Int).toNat, .inr (.inl (fun _ => 0)))) (atype := .long) hx hb (hts (.arrayClass .long) (by first | exact gj_X7_init_0 _ (gp_4 (gp_1 (gp_1 gp_h))) | decide +kernel)) rfl hK.1 rfl hw hS hbs (fun _ => rfl) (by omega) (by omega) (by decide) (show 2 + 1 ≤ 5 by omega) (show 10 + (5 : Int).toNat ≤ 24 by omega) dX7_init_20 (fun q3 H hw hS => ?_)
  have hw : wx D tc base u (E ++ ([(h0, .inr (7, [.int 0, .int 0, .ref q1, .ref q2, .null, .null, .int 0, .null])), (q1, .inl (tc 0, (5 : Int).toNat, .inl (fun _ => 0))), (q2, .inl (tc 0, (5 : Int).toNat, .inl (fun _ => 0))), (q3, .inl (tc 1, (5 : Int).toNat, .inr (.inl (fun _ => 0))))] : va_W)) H := hw
  refine W.widen (k := 3) (n := 15) (by omega) (by omega) ?_
  refine g_putF (ci := 7) hx hb hf7 ⟨tyX7_ok, nmX7⟩ hw hS 0 rfl 4 (by decide) lk18 rfl hnm rfl (tyX7_ok 4 (by decide)) rfl rfl (Nat.le_of_ble_eq_true rfl) dX7_init_22 (fun H locs hw hS => ?_)
  have hw : wx D tc base u (E ++ ([(h0, .inr (7, [.int 0, .int 0, .ref q1, .ref q2, .ref q3, .null, .int 0, .null])), (q1, .inl (tc 0, (5 : Int).toNat, .inl (fun _ => 0))), (q2, .inl (tc 0, (5 : Int).toNat, .inl (fun _ => 0))), (q3, .inl (tc 1, (5 : Int).toNat, .inr (.inl (fun _ => 0))))] : va_W)) H := hw
  refine lv_aload_n hx hb dX7_init_25 rfl (lv_at hl 0 rfl) ?_
  refine lv_iconst (v := jI 5) hx hb dX7_init_26 rfl ?_
  refine g_newa (t := 2) (z := 5) (a0 := ((5 : Int).toNat, .inl (fun _ => 0))) (atype := .boolean) hx hb (hts (.arrayClass .boolean) (by first | exact gj_X7_init_0 _ (gp_4 (gp_4 gp_h)) | decide +kernel)) rfl hK.1 rfl hw hS hbs (fun _ => rfl) (by omega) (by omega) (by decide) (show 3 + 1 ≤ 5 by omega) (show 15 + (5 : Int).toNat ≤ 24 by omega) dX7_init_27 (fun q4 H hw hS => ?_)
  have hw : wx D tc base u (E ++ ([(h0, .inr (7, [.int 0, .int 0, .ref q1, .ref q2, .ref q3, .null, .int 0, .null])), (q1, .inl (tc 0, (5 : Int).toNat, .inl (fun _ => 0))), (q2, .inl (tc 0, (5 : Int).toNat, .inl (fun _ => 0))), (q3, .inl (tc 1, (5 : Int).toNat, .inr (.inl (fun _ => 0)))), (q4, .inl (tc 2, (5 : Int).toNat, .inl (fun _ => 0)))] : va_W)) H := hw
  refine W.widen (k := 4) (n := 20) (by omega) (by omega) ?_
  refine g_putF (ci := 7) hx hb hf7 ⟨tyX7_ok, nmX7⟩ hw hS 0 rfl 5 (by decide) lk22 rfl hnm rfl (tyX7_ok 5 (by decide)) rfl rfl (Nat.le_of_ble_eq_true rfl) dX7_init_29 (fun H locs hw hS => ?_)
  have hw : wx D tc base u (E ++ ([(h0, .inr (7, [.int 0, .int 0, .ref q1, .ref q2, .ref q3, .ref q4, .int 0, .null])), (q1, .inl (tc 0, (5 : Int).toNat, .inl (fun _ => 0))), (q2, .inl (tc 0, (5 : Int).toNat, .inl (fun _ => 0))), (q3, .inl (tc 1, (5 : Int).toNat, .inr (.inl (fun _ => 0)))), (q4, .inl (tc 2, (5 : Int).toNat, .inl (fun _ => 0)))] : va_W)) H := hw
  refine lv_aload_n hx hb dX7_init_32 rfl (lv_at hl 0 rfl) ?_
  refine lv_iconst (v := jI 4) hx hb dX7_init_33 rfl ?_
  refine g_newq (t := 3) (z := 4) hx hb hown (hts (.classLink RX7 26 RX0) (by first | exact gj_X7_init_0 _ (gp_4 (gp_4 (gp_1 (gp_1 gp_h)))) | decide +kernel)) hK.2.2.2.2.2.1 hK.1 rfl hw hS hbs (by omega) (by omega) (show 4 + 1 ≤ 5 by omega) (show 20 + (4 : Int).toNat ≤ 24 by omega) dX7_init_34 (fun q5 H hw hS => ?_)
  have hw : wx D tc base u (E ++ ([(h0, .inr (7, [.int 0, .int 0, .ref q1, .ref q2, .ref q3, .ref q4, .int 0, .null])), (q1, .inl (tc 0, (5 : Int).toNat, .inl (fun _ => 0))), (q2, .inl (tc 0, (5 : Int).toNat, .inl (fun _ => 0))), (q3, .inl (tc 1, (5 : Int).toNat, .inr (.inl (fun _ => 0)))), (q4, .inl (tc 2, (5 : Int).toNat, .inl (fun _ => 0))), (q5, .inl (tc 3, (4 : Int).toNat, .inr (.inr (.inr (.inr (fun _ => none))))))] : va_W)) H := hw
  refine W.widen (k := 5) (n := 24) (by omega) (by omega) ?_
  refine g_putF (ci := 7) hx hb hf7 ⟨tyX7_ok, nmX7⟩ hw hS 0 rfl 7 (by decide) lk28 rfl hnm rfl (tyX7_ok 7 (by decide)) rfl rfl (Nat.le_of_ble_eq_true rfl) dX7_init_37 (fun H locs hw hS => ?_)
  have hw : wx D tc base u (E ++ ([(h0, .inr (7, [.int 0, .int 0, .ref q1, .ref q2, .ref q3, .ref q4, .int 0, .ref q5])), (q1, .inl (tc 0, (5 : Int).toNat, .inl (fun _ => 0))), (q2, .inl (tc 0, (5 : Int).toNat, .inl (fun _ => 0))), (q3, .inl (tc 1, (5 : Int).toNat, .inr (.inl (fun _ => 0)))), (q4, .inl (tc 2, (5 : Int).toNat, .inl (fun _ => 0))), (q5, .inl (tc 3, (4 : Int).toNat, .inr (.inr (.inr (.inr (fun _ => none))))))] : va_W)) H := hw
  refine lv_aload_n hx hb dX7_init_40 rfl (lv_at hl 0 rfl) ?_
  refine lv_iload_n hx hb dX7_init_41 rfl (lv_at hl 1 rfl) ?_
  refine g_putF (ci := 7) hx hb hf7 ⟨tyX7_ok, nmX7⟩ hw hS 0 rfl 0 (by decide) lk32 rfl hnm rfl (tyX7_ok 0 (by decide)) rfl rfl (Nat.le_of_ble_eq_true rfl) dX7_init_42 (fun H locs hw hS => ?_)
  have hw : wx D tc base u (E ++ ([(h0, .inr (7, [.int (jI n), .int 0, .ref q1, .ref q2, .ref q3, .ref q4, .int 0, .ref q5])), (q1, .inl (tc 0, (5 : Int).toNat, .inl (fun _ => 0))), (q2, .inl (tc 0, (5 : Int).toNat, .inl (fun _ => 0))), (q3, .inl (tc 1, (5 : Int).toNat, .inr (.inl (fun _ => 0)))), (q4, .inl (tc 2, (5 : Int).toNat, .inl (fun _ => 0))), (q5, .inl (tc 3, (4 : Int).toNat, .inr (.inr (.inr (.inr (fun _ => none))))))] : va_W)) H := hw
  refine ret_x hx hb hr hlocks hw hS (show 5 ≤ 5 by omega) (show 24 ≤ 24 by omega) dX7_init_45 ?_
  exact ⟨rfl, q1, q2, q3, q4, q5, rfl⟩

