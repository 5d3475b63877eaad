set_option maxHeartbeats 4000000 in
set_option maxRecDepth 100000 in
theorem c_X1_init (l : Launch) (D : va_G) (tc : Nat → ClassId) (base : Nat) (u : St) (E : va_W) (h0 : Nat)  : KC l D tc base yX1_init wsX1_init ({ frames := 1, cells := 0, slots := 0, locals := 12 } : Room) [.ref h0] u (E ++ ([(h0, .inr (1, [.int 0, .int 0, .int 0, .int 0]))] : va_W)) 0 0 (fun u' E' => u' = u ∧ E' = E ++ ([(h0, .inr (1, [.int 0, .int 0, .int 0, .int 0]))] : va_W)) := by
  refine KC_of (cc := cX1_init) (maxL := 1) (ret := none) (by decide) rfl (Nat.le_of_ble_eq_true rfl) ?_
  intro p e s m below meth c ls hx hb hr hml hown hts hlocks hnm hl hK hw hS
  have hnm : meth.name = "<init>" := hnm
  have hown : s.vm.findClass RX1 = some m.cls := hown
  have hbs : base ≤ s.heap.size := hw.2.2
  have hl : lv_has ls 1 [(0, .ref h0)] := hl
  refine lv_aload_n hx hb dX1_init_0 rfl (lv_at hl 0 rfl) ?_
  refine W.objInit hx hb hown (hts (.methodLink RX1 1 objectInit) (by first | exact gj_X1_init_0 _ (gp_h) | decide +kernel)) (hts (.instanceMethod objectInit) (by first | exact gj_X1_init_0 _ (gp_1 gp_h) | decide +kernel)) (hts _ (List.mem_cons_of_mem _ (List.mem_of_getElem? (i := 2) rfl))) rfl (by rw [hml]; exact hl.1) rfl dX1_init_1 (Nat.le_of_ble_eq_true rfl) (Nat.le_of_ble_eq_true rfl) ?_
  refine W.eq (g2 := F0 m 4 ls []) rfl ?_
  refine ret_x hx hb hr hlocks hw hS (show 0 ≤ 0 by omega) (show 0 ≤ 0 by omega) dX1_init_4 ?_
  exact ⟨rfl, rfl⟩

set_option maxHeartbeats 4000000 in
set_option maxRecDepth 100000 in
theorem c_X3_init (l : Launch) (D : va_G) (tc : Nat → ClassId) (base : Nat) (u : St) (E : va_W) (h0 : Nat)  : KC l D tc base yX3_init wsX3_init ({ frames := 1, cells := 0, slots := 0, locals := 12 } : Room) [.ref h0] u (E ++ ([(h0, .inr (3, [.null, .int 0, .long 0, .null]))] : va_W)) 0 0 (fun u' E' => u' = u ∧ E' = E ++ ([(h0, .inr (3, [.null, .int 0, .long 0, .null]))] : va_W)) := by
  refine KC_of (cc := cX3_init) (maxL := 1) (ret := none) (by decide) rfl (Nat.le_of_ble_eq_true rfl) ?_
  intro p e s m below meth c ls hx hb hr hml hown hts hlocks hnm hl hK hw hS
  have hnm : meth.name = "<init>" := hnm
  have hown : s.vm.findClass RX3 = some m.cls := hown
  have hbs : base ≤ s.heap.size := hw.2.2
  have hl : lv_has ls 1 [(0, .ref h0)] := hl
  refine lv_aload_n hx hb dX3_init_0 rfl (lv_at hl 0 rfl) ?_
  refine W.objInit hx hb hown (hts (.methodLink RX3 1 objectInit) (by first | exact gj_X3_init_0 _ (gp_h) | decide +kernel)) (hts (.instanceMethod objectInit) (by first | exact gj_X3_init_0 _ (gp_1 gp_h) | decide +kernel)) (hts _ (List.mem_cons_of_mem _ (List.mem_of_getElem? (i := 2) rfl))) rfl (by rw [hml]; exact hl.1) rfl dX3_init_1 (Nat.le_of_ble_eq_true rfl) (Nat.le_of_ble_eq_true rfl) ?_
  refine W.eq (g2 := F0 m 4 ls []) rfl ?_
  refine ret_x hx hb hr hlocks hw hS (show 0 ≤ 0 by omega) (show 0 ≤ 0 by omega) dX3_init_4 ?_
  exact ⟨rfl, rfl⟩

set_option maxHeartbeats 4000000 in
set_option maxRecDepth 100000 in
theorem c_X4_init (l : Launch) (D : va_G) (tc : Nat → ClassId) (base : Nat) (u : St) (E : va_W) (h0 : Nat)  : KC l D tc base yX4_init wsX4_init ({ frames := 1, cells := 7, slots := 2460, locals := 12 } : Room) [.ref h0] u (E ++ ([(h0, .inr (4, [.int 0, .null, .null, .null, .null, .null, .int 0, .null, .null]))] : va_W)) 7 2460 (fun u' E' => u' = u ∧ ∃ q1 : Nat, ∃ q2 : Nat, ∃ q3 : Nat, ∃ q4 : Nat, ∃ q5 : Nat, ∃ q6 : Nat, ∃ q7 : Nat, E' = E ++ ([(h0, .inr (4, [.int 0, .ref q1, .ref q2, .ref q3, .ref q4, .ref q5, .int 0, .ref q6, .ref q7])), (q1, .inl (tc 0, (30 : Int).toNat, .inl (fun _ => 0))), (q2, .inl (tc 0, (30 : Int).toNat, .inl (fun _ => 0))), (q3, .inl (tc 0, (150 : Int).toNat, .inl (fun _ => 0))), (q4, .inl (tc 0, (150 : Int).toNat, .inl (fun _ => 0))), (q5, .inl (tc 1, (150 : Int).toNat, .inr (.inl (fun _ => 0)))), (q6, .inl (tc 0, (150 : Int).toNat, .inl (fun _ => 0))), (q7, .inl (tc 1, (1800 : Int).toNat, .inr (.inl (fun _ => 0))))] : va_W)) := by
  refine KC_of (cc := cX4_init) (maxL := 1) (ret := none) (by decide) rfl (Nat.le_of_ble_eq_true rfl) ?_
  intro p e s m below meth c ls hx hb hr hml hown hts hlocks hnm hl hK hw hS
  have hnm : meth.name = "<init>" := hnm
  have hown : s.vm.findClass RX4 = some m.cls := hown
  have hbs : base ≤ s.heap.size := hw.2.2
  have hi4 : ∀ w ∈ wsX40, w ∈ wsX4_init := fun w h => List.mem_cons_of_mem _ (List.mem_append_right _ h)
  have hf4 : fctx s m _ RX4 wsX4_init D tc RX4 TX4 9 4 := ⟨hts, hi4, hown, hK.1, rfl⟩
  have lk9 := hts (.fieldLink RX4 9 (TX4 1).1 (TX4 1).2.1 (TX4 1).2.2.1) (gj_X4_init_0 _ (gp_4 gp_h))
  have lk15 := hts (.fieldLink RX4 15 (TX4 2).1 (TX4 2).2.1 (TX4 2).2.2.1) (gj_X4_init_0 _ (gp_4 (gp_1 gp_h)))
  have lk18 := hts (.fieldLink RX4 18 (TX4 3).1 (TX4 3).2.1 (TX4 3).2.2.1) (gj_X4_init_0 _ (gp_4 (gp_1 (gp_1 gp_h))))
  have lk21 := hts (.fieldLink RX4 21 (TX4 4).1 (TX4 4).2.1 (TX4 4).2.2.1) (gj_X4_init_0 _ (gp_4 (gp_1 (gp_1 (gp_1 gp_h)))))
  have lk24 := hts (.fieldLink RX4 24 (TX4 5).1 (TX4 5).2.1 (TX4 5).2.2.1) (gj_X4_init_0 _ (gp_4 (gp_4 (gp_1 gp_h))))
  have lk28 := hts (.fieldLink RX4 28 (TX4 7).1 (TX4 7).2.1 (TX4 7).2.2.1) (gj_X4_init_0 _ (gp_4 (gp_4 (gp_1 (gp_1 gp_h)))))
  have lk31 := hts (.fieldLink RX4 31 (TX4 8).1 (TX4 8).2.1 (TX4 8).2.2.1) (gj_X4_init_0 _ (gp_4 (gp_4 (gp_1 (gp_1 (gp_1 gp_h))))))
  have hl : lv_has ls 1 [(0, .ref h0)] := hl
  refine lv_aload_n hx hb dX4_init_0 rfl (lv_at hl 0 rfl) ?_
  refine W.objInit hx hb hown (hts (.methodLink RX4 3 objectInit) (by first | exact gj_X4_init_0 _ (gp_h) | decide +kernel)) (hts (.instanceMethod objectInit) (by first | exact gj_X4_init_0 _ (gp_1 gp_h) | decide +kernel)) (hts _ (List.mem_cons_of_mem _ (List.mem_append_left _ (List.mem_of_getElem? (i := 2) rfl)))) rfl (by rw [hml]; exact hl.1) rfl dX4_init_1 (Nat.le_of_ble_eq_true rfl) (Nat.le_of_ble_eq_true rfl) ?_
  refine W.eq (g2 := F0 m 4 ls []) rfl ?_
  refine lv_aload_n hx hb dX4_init_4 rfl (lv_at hl 0 rfl) ?_
  refine lv_bipush (v := jI 30) hx hb dX4_init_5 (by decide) ?_
  refine g_newa (t := 0) (z := 30) (a0 := ((30 : Int).toNat, .inl (fun _ => 0))) (atype := .int) hx hb (hts (.arrayClass .int) (by first | exact gj_X4_init_0 _ (gp_1 (gp_1 (gp_1 gp_h))) | decide +kernel)) rfl hK.1 rfl hw hS hbs (fun _ => rfl) (by omega) (by omega) (by decide) (show 0 + 1 ≤ 7 by omega) (show 0 + (30 : Int).toNat ≤ 2460 by omega) dX4_init_7 (fun q1 H hw hS => ?_)
  have hw : wx D tc base u (E ++ ([(h0, .inr (4, [.int 0, .null, .null, .null, .null, .null, .int 0, .null, .null])), (q1, .inl (tc 0, (30 : Int).toNat, .inl (fun _ => 0)))] : va_W)) H := hw
  refine W.widen (k := 1) (n := 30) (by omega) (by omega) ?_
  refine g_putF (ci := 4) hx hb hf4 ⟨tyX4_ok, nmX4⟩ hw hS 0 rfl 1 (by decide) lk9 rfl hnm rfl (tyX4_ok 1 (by decide)) rfl rfl (Nat.le_of_ble_eq_true rfl) dX4_init_9 (fun H locs hw hS => ?_)
  have hw : wx D tc base u (E ++ ([(h0, .inr (4, [.int 0, .ref q1, .null, .null, .null, .null, .int 0, .null, .null])), (q1, .inl (tc 0, (30 : Int).toNat, .inl (fun _ => 0)))] : va_W)) H := hw
  refine lv_aload_n hx hb dX4_init_12 rfl (lv_at hl 0 rfl) ?_
  refine lv_bipush (v := jI 30) hx hb dX4_init_13 (by decide) ?_
  refine g_newa (t := 0) (z := 30) (a0 := ((30 : Int).toNat, .inl (fun _ => 0))) (atype := .int) hx hb (hts (.arrayClass .int) (by first | exact gj_X4_init_0 _ (gp_1 (gp_1 (gp_1 gp_h))) | decide +kernel)) rfl hK.1 rfl hw hS hbs (fun _ => rfl) (by omega) (by omega) (by decide) (show 1 + 1 ≤ 7 by omega) (show 30 + (30 : Int).toNat ≤ 2460 by omega) dX4_init_15 (fun q2 H hw hS => ?_)
  have hw : wx D tc base u (E ++ ([(h0, .inr (4, [.int 0, .ref q1, .null, .null, .null, .null, .int 0, .null, .null])), (q1, .inl (tc 0, (30 : Int).toNat, .inl (fun _ => 0))), (q2, .inl (tc 0, (30 : Int).toNat, .inl (fun _ => 0)))] : va_W)) H := hw
  refine W.widen (k := 2) (n := 60) (by omega) (by omega) ?_
  refine g_putF (ci := 4) hx hb hf4 ⟨tyX4_ok, nmX4⟩ hw hS 0 rfl 2 (by decide) lk15 rfl hnm rfl (tyX4_ok 2 (by decide)) rfl rfl (Nat.le_of_ble_eq_true rfl) dX4_init_17 (fun H locs hw hS => ?_)
  have hw : wx D tc base u (E ++ ([(h0, .inr (4, [.int 0, .ref q1, .ref q2, .null, .null, .null, .int 0, .null, .null])), (q1, .inl (tc 0, (30 : Int).toNat, .inl (fun _ => 0))), (q2, .inl (tc 0, (30 : Int).toNat, .inl (fun _ => 0)))] : va_W)) H := hw
  refine lv_aload_n hx hb dX4_init_20 rfl (lv_at hl 0 rfl) ?_
  refine lv_sipush (v := jI 150) hx hb dX4_init_21 (by decide) ?_
  refine g_newa (t := 0) (z := 150) (a0 := ((150 : Int).toNat, .inl (fun _ => 0))) (atype := .int) hx hb (hts (.arrayClass .int) (by first | exact gj_X4_init_0 _ (gp_1 (gp_1 (gp_1 gp_h))) | decide +kernel)) rfl hK.1 rfl hw hS hbs (fun _ => rfl) (by omega) (by omega) (by decide) (show 2 + 1 ≤ 7 by omega) (show 60 + (150 : Int).toNat ≤ 2460 by omega) dX4_init_24 (fun q3 H hw hS => ?_)
  have hw : wx D tc base u (E ++ ([(h0, .inr (4, [.int 0, .ref q1, .ref q2, .null, .null, .null, .int 0, .null, .null])), (q1, .inl (tc 0, (30 : Int).toNat, .inl (fun _ => 0))), (q2, .inl (tc 0, (30 : Int).toNat, .inl (fun _ => 0))), (q3, .inl (tc 0, (150 : Int).toNat, .inl (fun _ => 0)))] : va_W)) H := hw
  refine W.widen (k := 3) (n := 210) (by omega) (by omega) ?_
  refine g_putF (ci := 4) hx hb hf4 ⟨tyX4_ok, nmX4⟩ hw hS 0 rfl 3 (by decide) lk18 rfl hnm rfl (tyX4_ok 3 (by decide)) rfl rfl (Nat.le_of_ble_eq_true rfl) dX4_init_26 (fun H locs hw hS => ?_)
  have hw : wx D tc base u (E ++ ([(h0, .inr (4, [.int 0, .ref q1, .ref q2, .ref q3, .null, .null, .int 0, .null, .null])), (q1, .inl (tc 0, (30 : Int).toNat, .inl (fun _ => 0))), (q2, .inl (tc 0, (30 : Int).toNat, .inl (fun _ => 0))), (q3, .inl (tc 0, (150 : Int).toNat, .inl (fun _ => 0)))] : va_W)) H := hw
  refine lv_aload_n hx hb dX4_init_29 rfl (lv_at hl 0 rfl) ?_
  refine lv_sipush (v := jI 150) hx hb dX4_init_30 (by decide) ?_
  refine g_newa (t := 0) (z := 150) (a0 := ((150 : Int).toNat, .inl (fun _ => 0))) (atype := .int) hx hb (hts (.arrayClass .int) (by first | exact gj_X4_init_0 _ (gp_1 (gp_1 (gp_1 gp_h))) | decide +kernel)) rfl hK.1 rfl hw hS hbs (fun _ => rfl) (by omega) (by omega) (by decide) (show 3 + 1 ≤ 7 by omega) (show 210 + (150 : Int).toNat ≤ 2460 by omega) dX4_init_33 (fun q4 H hw hS => ?_)
  have hw : wx D tc base u (E ++ ([(h0, .inr (4, [.int 0, .ref q1, .ref q2, .ref q3, .null, .null, .int 0, .null, .null])), (q1, .inl (tc 0, (30 : Int).toNat, .inl (fun _ => 0))), (q2, .inl (tc 0, (30 : Int).toNat, .inl (fun _ => 0))), (q3, .inl (tc 0, (150 : Int).toNat, .inl (fun _ => 0))), (q4, .inl (tc 0, (150 : Int).toNat, .inl (fun _ => 0)))] : va_W)) H := hw
  refine W.widen (k := 4) (n := 360) (by omega) (by omega) ?_
  refine g_putF (ci := 4) hx hb hf4 ⟨tyX4_ok, nmX4⟩ hw hS 0 rfl 4 (by decide) lk21 rfl hnm rfl (tyX4_ok 4 (by decide)) rfl rfl (Nat.le_of_ble_eq_true rfl) dX4_init_35 (fun H locs hw hS => ?_)
  have hw : wx D tc base u (E ++ ([(h0, .inr (4, [.int 0, .ref q1, .ref q2, .ref q3, .ref q4, .null, .int 0, .null, .null])), (q1, .inl (tc 0, (30 : Int).toNat, .inl (fun _ => 0))), (q2, .inl (tc 0, (30 : Int).toNat, .inl (fun _ => 0))), (q3, .inl (tc 0, (150 : Int).toNat, .inl (fun _ => 0))), (q4, .inl (tc 0, (150 : Int).toNat, .inl (fun _ => 0)))] : va_W)) H := hw
  refine lv_aload_n hx hb dX4_init_38 rfl (lv_at hl 0 rfl) ?_
  refine lv_sipush (v := jI 150) hx hb dX4_init_39 (by decide) ?_
  refine g_newa (t := 1) (z := 150) (a0 := ((150 : Int).toNat, .inr (.inl (fun _ => 0)))) (atype := .long) hx hb (hts (.arrayClass .long) (by first | exact gj_X4_init_0 _ (gp_4 (gp_4 gp_h)) | decide +kernel)) rfl hK.1 rfl hw hS hbs (fun _ => rfl) (by omega) (by omega) (by decide) (show 4 + 1 ≤ 7 by omega) (show 360 + (150 : Int).toNat ≤ 2460 by omega) dX4_init_42 (fun q5 H hw hS => ?_)
  have hw : wx D tc base u (E ++ ([(h0, .inr (4, [.int 0, .ref q1, .ref q2, .ref q3, .ref q4, .null, .int 0, .null, .null])), (q1, .inl (tc 0, (30 : Int).toNat, .inl (fun _ => 0))), (q2, .inl (tc 0, (30 : Int).toNat, .inl (fun _ => 0))), (q3, .inl (tc 0, (150 : Int).toNat, .inl (fun _ => 0))), (q4, .inl (tc 0, (150 : Int).toNat, .inl (fun _ => 0))), (q5, .inl (tc 1, (150 : Int).toNat, .inr (.inl (fun _ => 0))))] : va_W)) H := hw
  refine W.widen (k := 5) (n := 510) (by omega) (by omega) ?_
  refine g_putF (ci := 4) hx hb hf4 ⟨tyX4_ok, nmX4⟩ hw hS 0 rfl 5 (by decide) lk24 rfl hnm rfl (tyX4_ok 5 (by decide)) rfl rfl (Nat.le_of_ble_eq_true rfl) dX4_init_44 (fun H locs hw hS => ?_)
  have hw : wx D tc base u (E ++ ([(h0, .inr (4, [.int 0, .ref q1, .ref q2, .ref q3, .ref q4, .ref q5, .int 0, .null, .null])), (q1, .inl (tc 0, (30 : Int).toNat, .inl (fun _ => 0))), (q2, .inl (tc 0, (30 : Int).toNat, .inl (fun _ => 0))), (q3, .inl (tc 0, (150 : Int).toNat, .inl (fun _ => 0))), (q4, .inl (tc 0, (150 : Int).toNat, .inl (fun _ => 0))), (q5, .inl (tc 1, (150 : Int).toNat, .inr (.inl (fun _ => 0))))] : va_W)) H := hw
  refine lv_aload_n hx hb dX4_init_47 rfl (lv_at hl 0 rfl) ?_
  refine lv_sipush (v := jI 150) hx hb dX4_init_48 (by decide) ?_
  refine g_newa (t := 0) (z := 150) (a0 := ((150 : Int).toNat, .inl (fun _ => 0))) (atype := .int) hx hb (hts (.arrayClass .int) (by first | exact gj_X4_init_0 _ (gp_1 (gp_1 (gp_1 gp_h))) | decide +kernel)) rfl hK.1 rfl hw hS hbs (fun _ => rfl) (by omega) (by omega) (by decide) (show 5 + 1 ≤ 7 by omega) (show 510 + (150 : Int).toNat ≤ 2460 by omega) dX4_init_51 (fun q6 H hw hS => ?_)
  have hw : wx D tc base u (E ++ ([(h0, .inr (4, [.int 0, .ref q1, .ref q2, .ref q3, .ref q4, .ref q5, .int 0, .null, .null])), (q1, .inl (tc 0, (30 : Int).toNat, .inl (fun _ => 0))), (q2, .inl (tc 0, (30 : Int).toNat, .inl (fun _ => 0))), (q3, .inl (tc 0, (150 : Int).toNat, .inl (fun _ => 0))), (q4, .inl (tc 0, (150 : Int).toNat, .inl (fun _ => 0))), (q5, .inl (tc 1, (150 : Int).toNat, .inr (.inl (fun _ => 0)))), (q6, .inl (tc 0, (150 : Int).toNat, .inl (fun _ => 0)))] : va_W)) H := hw
  refine W.widen (k := 6) (n := 660) (by omega) (by omega) ?_
  refine g_putF (ci := 4) hx hb hf4 ⟨tyX4_ok, nmX4⟩ hw hS 0 rfl 7 (by decide) lk28 rfl hnm rfl (tyX4_ok 7 (by decide)) rfl rfl (Nat.le_of_ble_eq_true rfl) dX4_init_53 (fun H locs hw hS => ?_)
  have hw : wx D tc base u (E ++ ([(h0, .inr (4, [.int 0, .ref q1, .ref q2, .ref q3, .ref q4, .ref q5, .int 0, .ref q6, .null])), (q1, .inl (tc 0, (30 : Int).toNat, .inl (fun _ => 0))), (q2, .inl (tc 0, (30 : Int).toNat, .inl (fun _ => 0))), (q3, .inl (tc 0, (150 : Int).toNat, .inl (fun _ => 0))), (q4, .inl (tc 0, (150 : Int).toNat, .inl (fun _ => 0))), (q5, .inl (tc 1, (150 : Int).toNat, .inr (.inl (fun _ => 0)))), (q6, .inl (tc 0, (150 : Int).toNat, .inl (fun _ => 0)))] : va_W)) H := hw
  refine lv_aload_n hx hb dX4_init_56 rfl (lv_at hl 0 rfl) ?_
  refine lv_sipush (v := jI 1800) hx hb dX4_init_57 (by decide) ?_
  refine g_newa (t := 1) (z := 1800) (a0 := ((1800 : Int).toNat, .inr (.inl (fun _ => 0)))) (atype := .long) hx hb (hts (.arrayClass .long) (by first | exact gj_X4_init_0 _ (gp_4 (gp_4 gp_h)) | decide +kernel)) rfl hK.1 rfl hw hS hbs (fun _ => rfl) (by omega) (by omega) (by decide) (show 6 + 1 ≤ 7 by omega) (show 660 + (1800 : Int).toNat ≤ 2460 by omega) dX4_init_60 (fun q7 H hw hS => ?_)
  have hw : wx D tc base u (E ++ ([(h0, .inr (4, [.int 0, .ref q1, .ref q2, .ref q3, .ref q4, .ref q5, .int 0, .ref q6, .null])), (q1, .inl (tc 0, (30 : Int).toNat, .inl (fun _ => 0))), (q2, .inl (tc 0, (30 : Int).toNat, .inl (fun _ => 0))), (q3, .inl (tc 0, (150 : Int).toNat, .inl (fun _ => 0))), (q4, .inl (tc 0, (150 : Int).toNat, .inl (fun _ => 0))), (q5, .inl (tc 1, (150 : Int).toNat, .inr (.inl (fun _ => 0)))), (q6, .inl (tc 0, (150 : Int).toNat, .inl (fun _ => 0))), (q7, .inl (tc 1, (1800 : Int).toNat, .inr (.inl (fun _ => 0))))] : va_W)) H := hw
  refine W.widen (k := 7) (n := 2460) (by omega) (by omega) ?_
  refine g_putF (ci := 4) hx hb hf4 ⟨tyX4_ok, nmX4⟩ hw hS 0 rfl 8 (by decide) lk31 rfl hnm rfl (tyX4_ok 8 (by decide)) rfl rfl (Nat.le_of_ble_eq_true rfl) dX4_init_62 (fun H locs hw hS => ?_)
  have hw : wx D tc base u (E ++ ([(h0, .inr (4, [.int 0, .ref q1, .ref q2, .ref q3, .ref q4, .ref q5, .int 0, .ref q6, .ref q7])), (q1, .inl (tc 0, (30 : Int).toNat, .inl (fun _ => 0))), (q2, .inl (tc 0, (30 : Int).toNat, .inl (fun _ => 0))), (q3, .inl (tc 0, (150 : Int).toNat, .inl (fun _ => 0))), (q4, .inl (tc 0, (150 : Int).toNat, .inl (fun _ => 0))), (q5, .inl (tc 1, (150 : Int).toNat, .inr (.inl (fun _ => 0)))), (q6, .inl (tc 0, (150 : Int).toNat, .inl (fun _ => 0))), (q7, .inl (tc 1, (1800 : Int).toNat, .inr (.inl (fun _ => 0))))] : va_W)) H := hw
  refine ret_x hx hb hr hlocks hw hS (show 7 ≤ 7 by omega) (show 2460 ≤ 2460 by omega) dX4_init_65 ?_
  exact ⟨rfl, q1, q2, q3, q4, q5, q6, q7, rfl⟩

set_option maxHeartbeats 4000000 in
set_option maxRecDepth 100000 in
theorem c_X6_init (l : Launch) (D : va_G) (tc : Nat → ClassId) (base : Nat) (u : St) (E : va_W) (h0 : Nat)  : KC l D tc base yX6_init wsX6_init ({ frames := 1, cells := 2, slots := 10, locals := 12 } : Room) [.ref h0] u (E ++ ([(h0, .inr (6, [.null, .null, .null, .int 0]))] : va_W)) 2 10 (fun u' E' => u' = u ∧ ∃ q1 : Nat, ∃ q2 : Nat, E' = E ++ ([(h0, .inr (6, [.null, .ref q1, .ref q2, .int 0])), (q1, .inl (tc 1, (5 : Int).toNat, .inr (.inl (fun _ => 0)))), (q2, .inl (tc 6, (5 : Int).toNat, .inr (.inr (.inr (.inr (fun _ => none))))))] : va_W)) := by
  refine KC_of (cc := cX6_init) (maxL := 1) (ret := none) (by decide) rfl (Nat.le_of_ble_eq_true rfl) ?_
  intro p e s m below meth c ls hx hb hr hml hown hts hlocks hnm hl hK hw hS
  have hnm : meth.name = "<init>" := hnm
  have hown : s.vm.findClass RX6 = some m.cls := hown
  have hbs : base ≤ s.heap.size := hw.2.2
  have hi6 : ∀ w ∈ wsX60, w ∈ wsX6_init := fun w h => List.mem_cons_of_mem _ (List.mem_append_right _ h)
  have hf6 : fctx s m _ RX6 wsX6_init D tc RX6 TX6 4 6 := ⟨hts, hi6, hown, hK.1, rfl⟩
  have lk9 := hts (.fieldLink RX6 9 (TX6 1).1 (TX6 1).2.1 (TX6 1).2.2.1) (gj_X6_init_0 _ (gp_4 gp_h))
  have lk17 := hts (.fieldLink RX6 17 (TX6 2).1 (TX6 2).2.1 (TX6 2).2.2.1) (gj_X6_init_0 _ (gp_4 (gp_1 (gp_1 gp_h))))
  have hl : lv_has ls 1 [(0, .ref h0)] := hl
  refine lv_aload_n hx hb dX6_init_0 rfl (lv_at hl 0 rfl) ?_
  refine W.objInit hx hb hown (hts (.methodLink RX6 3 objectInit) (by first | exact gj_X6_init_0 _ (gp_h) | decide +kernel)) (hts (.instanceMethod objectInit) (by first | exact gj_X6_init_0 _ (gp_1 gp_h) | decide +kernel)) (hts _ (List.mem_cons_of_mem _ (List.mem_append_left _ (List.mem_of_getElem? (i := 2) rfl)))) rfl (by rw [hml]; exact hl.1) rfl dX6_init_1 (Nat.le_of_ble_eq_true rfl) (Nat.le_of_ble_eq_true rfl) ?_
  refine W.eq (g2 := F0 m 4 ls []) rfl ?_
  refine lv_aload_n hx hb dX6_init_4 rfl (lv_at hl 0 rfl) ?_
  refine lv_iconst (v := jI 5) hx hb dX6_init_5 rfl ?_
  refine g_newa (t := 1) (z := 5) (a0 := ((5 : Int).toNat, .inr (.inl (fun _ => 0)))) (atype := .long) hx hb (hts (.arrayClass .long) (by first | exact gj_X6_init_0 _ (gp_1 (gp_1 (gp_1 gp_h))) | decide +kernel)) rfl hK.1 rfl hw hS hbs (fun _ => rfl) (by omega) (by omega) (by decide) (show 0 + 1 ≤ 2 by omega) (show 0 + (5 : Int).toNat ≤ 10 by omega) dX6_init_6 (fun q1 H hw hS => ?_)
  have hw : wx D tc base u (E ++ ([(h0, .inr (6, [.null, .null, .null, .int 0])), (q1, .inl (tc 1, (5 : Int).toNat, .inr (.inl (fun _ => 0))))] : va_W)) H := hw
  refine W.widen (k := 1) (n := 5) (by omega) (by omega) ?_
  refine g_putF (ci := 6) hx hb hf6 ⟨tyX6_ok, nmX6⟩ hw hS 0 rfl 1 (by decide) lk9 rfl hnm rfl (tyX6_ok 1 (by decide)) rfl rfl (Nat.le_of_ble_eq_true rfl) dX6_init_8 (fun H locs hw hS => ?_)
  have hw : wx D tc base u (E ++ ([(h0, .inr (6, [.null, .ref q1, .null, .int 0])), (q1, .inl (tc 1, (5 : Int).toNat, .inr (.inl (fun _ => 0))))] : va_W)) H := hw
  refine lv_aload_n hx hb dX6_init_11 rfl (lv_at hl 0 rfl) ?_
  refine lv_iconst (v := jI 5) hx hb dX6_init_12 rfl ?_
  refine g_newq (t := 6) (z := 5) hx hb hown (hts (.classLink RX6 15 RX5) (by first | exact gj_X6_init_0 _ (gp_4 (gp_1 gp_h)) | decide +kernel)) hK.2.2.2.2.2.2.2.2.1 hK.1 rfl hw hS hbs (by omega) (by omega) (show 1 + 1 ≤ 2 by omega) (show 5 + (5 : Int).toNat ≤ 10 by omega) dX6_init_13 (fun q2 H hw hS => ?_)
  have hw : wx D tc base u (E ++ ([(h0, .inr (6, [.null, .ref q1, .null, .int 0])), (q1, .inl (tc 1, (5 : Int).toNat, .inr (.inl (fun _ => 0)))), (q2, .inl (tc 6, (5 : Int).toNat, .inr (.inr (.inr (.inr (fun _ => none))))))] : va_W)) H := hw
  refine W.widen (k := 2) (n := 10) (by omega) (by omega) ?_
  refine g_putF (ci := 6) hx hb hf6 ⟨tyX6_ok, nmX6⟩ hw hS 0 rfl 2 (by decide) lk17 rfl hnm rfl (tyX6_ok 2 (by decide)) rfl rfl (Nat.le_of_ble_eq_true rfl) dX6_init_16 (fun H locs hw hS => ?_)
  have hw : wx D tc base u (E ++ ([(h0, .inr (6, [.null, .ref q1, .ref q2, .int 0])), (q1, .inl (tc 1, (5 : Int).toNat, .inr (.inl (fun _ => 0)))), (q2, .inl (tc 6, (5 : Int).toNat, .inr (.inr (.inr (.inr (fun _ => none))))))] : va_W)) H := hw
  refine ret_x hx hb hr hlocks hw hS (show 2 ≤ 2 by omega) (show 10 ≤ 10 by omega) dX6_init_19 ?_
  exact ⟨rfl, q1, q2, rfl⟩

