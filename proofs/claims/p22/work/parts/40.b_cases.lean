section
set_option maxHeartbeats 4000000 in
set_option maxRecDepth 100000 in
theorem law_c7 {p : Program} {l : Launch} {e : Env} {s : State} {m : MethodId} {below : List Frame} {meth : Method} {c : Code} {b L : Nat} {xs : Nat → Int32} {D : va_G} {tc : Nat → ClassId} {Q : State → Prop} {q0 q1 q2 cB sB : Nat} {i : Int} (C : LK p l s m c b L xs D tc) (hi : 0 ≤ i ∧ i + 7 ≤ L) (hcB : cB + 310 ≤ 601024) (hsB : sB + 2110 ≤ 7293034) (hg : LAt p l e s m below meth c b D tc q0 q1 q2 i Q 1343 (cB + 310) (sB + 2110)) : LAt p l e s m below meth c b D tc q0 q1 q2 i Q 557 cB sB := by
  obtain ⟨hx, hb, hml, hown, hts, hX, hbl, hK, hT, hlT, hL⟩ := id C
  intro ad cnt X Y ln H locs ls cl sl hI hw hS hl hcl hsl
  obtain ⟨hI0, hRC0⟩ := id hI
  obtain ⟨i0, i40, i100, iFx, iOw, iN, iLn, iR, iCI, iRv, iMI⟩ := id hI0
  refine lv_aload_n hx hb dL_law_557 rfl (lv_at hl 1 rfl) ?_
  obtain ⟨a1, ea1, ga1⟩ := sc_at xs i 1
  refine l_arg (k := 1) (pc2 := 562) C hS hl hi (by omega) ea1 dL_law_558 dL_law_559 (fun h => lv_iconst (v := jI 1) hx hb dL_law_561 rfl h) dL_law_562 dL_law_563 ?_
  obtain ⟨h0, h40, h100, hFx, hOw, hN, hLn, hR, hCI, hRv, hMI⟩ := id hI0
  have hc0 : cnt 0 = 1 := hFx.at 0 1 (by decide)
  refine gos_i (run_V (k := 0) (i := 0) (As := [.int (jI a1)]) (rest := []) hx hb hml hown hts (c_X8_thing l D tc s.heap.size ad cnt X Y ln hR hFx hLn hCI a1 ga1) (cwV 1 hts gT_X8_thing rfl rfl rfl (by first | exact hd_X8_thing | decide +kernel) ⟨Nat.le_of_ble_eq_true rfl, Nat.le_of_ble_eq_true rfl⟩) hK hw (by first | exact Int.le_refl 0 | omega) (by first | exact zlt hc0 | omega) sl_0_0 rfl rfl hl.1 (by rw [h0]; rfl) (Nat.le_of_ble_eq_true rfl) dL_law_564 ⟨by show _ ≤ (601024 : Nat); omega, by show _ ≤ (7293034 : Nat); omega⟩) hS (fun z1 u2 H locs p3 hw hS => ?_)
  obtain ⟨X4, Y6, rfl, hRX4, hFX4, hHX4, hCX4, hzX4, pX4⟩ := p3
  have hI5 : LI0 q0 q1 q2 ad cnt X4 Y6 ln := LI0.cls hI0 hRX4 hFX4 hCX4 (by decide)
  refine lv_pop hx hb dL_law_567 rfl ?_
  refine lv_aload_n hx hb dL_law_568 rfl (lv_at hl 2 rfl) ?_
  refine l_arg (k := 1) (pc2 := 573) C hS hl hi (by omega) ea1 dL_law_569 dL_law_570 (fun h => lv_iconst (v := jI 1) hx hb dL_law_572 rfl h) dL_law_573 dL_law_574 ?_
  obtain ⟨h0, h40, h100, hFx, hOw, hN, hLn, hR, hCI, hRv, hMI⟩ := id hI5
  have hc40 : cnt 40 = 1 := hFx.at 40 1 (by decide)
  refine gos_i (run_V (k := 40) (i := 0) (As := [.int (jI a1)]) (rest := []) hx hb hml hown hts (c_X9_thing l D tc s.heap.size ad cnt X4 Y6 ln hR hFx hMI a1 ga1) (cwV 1 hts gT_X9_thing rfl rfl rfl (by first | exact hd_X9_thing | decide +kernel) ⟨Nat.le_of_ble_eq_true rfl, Nat.le_of_ble_eq_true rfl⟩) hK hw (by first | exact Int.le_refl 0 | omega) (by first | exact zlt hc40 | omega) sl_40_0 rfl rfl hl.1 (by rw [h40]; rfl) (Nat.le_of_ble_eq_true rfl) dL_law_575 ⟨by show _ ≤ (601024 : Nat); omega, by show _ ≤ (7293034 : Nat); omega⟩) hS (fun z7 u8 H locs p9 hw hS => ?_)
  obtain ⟨X10, rfl, hRX10, hFX10, hMX10, hzX10, pX10⟩ := p9
  have hI11 : LI0 q0 q1 q2 ad cnt X10 Y6 ln := LI0.mdl hI5 hRX10 hFX10 hMX10 (by decide)
  refine lv_pop hx hb dL_law_578 rfl ?_
  obtain ⟨hRC, hq9⟩ := J_thing hRC0 iMI iR hRX4 iLn iN hFX4 hHX4 pX4 hFX10 hMX10 pX10
  refine lv_goto (tgt := 1343) hx hb dL_law_579 (by decide) ?_
  exact hg _ _ _ _ _ H locs ls _ _ ⟨hI11, hRC⟩ hw hS hl (by omega) (by omega)

set_option maxHeartbeats 4000000 in
set_option maxRecDepth 100000 in
theorem law_c8 {p : Program} {l : Launch} {e : Env} {s : State} {m : MethodId} {below : List Frame} {meth : Method} {c : Code} {b L : Nat} {xs : Nat → Int32} {D : va_G} {tc : Nat → ClassId} {Q : State → Prop} {q0 q1 q2 cB sB : Nat} {i : Int} (C : LK p l s m c b L xs D tc) (hi : 0 ≤ i ∧ i + 7 ≤ L) (hcB : cB + 310 ≤ 601024) (hsB : sB + 2110 ≤ 7293034) (hg : LAt p l e s m below meth c b D tc q0 q1 q2 i Q 1343 (cB + 310) (sB + 2110)) : LAt p l e s m below meth c b D tc q0 q1 q2 i Q 582 cB sB := by
  obtain ⟨hx, hb, hml, hown, hts, hX, hbl, hK, hT, hlT, hL⟩ := id C
  intro ad cnt X Y ln H locs ls cl sl hI hw hS hl hcl hsl
  obtain ⟨hI0, hRC0⟩ := id hI
  obtain ⟨i0, i40, i100, iFx, iOw, iN, iLn, iR, iCI, iRv, iMI⟩ := id hI0
  refine lv_aload_n hx hb dL_law_582 rfl (lv_at hl 1 rfl) ?_
  obtain ⟨a1, ea1, ga1⟩ := sc_at xs i 1
  refine l_arg (k := 1) (pc2 := 587) C hS hl hi (by omega) ea1 dL_law_583 dL_law_584 (fun h => lv_iconst (v := jI 1) hx hb dL_law_586 rfl h) dL_law_587 dL_law_588 ?_
  obtain ⟨a2, ea2, ga2⟩ := sc_at xs i 2
  refine l_arg (k := 2) (pc2 := 593) C hS hl hi (by omega) ea2 dL_law_589 dL_law_590 (fun h => lv_iconst (v := jI 2) hx hb dL_law_592 rfl h) dL_law_593 dL_law_594 ?_
  obtain ⟨a3, ea3, ga3⟩ := sc_at xs i 3
  refine l_arg (k := 3) (pc2 := 599) C hS hl hi (by omega) ea3 dL_law_595 dL_law_596 (fun h => lv_iconst (v := jI 3) hx hb dL_law_598 rfl h) dL_law_599 dL_law_600 ?_
  refine lv_i2l hx hb dL_law_601 rfl ?_
  refine lv_bipush (v := jI 32) hx hb dL_law_602 (by decide) ?_
  refine lv_lshl hx hb dL_law_604 rfl ?_
  obtain ⟨a4, ea4, ga4⟩ := sc_at xs i 4
  refine l_arg (k := 4) (pc2 := 609) C hS hl hi (by omega) ea4 dL_law_605 dL_law_606 (fun h => lv_iconst (v := jI 4) hx hb dL_law_608 rfl h) dL_law_609 dL_law_610 ?_
  refine lv_i2l hx hb dL_law_611 rfl ?_
  refine lv_ldc2 hx hb hown C.c32 dL_law_612 ?_
  refine lv_land hx hb dL_law_615 ?_
  refine lv_lor hx hb dL_law_616 ?_
  refine l_topl (fun v3 gv3 ev3 => ?_)
  obtain ⟨h0, h40, h100, hFx, hOw, hN, hLn, hR, hCI, hRv, hMI⟩ := id hI0
  have hc0 : cnt 0 = 1 := hFx.at 0 1 (by decide)
  refine gos_i (run_V (k := 0) (i := 0) (As := [.int (jI a1), .int (jI a2), .long (jL v3)]) (rest := []) hx hb hml hown hts (c_X8_put l D tc s.heap.size ad cnt X Y ln hR hFx hLn hCI a1 a2 v3 ga1 ga2 gv3) (cwV 3 hts gT_X8_put rfl rfl rfl (by first | exact hd_X8_put | decide +kernel) ⟨Nat.le_of_ble_eq_true rfl, Nat.le_of_ble_eq_true rfl⟩) hK hw (by first | exact Int.le_refl 0 | omega) (by first | exact zlt hc0 | omega) sl_0_0 rfl rfl hl.1 (by rw [h0]; rfl) (Nat.le_of_ble_eq_true rfl) dL_law_617 ⟨by show _ ≤ (601024 : Nat); omega, by show _ ≤ (7293034 : Nat); omega⟩) hS (fun z1 u2 H locs p3 hw hS => ?_)
  obtain ⟨X4, Y6, rfl, hRX4, hFX4, hHX4, hCX4, hzX4, pX4⟩ := p3
  have hI5 : LI0 q0 q1 q2 ad cnt X4 Y6 ln := LI0.cls hI0 hRX4 hFX4 hCX4 (by decide)
  refine lv_pop hx hb dL_law_620 rfl ?_
  refine lv_aload_n hx hb dL_law_621 rfl (lv_at hl 2 rfl) ?_
  refine l_arg (k := 1) (pc2 := 626) C hS hl hi (by omega) ea1 dL_law_622 dL_law_623 (fun h => lv_iconst (v := jI 1) hx hb dL_law_625 rfl h) dL_law_626 dL_law_627 ?_
  refine l_arg (k := 2) (pc2 := 632) C hS hl hi (by omega) ea2 dL_law_628 dL_law_629 (fun h => lv_iconst (v := jI 2) hx hb dL_law_631 rfl h) dL_law_632 dL_law_633 ?_
  refine l_arg (k := 3) (pc2 := 638) C hS hl hi (by omega) ea3 dL_law_634 dL_law_635 (fun h => lv_iconst (v := jI 3) hx hb dL_law_637 rfl h) dL_law_638 dL_law_639 ?_
  refine lv_i2l hx hb dL_law_640 rfl ?_
  refine lv_bipush (v := jI 32) hx hb dL_law_641 (by decide) ?_
  refine lv_lshl hx hb dL_law_643 rfl ?_
  refine l_arg (k := 4) (pc2 := 648) C hS hl hi (by omega) ea4 dL_law_644 dL_law_645 (fun h => lv_iconst (v := jI 4) hx hb dL_law_647 rfl h) dL_law_648 dL_law_649 ?_
  refine lv_i2l hx hb dL_law_650 rfl ?_
  refine lv_ldc2 hx hb hown C.c32 dL_law_651 ?_
  refine lv_land hx hb dL_law_654 ?_
  refine lv_lor hx hb dL_law_655 ?_
  refine l_topt ev3 ?_
  obtain ⟨h0, h40, h100, hFx, hOw, hN, hLn, hR, hCI, hRv, hMI⟩ := id hI5
  have hc40 : cnt 40 = 1 := hFx.at 40 1 (by decide)
  refine gos_i (run_V (k := 40) (i := 0) (As := [.int (jI a1), .int (jI a2), .long (jL v3)]) (rest := []) hx hb hml hown hts (c_X9_put l D tc s.heap.size ad cnt X4 Y6 ln hR hFx hMI a1 a2 v3 ga1 ga2 gv3) (cwV 3 hts gT_X9_put rfl rfl rfl (by first | exact hd_X9_put | decide +kernel) ⟨Nat.le_of_ble_eq_true rfl, Nat.le_of_ble_eq_true rfl⟩) hK hw (by first | exact Int.le_refl 0 | omega) (by first | exact zlt hc40 | omega) sl_40_0 rfl rfl hl.1 (by rw [h40]; rfl) (Nat.le_of_ble_eq_true rfl) dL_law_656 ⟨by show _ ≤ (601024 : Nat); omega, by show _ ≤ (7293034 : Nat); omega⟩) hS (fun z7 u8 H locs p9 hw hS => ?_)
  obtain ⟨X10, rfl, hRX10, hFX10, hMX10, hzX10, pX10⟩ := p9
  have hI11 : LI0 q0 q1 q2 ad cnt X10 Y6 ln := LI0.mdl hI5 hRX10 hFX10 hMX10 (by decide)
  refine lv_pop hx hb dL_law_659 rfl ?_
  obtain ⟨hRC, hq9⟩ := J_put hRC0 iMI iR hRX4 iLn iN hFX4 hHX4 pX4 hFX10 hMX10 pX10
  refine lv_goto (tgt := 1343) hx hb dL_law_660 (by decide) ?_
  exact hg _ _ _ _ _ H locs ls _ _ ⟨hI11, hRC⟩ hw hS hl (by omega) (by omega)

set_option maxHeartbeats 4000000 in
set_option maxRecDepth 100000 in
theorem law_c9 {p : Program} {l : Launch} {e : Env} {s : State} {m : MethodId} {below : List Frame} {meth : Method} {c : Code} {b L : Nat} {xs : Nat → Int32} {D : va_G} {tc : Nat → ClassId} {Q : State → Prop} {q0 q1 q2 cB sB : Nat} {i : Int} (C : LK p l s m c b L xs D tc) (hi : 0 ≤ i ∧ i + 7 ≤ L) (hcB : cB + 310 ≤ 601024) (hsB : sB + 2110 ≤ 7293034) (hg : LAt p l e s m below meth c b D tc q0 q1 q2 i Q 1343 (cB + 310) (sB + 2110)) : LAt p l e s m below meth c b D tc q0 q1 q2 i Q 663 cB sB := by
  obtain ⟨hx, hb, hml, hown, hts, hX, hbl, hK, hT, hlT, hL⟩ := id C
  intro ad cnt X Y ln H locs ls cl sl hI hw hS hl hcl hsl
  obtain ⟨hI0, hRC0⟩ := id hI
  obtain ⟨i0, i40, i100, iFx, iOw, iN, iLn, iR, iCI, iRv, iMI⟩ := id hI0
  refine lv_aload_n hx hb dL_law_663 rfl (lv_at hl 1 rfl) ?_
  obtain ⟨a1, ea1, ga1⟩ := sc_at xs i 1
  refine l_arg (k := 1) (pc2 := 668) C hS hl hi (by omega) ea1 dL_law_664 dL_law_665 (fun h => lv_iconst (v := jI 1) hx hb dL_law_667 rfl h) dL_law_668 dL_law_669 ?_
  obtain ⟨a2, ea2, ga2⟩ := sc_at xs i 2
  refine l_arg (k := 2) (pc2 := 674) C hS hl hi (by omega) ea2 dL_law_670 dL_law_671 (fun h => lv_iconst (v := jI 2) hx hb dL_law_673 rfl h) dL_law_674 dL_law_675 ?_
  obtain ⟨a3, ea3, ga3⟩ := sc_at xs i 3
  refine l_arg (k := 3) (pc2 := 680) C hS hl hi (by omega) ea3 dL_law_676 dL_law_677 (fun h => lv_iconst (v := jI 3) hx hb dL_law_679 rfl h) dL_law_680 dL_law_681 ?_
  obtain ⟨h0, h40, h100, hFx, hOw, hN, hLn, hR, hCI, hRv, hMI⟩ := id hI0
  have hc0 : cnt 0 = 1 := hFx.at 0 1 (by decide)
  refine gos_i (run_V (k := 0) (i := 0) (As := [.int (jI a1), .int (jI a2), .int (jI a3)]) (rest := []) hx hb hml hown hts (c_X8_refer l D tc s.heap.size ad cnt X Y ln hR hFx hLn hCI a1 a2 a3 ga1 ga2 ga3) (cwV 3 hts gT_X8_refer rfl rfl rfl (by first | exact hd_X8_refer | decide +kernel) ⟨Nat.le_of_ble_eq_true rfl, Nat.le_of_ble_eq_true rfl⟩) hK hw (by first | exact Int.le_refl 0 | omega) (by first | exact zlt hc0 | omega) sl_0_0 rfl rfl hl.1 (by rw [h0]; rfl) (Nat.le_of_ble_eq_true rfl) dL_law_682 ⟨by show _ ≤ (601024 : Nat); omega, by show _ ≤ (7293034 : Nat); omega⟩) hS (fun z1 u2 H locs p3 hw hS => ?_)
  obtain ⟨X4, Y6, rfl, hRX4, hFX4, hHX4, hCX4, hzX4, pX4⟩ := p3
  have hI5 : LI0 q0 q1 q2 ad cnt X4 Y6 ln := LI0.cls hI0 hRX4 hFX4 hCX4 (by decide)
  refine lv_pop hx hb dL_law_685 rfl ?_
  refine lv_aload_n hx hb dL_law_686 rfl (lv_at hl 2 rfl) ?_
  refine l_arg (k := 1) (pc2 := 691) C hS hl hi (by omega) ea1 dL_law_687 dL_law_688 (fun h => lv_iconst (v := jI 1) hx hb dL_law_690 rfl h) dL_law_691 dL_law_692 ?_
  refine l_arg (k := 2) (pc2 := 697) C hS hl hi (by omega) ea2 dL_law_693 dL_law_694 (fun h => lv_iconst (v := jI 2) hx hb dL_law_696 rfl h) dL_law_697 dL_law_698 ?_
  refine l_arg (k := 3) (pc2 := 703) C hS hl hi (by omega) ea3 dL_law_699 dL_law_700 (fun h => lv_iconst (v := jI 3) hx hb dL_law_702 rfl h) dL_law_703 dL_law_704 ?_
  obtain ⟨h0, h40, h100, hFx, hOw, hN, hLn, hR, hCI, hRv, hMI⟩ := id hI5
  have hc40 : cnt 40 = 1 := hFx.at 40 1 (by decide)
  refine gos_i (run_V (k := 40) (i := 0) (As := [.int (jI a1), .int (jI a2), .int (jI a3)]) (rest := []) hx hb hml hown hts (c_X9_refer l D tc s.heap.size ad cnt X4 Y6 ln hR hFx hMI a1 a2 a3 ga1 ga2 ga3) (cwV 3 hts gT_X9_refer rfl rfl rfl (by first | exact hd_X9_refer | decide +kernel) ⟨Nat.le_of_ble_eq_true rfl, Nat.le_of_ble_eq_true rfl⟩) hK hw (by first | exact Int.le_refl 0 | omega) (by first | exact zlt hc40 | omega) sl_40_0 rfl rfl hl.1 (by rw [h40]; rfl) (Nat.le_of_ble_eq_true rfl) dL_law_705 ⟨by show _ ≤ (601024 : Nat); omega, by show _ ≤ (7293034 : Nat); omega⟩) hS (fun z7 u8 H locs p9 hw hS => ?_)
  obtain ⟨X10, rfl, hRX10, hFX10, hMX10, hzX10, pX10⟩ := p9
  have hI11 : LI0 q0 q1 q2 ad cnt X10 Y6 ln := LI0.mdl hI5 hRX10 hFX10 hMX10 (by decide)
  refine lv_pop hx hb dL_law_708 rfl ?_
  obtain ⟨hRC, hq9⟩ := J_refer hRC0 iMI iR hRX4 iLn iN hFX4 hHX4 pX4 hFX10 hMX10 pX10
  refine lv_goto (tgt := 1343) hx hb dL_law_709 (by decide) ?_
  exact hg _ _ _ _ _ H locs ls _ _ ⟨hI11, hRC⟩ hw hS hl (by omega) (by omega)

set_option maxHeartbeats 4000000 in
set_option maxRecDepth 100000 in
theorem law_c10 {p : Program} {l : Launch} {e : Env} {s : State} {m : MethodId} {below : List Frame} {meth : Method} {c : Code} {b L : Nat} {xs : Nat → Int32} {D : va_G} {tc : Nat → ClassId} {Q : State → Prop} {q0 q1 q2 cB sB : Nat} {i : Int} (C : LK p l s m c b L xs D tc) (hi : 0 ≤ i ∧ i + 7 ≤ L) (hcB : cB + 310 ≤ 601024) (hsB : sB + 2110 ≤ 7293034) (hg : LAt p l e s m below meth c b D tc q0 q1 q2 i Q 1343 (cB + 310) (sB + 2110)) : LAt p l e s m below meth c b D tc q0 q1 q2 i Q 712 cB sB := by
  obtain ⟨hx, hb, hml, hown, hts, hX, hbl, hK, hT, hlT, hL⟩ := id C
  intro ad cnt X Y ln H locs ls cl sl hI hw hS hl hcl hsl
  obtain ⟨hI0, hRC0⟩ := id hI
  obtain ⟨i0, i40, i100, iFx, iOw, iN, iLn, iR, iCI, iRv, iMI⟩ := id hI0
  refine lv_aload_n hx hb dL_law_712 rfl (lv_at hl 1 rfl) ?_
  obtain ⟨a1, ea1, ga1⟩ := sc_at xs i 1
  refine l_arg (k := 1) (pc2 := 717) C hS hl hi (by omega) ea1 dL_law_713 dL_law_714 (fun h => lv_iconst (v := jI 1) hx hb dL_law_716 rfl h) dL_law_717 dL_law_718 ?_
  obtain ⟨a2, ea2, ga2⟩ := sc_at xs i 2
  refine l_arg (k := 2) (pc2 := 723) C hS hl hi (by omega) ea2 dL_law_719 dL_law_720 (fun h => lv_iconst (v := jI 2) hx hb dL_law_722 rfl h) dL_law_723 dL_law_724 ?_
  obtain ⟨a3, ea3, ga3⟩ := sc_at xs i 3
  refine l_arg (k := 3) (pc2 := 729) C hS hl hi (by omega) ea3 dL_law_725 dL_law_726 (fun h => lv_iconst (v := jI 3) hx hb dL_law_728 rfl h) dL_law_729 dL_law_730 ?_
  obtain ⟨h0, h40, h100, hFx, hOw, hN, hLn, hR, hCI, hRv, hMI⟩ := id hI0
  have hc0 : cnt 0 = 1 := hFx.at 0 1 (by decide)
  refine gos_i (run_V (k := 0) (i := 0) (As := [.int (jI a1), .int (jI a2), .int (jI a3)]) (rest := []) hx hb hml hown hts (c_X8_row l D tc s.heap.size ad cnt X Y ln hR hFx hLn hCI hOw hN a1 a2 a3 ga1 ga2 ga3) (cwV 3 hts gT_X8_row rfl rfl rfl (by first | exact hd_X8_row | decide +kernel) ⟨Nat.le_of_ble_eq_true rfl, Nat.le_of_ble_eq_true rfl⟩) hK hw (by first | exact Int.le_refl 0 | omega) (by first | exact zlt hc0 | omega) sl_0_0 rfl rfl hl.1 (by rw [h0]; rfl) (Nat.le_of_ble_eq_true rfl) dL_law_731 ⟨by show _ ≤ (601024 : Nat); omega, by show _ ≤ (7293034 : Nat); omega⟩) hS (fun z1 u2 H locs p3 hw hS => ?_)
  obtain ⟨ad6, cnt7, X4, Y8, ln9, rfl, hEX4, hFxX4, hOwX4, hLnX4, hRX4, hFX4, hHX4, hCX4, hzX4, pX4⟩ := p3
  have hI5 : LI0 q0 q1 q2 ad6 cnt7 X4 Y8 ln9 := LI0.grow hI0 hEX4 hFxX4 hOwX4 hLnX4 hRX4 hFX4 hCX4 (by decide)
  refine lv_pop hx hb dL_law_734 rfl ?_
  refine lv_aload_n hx hb dL_law_735 rfl (lv_at hl 2 rfl) ?_
  refine l_arg (k := 1) (pc2 := 740) C hS hl hi (by omega) ea1 dL_law_736 dL_law_737 (fun h => lv_iconst (v := jI 1) hx hb dL_law_739 rfl h) dL_law_740 dL_law_741 ?_
  refine l_arg (k := 2) (pc2 := 746) C hS hl hi (by omega) ea2 dL_law_742 dL_law_743 (fun h => lv_iconst (v := jI 2) hx hb dL_law_745 rfl h) dL_law_746 dL_law_747 ?_
  refine l_arg (k := 3) (pc2 := 752) C hS hl hi (by omega) ea3 dL_law_748 dL_law_749 (fun h => lv_iconst (v := jI 3) hx hb dL_law_751 rfl h) dL_law_752 dL_law_753 ?_
  obtain ⟨h0, h40, h100, hFx, hOw, hN, hLn, hR, hCI, hRv, hMI⟩ := id hI5
  have hc40 : cnt7 40 = 1 := hFx.at 40 1 (by decide)
  refine gos_i (run_V (k := 40) (i := 0) (As := [.int (jI a1), .int (jI a2), .int (jI a3)]) (rest := []) hx hb hml hown hts (c_X9_row l D tc s.heap.size ad6 cnt7 X4 Y8 ln9 hR hFx hMI a1 a2 a3 ga1 ga2 ga3) (cwV 3 hts gT_X9_row rfl rfl rfl (by first | exact hd_X9_row | decide +kernel) ⟨Nat.le_of_ble_eq_true rfl, Nat.le_of_ble_eq_true rfl⟩) hK hw (by first | exact Int.le_refl 0 | omega) (by first | exact zlt hc40 | omega) sl_40_0 rfl rfl hl.1 (by rw [h40]; rfl) (Nat.le_of_ble_eq_true rfl) dL_law_754 ⟨by show _ ≤ (601024 : Nat); omega, by show _ ≤ (7293034 : Nat); omega⟩) hS (fun z10 u11 H locs p12 hw hS => ?_)
  obtain ⟨X13, rfl, hRX13, hFX13, hMX13, hzX13, pX13⟩ := p12
  have hI14 : LI0 q0 q1 q2 ad6 cnt7 X13 Y8 ln9 := LI0.mdl hI5 hRX13 hFX13 hMX13 (by decide)
  refine lv_pop hx hb dL_law_757 rfl ?_
  obtain ⟨hRC, hq9⟩ := J_row hRC0 iMI iR hRX4 iLn iN hFX4 hHX4 hEX4.2.1 hEX4.2.2 hLnX4 pX4 hFX13 hMX13 pX13
  refine lv_goto (tgt := 1343) hx hb dL_law_758 (by decide) ?_
  exact hg _ _ _ _ _ H locs ls _ _ ⟨hI14, hRC⟩ hw hS hl (by omega) (by omega)

set_option maxHeartbeats 4000000 in
set_option maxRecDepth 100000 in
theorem law_c11 {p : Program} {l : Launch} {e : Env} {s : State} {m : MethodId} {below : List Frame} {meth : Method} {c : Code} {b L : Nat} {xs : Nat → Int32} {D : va_G} {tc : Nat → ClassId} {Q : State → Prop} {q0 q1 q2 cB sB : Nat} {i : Int} (C : LK p l s m c b L xs D tc) (hi : 0 ≤ i ∧ i + 7 ≤ L) (hcB : cB + 310 ≤ 601024) (hsB : sB + 2110 ≤ 7293034) (hg : LAt p l e s m below meth c b D tc q0 q1 q2 i Q 1343 (cB + 310) (sB + 2110)) : LAt p l e s m below meth c b D tc q0 q1 q2 i Q 761 cB sB := by
  obtain ⟨hx, hb, hml, hown, hts, hX, hbl, hK, hT, hlT, hL⟩ := id C
  intro ad cnt X Y ln H locs ls cl sl hI hw hS hl hcl hsl
  obtain ⟨hI0, hRC0⟩ := id hI
  obtain ⟨i0, i40, i100, iFx, iOw, iN, iLn, iR, iCI, iRv, iMI⟩ := id hI0
  refine lv_aload_n hx hb dL_law_761 rfl (lv_at hl 1 rfl) ?_
  obtain ⟨a1, ea1, ga1⟩ := sc_at xs i 1
  refine l_arg (k := 1) (pc2 := 766) C hS hl hi (by omega) ea1 dL_law_762 dL_law_763 (fun h => lv_iconst (v := jI 1) hx hb dL_law_765 rfl h) dL_law_766 dL_law_767 ?_
  obtain ⟨a2, ea2, ga2⟩ := sc_at xs i 2
  refine l_arg (k := 2) (pc2 := 772) C hS hl hi (by omega) ea2 dL_law_768 dL_law_769 (fun h => lv_iconst (v := jI 2) hx hb dL_law_771 rfl h) dL_law_772 dL_law_773 ?_
  obtain ⟨a3, ea3, ga3⟩ := sc_at xs i 3
  refine l_arg (k := 3) (pc2 := 778) C hS hl hi (by omega) ea3 dL_law_774 dL_law_775 (fun h => lv_iconst (v := jI 3) hx hb dL_law_777 rfl h) dL_law_778 dL_law_779 ?_
  obtain ⟨a4, ea4, ga4⟩ := sc_at xs i 4
  refine l_arg (k := 4) (pc2 := 784) C hS hl hi (by omega) ea4 dL_law_780 dL_law_781 (fun h => lv_iconst (v := jI 4) hx hb dL_law_783 rfl h) dL_law_784 dL_law_785 ?_
  obtain ⟨h0, h40, h100, hFx, hOw, hN, hLn, hR, hCI, hRv, hMI⟩ := id hI0
  have hc0 : cnt 0 = 1 := hFx.at 0 1 (by decide)
  refine gos_i (run_V (k := 0) (i := 0) (As := [.int (jI a1), .int (jI a2), .int (jI a3), .int (jI a4)]) (rest := []) hx hb hml hown hts (c_X8_share l D tc s.heap.size ad cnt X Y ln hR hFx hLn hCI a1 a2 a3 a4 ga1 ga2 ga3 ga4) (cwV 4 hts gT_X8_share rfl rfl rfl (by first | exact hd_X8_share | decide +kernel) ⟨Nat.le_of_ble_eq_true rfl, Nat.le_of_ble_eq_true rfl⟩) hK hw (by first | exact Int.le_refl 0 | omega) (by first | exact zlt hc0 | omega) sl_0_0 rfl rfl hl.1 (by rw [h0]; rfl) (Nat.le_of_ble_eq_true rfl) dL_law_786 ⟨by show _ ≤ (601024 : Nat); omega, by show _ ≤ (7293034 : Nat); omega⟩) hS (fun z1 u2 H locs p3 hw hS => ?_)
  obtain ⟨X4, Y6, rfl, hRX4, hFX4, hHX4, hCX4, hzX4, pX4⟩ := p3
  have hI5 : LI0 q0 q1 q2 ad cnt X4 Y6 ln := LI0.cls hI0 hRX4 hFX4 hCX4 (by decide)
  refine lv_pop hx hb dL_law_789 rfl ?_
  refine lv_aload_n hx hb dL_law_790 rfl (lv_at hl 2 rfl) ?_
  refine l_arg (k := 1) (pc2 := 795) C hS hl hi (by omega) ea1 dL_law_791 dL_law_792 (fun h => lv_iconst (v := jI 1) hx hb dL_law_794 rfl h) dL_law_795 dL_law_796 ?_
  refine l_arg (k := 2) (pc2 := 801) C hS hl hi (by omega) ea2 dL_law_797 dL_law_798 (fun h => lv_iconst (v := jI 2) hx hb dL_law_800 rfl h) dL_law_801 dL_law_802 ?_
  refine l_arg (k := 3) (pc2 := 807) C hS hl hi (by omega) ea3 dL_law_803 dL_law_804 (fun h => lv_iconst (v := jI 3) hx hb dL_law_806 rfl h) dL_law_807 dL_law_808 ?_
  refine l_arg (k := 4) (pc2 := 813) C hS hl hi (by omega) ea4 dL_law_809 dL_law_810 (fun h => lv_iconst (v := jI 4) hx hb dL_law_812 rfl h) dL_law_813 dL_law_814 ?_
  obtain ⟨h0, h40, h100, hFx, hOw, hN, hLn, hR, hCI, hRv, hMI⟩ := id hI5
  have hc40 : cnt 40 = 1 := hFx.at 40 1 (by decide)
  refine gos_i (run_V (k := 40) (i := 0) (As := [.int (jI a1), .int (jI a2), .int (jI a3), .int (jI a4)]) (rest := []) hx hb hml hown hts (c_X9_share l D tc s.heap.size ad cnt X4 Y6 ln hR hFx hMI a1 a2 a3 a4 ga1 ga2 ga3 ga4) (cwV 4 hts gT_X9_share rfl rfl rfl (by first | exact hd_X9_share | decide +kernel) ⟨Nat.le_of_ble_eq_true rfl, Nat.le_of_ble_eq_true rfl⟩) hK hw (by first | exact Int.le_refl 0 | omega) (by first | exact zlt hc40 | omega) sl_40_0 rfl rfl hl.1 (by rw [h40]; rfl) (Nat.le_of_ble_eq_true rfl) dL_law_815 ⟨by show _ ≤ (601024 : Nat); omega, by show _ ≤ (7293034 : Nat); omega⟩) hS (fun z7 u8 H locs p9 hw hS => ?_)
  obtain ⟨X10, rfl, hRX10, hFX10, hMX10, hzX10, pX10⟩ := p9
  have hI11 : LI0 q0 q1 q2 ad cnt X10 Y6 ln := LI0.mdl hI5 hRX10 hFX10 hMX10 (by decide)
  refine lv_pop hx hb dL_law_818 rfl ?_
  obtain ⟨hRC, hq9⟩ := J_share hRC0 iMI iR hRX4 iLn iN hFX4 hHX4 pX4 hFX10 hMX10 pX10
  refine lv_goto (tgt := 1343) hx hb dL_law_819 (by decide) ?_
  exact hg _ _ _ _ _ H locs ls _ _ ⟨hI11, hRC⟩ hw hS hl (by omega) (by omega)

set_option maxHeartbeats 4000000 in
set_option maxRecDepth 100000 in
theorem law_c12 {p : Program} {l : Launch} {e : Env} {s : State} {m : MethodId} {below : List Frame} {meth : Method} {c : Code} {b L : Nat} {xs : Nat → Int32} {D : va_G} {tc : Nat → ClassId} {Q : State → Prop} {q0 q1 q2 cB sB : Nat} {i : Int} (C : LK p l s m c b L xs D tc) (hi : 0 ≤ i ∧ i + 7 ≤ L) (hcB : cB + 310 ≤ 601024) (hsB : sB + 2110 ≤ 7293034) (hg : LAt p l e s m below meth c b D tc q0 q1 q2 i Q 1343 (cB + 310) (sB + 2110)) : LAt p l e s m below meth c b D tc q0 q1 q2 i Q 822 cB sB := by
  obtain ⟨hx, hb, hml, hown, hts, hX, hbl, hK, hT, hlT, hL⟩ := id C
  intro ad cnt X Y ln H locs ls cl sl hI hw hS hl hcl hsl
  obtain ⟨hI0, hRC0⟩ := id hI
  obtain ⟨i0, i40, i100, iFx, iOw, iN, iLn, iR, iCI, iRv, iMI⟩ := id hI0
  refine lv_aload_n hx hb dL_law_822 rfl (lv_at hl 1 rfl) ?_
  obtain ⟨a1, ea1, ga1⟩ := sc_at xs i 1
  refine l_arg (k := 1) (pc2 := 827) C hS hl hi (by omega) ea1 dL_law_823 dL_law_824 (fun h => lv_iconst (v := jI 1) hx hb dL_law_826 rfl h) dL_law_827 dL_law_828 ?_
  obtain ⟨a2, ea2, ga2⟩ := sc_at xs i 2
  refine l_arg (k := 2) (pc2 := 833) C hS hl hi (by omega) ea2 dL_law_829 dL_law_830 (fun h => lv_iconst (v := jI 2) hx hb dL_law_832 rfl h) dL_law_833 dL_law_834 ?_
  obtain ⟨a3, ea3, ga3⟩ := sc_at xs i 3
  refine l_arg (k := 3) (pc2 := 839) C hS hl hi (by omega) ea3 dL_law_835 dL_law_836 (fun h => lv_iconst (v := jI 3) hx hb dL_law_838 rfl h) dL_law_839 dL_law_840 ?_
  obtain ⟨a4, ea4, ga4⟩ := sc_at xs i 4
  refine l_arg (k := 4) (pc2 := 845) C hS hl hi (by omega) ea4 dL_law_841 dL_law_842 (fun h => lv_iconst (v := jI 4) hx hb dL_law_844 rfl h) dL_law_845 dL_law_846 ?_
  refine lv_i2l hx hb dL_law_847 rfl ?_
  refine lv_bipush (v := jI 32) hx hb dL_law_848 (by decide) ?_
  refine lv_lshl hx hb dL_law_850 rfl ?_
  obtain ⟨a5, ea5, ga5⟩ := sc_at xs i 5
  refine l_arg (k := 5) (pc2 := 855) C hS hl hi (by omega) ea5 dL_law_851 dL_law_852 (fun h => lv_iconst (v := jI 5) hx hb dL_law_854 rfl h) dL_law_855 dL_law_856 ?_
  refine lv_i2l hx hb dL_law_857 rfl ?_
  refine lv_ldc2 hx hb hown C.c32 dL_law_858 ?_
  refine lv_land hx hb dL_law_861 ?_
  refine lv_lor hx hb dL_law_862 ?_
  refine l_topl (fun v4 gv4 ev4 => ?_)
  obtain ⟨h0, h40, h100, hFx, hOw, hN, hLn, hR, hCI, hRv, hMI⟩ := id hI0
  have hc0 : cnt 0 = 1 := hFx.at 0 1 (by decide)
  refine gos_i (run_V (k := 0) (i := 0) (As := [.int (jI a1), .int (jI a2), .int (jI a3), .long (jL v4)]) (rest := []) hx hb hml hown hts (c_X8_item l D tc s.heap.size ad cnt X Y ln hR hFx hLn hCI a1 a2 a3 v4 ga1 ga2 ga3 gv4) (cwV 4 hts gT_X8_item rfl rfl rfl (by first | exact hd_X8_item | decide +kernel) ⟨Nat.le_of_ble_eq_true rfl, Nat.le_of_ble_eq_true rfl⟩) hK hw (by first | exact Int.le_refl 0 | omega) (by first | exact zlt hc0 | omega) sl_0_0 rfl rfl hl.1 (by rw [h0]; rfl) (Nat.le_of_ble_eq_true rfl) dL_law_863 ⟨by show _ ≤ (601024 : Nat); omega, by show _ ≤ (7293034 : Nat); omega⟩) hS (fun z1 u2 H locs p3 hw hS => ?_)
  obtain ⟨X4, Y6, rfl, hRX4, hFX4, hHX4, hCX4, hzX4, pX4⟩ := p3
  have hI5 : LI0 q0 q1 q2 ad cnt X4 Y6 ln := LI0.cls hI0 hRX4 hFX4 hCX4 (by decide)
  refine lv_pop hx hb dL_law_866 rfl ?_
  refine lv_aload_n hx hb dL_law_867 rfl (lv_at hl 2 rfl) ?_
  refine l_arg (k := 1) (pc2 := 872) C hS hl hi (by omega) ea1 dL_law_868 dL_law_869 (fun h => lv_iconst (v := jI 1) hx hb dL_law_871 rfl h) dL_law_872 dL_law_873 ?_
  refine l_arg (k := 2) (pc2 := 878) C hS hl hi (by omega) ea2 dL_law_874 dL_law_875 (fun h => lv_iconst (v := jI 2) hx hb dL_law_877 rfl h) dL_law_878 dL_law_879 ?_
  refine l_arg (k := 3) (pc2 := 884) C hS hl hi (by omega) ea3 dL_law_880 dL_law_881 (fun h => lv_iconst (v := jI 3) hx hb dL_law_883 rfl h) dL_law_884 dL_law_885 ?_
  refine l_arg (k := 4) (pc2 := 890) C hS hl hi (by omega) ea4 dL_law_886 dL_law_887 (fun h => lv_iconst (v := jI 4) hx hb dL_law_889 rfl h) dL_law_890 dL_law_891 ?_
  refine lv_i2l hx hb dL_law_892 rfl ?_
  refine lv_bipush (v := jI 32) hx hb dL_law_893 (by decide) ?_
  refine lv_lshl hx hb dL_law_895 rfl ?_
  refine l_arg (k := 5) (pc2 := 900) C hS hl hi (by omega) ea5 dL_law_896 dL_law_897 (fun h => lv_iconst (v := jI 5) hx hb dL_law_899 rfl h) dL_law_900 dL_law_901 ?_
  refine lv_i2l hx hb dL_law_902 rfl ?_
  refine lv_ldc2 hx hb hown C.c32 dL_law_903 ?_
  refine lv_land hx hb dL_law_906 ?_
  refine lv_lor hx hb dL_law_907 ?_
  refine l_topt ev4 ?_
  obtain ⟨h0, h40, h100, hFx, hOw, hN, hLn, hR, hCI, hRv, hMI⟩ := id hI5
  have hc40 : cnt 40 = 1 := hFx.at 40 1 (by decide)
  refine gos_i (run_V (k := 40) (i := 0) (As := [.int (jI a1), .int (jI a2), .int (jI a3), .long (jL v4)]) (rest := []) hx hb hml hown hts (c_X9_item l D tc s.heap.size ad cnt X4 Y6 ln hR hFx hMI a1 a2 a3 v4 ga1 ga2 ga3 gv4) (cwV 4 hts gT_X9_item rfl rfl rfl (by first | exact hd_X9_item | decide +kernel) ⟨Nat.le_of_ble_eq_true rfl, Nat.le_of_ble_eq_true rfl⟩) hK hw (by first | exact Int.le_refl 0 | omega) (by first | exact zlt hc40 | omega) sl_40_0 rfl rfl hl.1 (by rw [h40]; rfl) (Nat.le_of_ble_eq_true rfl) dL_law_908 ⟨by show _ ≤ (601024 : Nat); omega, by show _ ≤ (7293034 : Nat); omega⟩) hS (fun z7 u8 H locs p9 hw hS => ?_)
  obtain ⟨X10, rfl, hRX10, hFX10, hMX10, hzX10, pX10⟩ := p9
  have hI11 : LI0 q0 q1 q2 ad cnt X10 Y6 ln := LI0.mdl hI5 hRX10 hFX10 hMX10 (by decide)
  refine lv_pop hx hb dL_law_911 rfl ?_
  obtain ⟨hRC, hq9⟩ := J_item hRC0 iMI iR hRX4 iLn iN hFX4 hHX4 pX4 hFX10 hMX10 pX10
  refine lv_goto (tgt := 1343) hx hb dL_law_912 (by decide) ?_
  exact hg _ _ _ _ _ H locs ls _ _ ⟨hI11, hRC⟩ hw hS hl (by omega) (by omega)

set_option maxHeartbeats 4000000 in
set_option maxRecDepth 100000 in
theorem law_c13 {p : Program} {l : Launch} {e : Env} {s : State} {m : MethodId} {below : List Frame} {meth : Method} {c : Code} {b L : Nat} {xs : Nat → Int32} {D : va_G} {tc : Nat → ClassId} {Q : State → Prop} {q0 q1 q2 cB sB : Nat} {i : Int} (C : LK p l s m c b L xs D tc) (hi : 0 ≤ i ∧ i + 7 ≤ L) (hcB : cB + 310 ≤ 601024) (hsB : sB + 2110 ≤ 7293034) (hg : LAt p l e s m below meth c b D tc q0 q1 q2 i Q 1343 (cB + 310) (sB + 2110)) : LAt p l e s m below meth c b D tc q0 q1 q2 i Q 915 cB sB := by
  obtain ⟨hx, hb, hml, hown, hts, hX, hbl, hK, hT, hlT, hL⟩ := id C
  intro ad cnt X Y ln H locs ls cl sl hI hw hS hl hcl hsl
  obtain ⟨hI0, hRC0⟩ := id hI
  obtain ⟨i0, i40, i100, iFx, iOw, iN, iLn, iR, iCI, iRv, iMI⟩ := id hI0
  refine lv_aload_n hx hb dL_law_915 rfl (lv_at hl 1 rfl) ?_
  obtain ⟨a1, ea1, ga1⟩ := sc_at xs i 1
  refine l_arg (k := 1) (pc2 := 920) C hS hl hi (by omega) ea1 dL_law_916 dL_law_917 (fun h => lv_iconst (v := jI 1) hx hb dL_law_919 rfl h) dL_law_920 dL_law_921 ?_
  obtain ⟨a2, ea2, ga2⟩ := sc_at xs i 2
  refine l_arg (k := 2) (pc2 := 926) C hS hl hi (by omega) ea2 dL_law_922 dL_law_923 (fun h => lv_iconst (v := jI 2) hx hb dL_law_925 rfl h) dL_law_926 dL_law_927 ?_
  refine lv_aload_n hx hb dL_law_928 rfl (lv_at hl 3 rfl) ?_
  obtain ⟨h0, h40, h100, hFx, hOw, hN, hLn, hR, hCI, hRv, hMI⟩ := id hI0
  refine vx_calli (vx_runSX (As := [.ref (ad 0 0), .int (jI a1), .int (jI a2), .ref (ad 100 0)]) (rest := []) ⟨hx, hb, hml, hown, hts⟩ (c_L_at l hlT D tc s.heap.size ad cnt X Y ln hR hFx hLn hCI a1 a2 ga1 ga2) (vx_cwSW 4 hts gT_L_at rfl rfl rfl (by decide +kernel) ⟨Nat.le_of_ble_eq_true rfl, Nat.le_of_ble_eq_true rfl⟩) ⟨PcT.blind, fun U hU hW => ⟨rfl, by rw [hU]; exact hw, hK.warm hW, by rw [hU]; exact hT.go hS hW⟩⟩ rfl rfl hl.1 (by rw [h0, h100]; rfl) (lv_room (Nat.le_of_ble_eq_true rfl)) dL_law_929 ⟨by show _ ≤ (601024 : Nat); omega, by show _ ≤ (7293034 : Nat); omega⟩) hS (fun q _ h => h) (fun q h => h) (fun q _ h => h) (fun E ce q9 u9 t H1 locs1 ht hvm hp hB hz hk1 hS1 hcell hv hcl => absurd hp id) (fun r9 u9 t9 H locs ht9 hvm9 hp9 hB9 hz9 hk9 hS => ?_)
  obtain ⟨z2, rfl, X1, rfl, hRX1, hFX1, hzX1⟩ := hp9
  rw [ht9] at hB9
  have hw := hB9
  have hI3 : LI0 q0 q1 q2 ad cnt X1 Y ln := LI0.cls hI0 hRX1 hFX1 (cinv_frm (M := [10000]) (N := []) hCI hFX1 Frm.rf (by decide) (by decide)) (by decide)
  refine lv_istore (lv' := (5, .int (jI z2)) :: LV b q0 q1 q2 i) hx hb dL_law_932 hl (by decide) rfl (fun ls hl => ?_)
  have hl : lv_has ls 8 (LV b q0 q1 q2 i) := lv_sub hl [1, 2, 3, 4, 5] rfl
  refine lv_aload_n hx hb dL_law_934 rfl (lv_at hl 2 rfl) ?_
  refine l_arg (k := 1) (pc2 := 939) C hS hl hi (by omega) ea1 dL_law_935 dL_law_936 (fun h => lv_iconst (v := jI 1) hx hb dL_law_938 rfl h) dL_law_939 dL_law_940 ?_
  refine l_arg (k := 2) (pc2 := 945) C hS hl hi (by omega) ea2 dL_law_941 dL_law_942 (fun h => lv_iconst (v := jI 2) hx hb dL_law_944 rfl h) dL_law_945 dL_law_946 ?_
  obtain ⟨h0, h40, h100, hFx, hOw, hN, hLn, hR, hCI, hRv, hMI⟩ := id hI3
  have hc40 : cnt 40 = 1 := hFx.at 40 1 (by decide)
  refine gos_l (run_V (k := 40) (i := 0) (As := [.int (jI a1), .int (jI a2)]) (rest := []) hx hb hml hown hts (c_X9_at l D tc s.heap.size ad cnt X1 Y ln hR hFx hMI a1 a2 ga1 ga2) (cwV 2 hts gT_X9_at rfl rfl rfl (by first | exact hd_X9_at | decide +kernel) ⟨Nat.le_of_ble_eq_true rfl, Nat.le_of_ble_eq_true rfl⟩) hK hw (by first | exact Int.le_refl 0 | omega) (by first | exact zlt hc40 | omega) sl_40_0 rfl rfl hl.1 (by rw [h40]; rfl) (Nat.le_of_ble_eq_true rfl) dL_law_947 ⟨by show _ ≤ (601024 : Nat); omega, by show _ ≤ (7293034 : Nat); omega⟩) hS (fun z4 u5 H locs p6 hw hS => ?_)
  obtain ⟨X7, rfl, hRX7, hFX7, hMX7, hzX7, pX7⟩ := p6
  have hI8 : LI0 q0 q1 q2 ad cnt X7 Y ln := LI0.mdl hI3 hRX7 hFX7 hMX7 (by decide)
  refine lv_lstore (lv' := (6, .long (jL z4)) :: LV b q0 q1 q2 i) hx hb dL_law_950 hl (by decide) rfl (fun ls hl => ?_)
  have hl : lv_has ls 8 (LV b q0 q1 q2 i) := lv_sub hl [1, 2, 3, 4, 5] rfl
  have hRC : RC cnt X7 Y ln := RC.two hRC0 hFX1 hFX7 (by decide) (by decide) (by decide) (by decide)
  refine lv_goto (tgt := 1343) hx hb dL_law_952 (by decide) ?_
  exact hg _ _ _ _ _ H locs ls _ _ ⟨hI8, hRC⟩ hw hS hl (by omega) (by omega)
end
section
set_option maxHeartbeats 4000000 in
set_option maxRecDepth 100000 in
theorem law_c14 {p : Program} {l : Launch} {e : Env} {s : State} {m : MethodId} {below : List Frame} {meth : Method} {c : Code} {b L : Nat} {xs : Nat → Int32} {D : va_G} {tc : Nat → ClassId} {Q : State → Prop} {q0 q1 q2 cB sB : Nat} {i : Int} (C : LK p l s m c b L xs D tc) (hi : 0 ≤ i ∧ i + 7 ≤ L) (hcB : cB + 310 ≤ 601024) (hsB : sB + 2110 ≤ 7293034) (hg : LAt p l e s m below meth c b D tc q0 q1 q2 i Q 1343 (cB + 310) (sB + 2110)) : LAt p l e s m below meth c b D tc q0 q1 q2 i Q 955 cB sB := by
  obtain ⟨hx, hb, hml, hown, hts, hX, hbl, hK, hT, hlT, hL⟩ := id C
  intro ad cnt X Y ln H locs ls cl sl hI hw hS hl hcl hsl
  obtain ⟨hI0, hRC0⟩ := id hI
  obtain ⟨i0, i40, i100, iFx, iOw, iN, iLn, iR, iCI, iRv, iMI⟩ := id hI0
  refine lv_aload_n hx hb dL_law_955 rfl (lv_at hl 1 rfl) ?_
  obtain ⟨a1, ea1, ga1⟩ := sc_at xs i 1
  refine l_arg (k := 1) (pc2 := 960) C hS hl hi (by omega) ea1 dL_law_956 dL_law_957 (fun h => lv_iconst (v := jI 1) hx hb dL_law_959 rfl h) dL_law_960 dL_law_961 ?_
  obtain ⟨a2, ea2, ga2⟩ := sc_at xs i 2
  refine l_arg (k := 2) (pc2 := 966) C hS hl hi (by omega) ea2 dL_law_962 dL_law_963 (fun h => lv_iconst (v := jI 2) hx hb dL_law_965 rfl h) dL_law_966 dL_law_967 ?_
  obtain ⟨a3, ea3, ga3⟩ := sc_at xs i 3
  refine l_arg (k := 3) (pc2 := 972) C hS hl hi (by omega) ea3 dL_law_968 dL_law_969 (fun h => lv_iconst (v := jI 3) hx hb dL_law_971 rfl h) dL_law_972 dL_law_973 ?_
  refine lv_aload_n hx hb dL_law_974 rfl (lv_at hl 3 rfl) ?_
  obtain ⟨h0, h40, h100, hFx, hOw, hN, hLn, hR, hCI, hRv, hMI⟩ := id hI0
  refine vx_calli (vx_runSX (As := [.ref (ad 0 0), .int (jI a1), .int (jI a2), .int (jI a3), .ref (ad 100 0)]) (rest := []) ⟨hx, hb, hml, hown, hts⟩ (c_L_itemAt l hlT D tc s.heap.size ad cnt X Y ln hR hFx hLn hCI a1 a2 a3 ga1 ga2 ga3) (vx_cwSW 5 hts gT_L_itemAt rfl rfl rfl (by decide +kernel) ⟨Nat.le_of_ble_eq_true rfl, Nat.le_of_ble_eq_true rfl⟩) ⟨PcT.blind, fun U hU hW => ⟨rfl, by rw [hU]; exact hw, hK.warm hW, by rw [hU]; exact hT.go hS hW⟩⟩ rfl rfl hl.1 (by rw [h0, h100]; rfl) (lv_room (Nat.le_of_ble_eq_true rfl)) dL_law_975 ⟨by show _ ≤ (601024 : Nat); omega, by show _ ≤ (7293034 : Nat); omega⟩) hS (fun q _ h => h) (fun q h => h) (fun q _ h => h) (fun E ce q9 u9 t H1 locs1 ht hvm hp hB hz hk1 hS1 hcell hv hcl => absurd hp id) (fun r9 u9 t9 H locs ht9 hvm9 hp9 hB9 hz9 hk9 hS => ?_)
  obtain ⟨z2, rfl, X1, rfl, hRX1, hFX1, hzX1⟩ := hp9
  rw [ht9] at hB9
  have hw := hB9
  have hI3 : LI0 q0 q1 q2 ad cnt X1 Y ln := LI0.cls hI0 hRX1 hFX1 (cinv_frm (M := [10000]) (N := []) hCI hFX1 Frm.rf (by decide) (by decide)) (by decide)
  refine lv_istore (lv' := (5, .int (jI z2)) :: LV b q0 q1 q2 i) hx hb dL_law_978 hl (by decide) rfl (fun ls hl => ?_)
  have hl : lv_has ls 8 (LV b q0 q1 q2 i) := lv_sub hl [1, 2, 3, 4, 5] rfl
  refine lv_aload_n hx hb dL_law_980 rfl (lv_at hl 2 rfl) ?_
  refine l_arg (k := 1) (pc2 := 985) C hS hl hi (by omega) ea1 dL_law_981 dL_law_982 (fun h => lv_iconst (v := jI 1) hx hb dL_law_984 rfl h) dL_law_985 dL_law_986 ?_
  refine l_arg (k := 2) (pc2 := 991) C hS hl hi (by omega) ea2 dL_law_987 dL_law_988 (fun h => lv_iconst (v := jI 2) hx hb dL_law_990 rfl h) dL_law_991 dL_law_992 ?_
  refine l_arg (k := 3) (pc2 := 997) C hS hl hi (by omega) ea3 dL_law_993 dL_law_994 (fun h => lv_iconst (v := jI 3) hx hb dL_law_996 rfl h) dL_law_997 dL_law_998 ?_
  obtain ⟨h0, h40, h100, hFx, hOw, hN, hLn, hR, hCI, hRv, hMI⟩ := id hI3
  have hc40 : cnt 40 = 1 := hFx.at 40 1 (by decide)
  refine gos_l (run_V (k := 40) (i := 0) (As := [.int (jI a1), .int (jI a2), .int (jI a3)]) (rest := []) hx hb hml hown hts (c_X9_itemAt l D tc s.heap.size ad cnt X1 Y ln hR hFx hMI a1 a2 a3 ga1 ga2 ga3) (cwV 3 hts gT_X9_itemAt rfl rfl rfl (by first | exact hd_X9_itemAt | decide +kernel) ⟨Nat.le_of_ble_eq_true rfl, Nat.le_of_ble_eq_true rfl⟩) hK hw (by first | exact Int.le_refl 0 | omega) (by first | exact zlt hc40 | omega) sl_40_0 rfl rfl hl.1 (by rw [h40]; rfl) (Nat.le_of_ble_eq_true rfl) dL_law_999 ⟨by show _ ≤ (601024 : Nat); omega, by show _ ≤ (7293034 : Nat); omega⟩) hS (fun z4 u5 H locs p6 hw hS => ?_)
  obtain ⟨X7, rfl, hRX7, hFX7, hMX7, hzX7, pX7⟩ := p6
  have hI8 : LI0 q0 q1 q2 ad cnt X7 Y ln := LI0.mdl hI3 hRX7 hFX7 hMX7 (by decide)
  refine lv_lstore (lv' := (6, .long (jL z4)) :: LV b q0 q1 q2 i) hx hb dL_law_1002 hl (by decide) rfl (fun ls hl => ?_)
  have hl : lv_has ls 8 (LV b q0 q1 q2 i) := lv_sub hl [1, 2, 3, 4, 5] rfl
  have hRC : RC cnt X7 Y ln := RC.two hRC0 hFX1 hFX7 (by decide) (by decide) (by decide) (by decide)
  refine lv_goto (tgt := 1343) hx hb dL_law_1004 (by decide) ?_
  exact hg _ _ _ _ _ H locs ls _ _ ⟨hI8, hRC⟩ hw hS hl (by omega) (by omega)

set_option maxHeartbeats 4000000 in
set_option maxRecDepth 100000 in
theorem law_c15 {p : Program} {l : Launch} {e : Env} {s : State} {m : MethodId} {below : List Frame} {meth : Method} {c : Code} {b L : Nat} {xs : Nat → Int32} {D : va_G} {tc : Nat → ClassId} {Q : State → Prop} {q0 q1 q2 cB sB : Nat} {i : Int} (C : LK p l s m c b L xs D tc) (hi : 0 ≤ i ∧ i + 7 ≤ L) (hcB : cB + 310 ≤ 601024) (hsB : sB + 2110 ≤ 7293034) (hg : LAt p l e s m below meth c b D tc q0 q1 q2 i Q 1343 (cB + 310) (sB + 2110)) : LAt p l e s m below meth c b D tc q0 q1 q2 i Q 1007 cB sB := by
  obtain ⟨hx, hb, hml, hown, hts, hX, hbl, hK, hT, hlT, hL⟩ := id C
  intro ad cnt X Y ln H locs ls cl sl hI hw hS hl hcl hsl
  obtain ⟨hI0, hRC0⟩ := id hI
  obtain ⟨i0, i40, i100, iFx, iOw, iN, iLn, iR, iCI, iRv, iMI⟩ := id hI0
  refine lv_aload_n hx hb dL_law_1007 rfl (lv_at hl 1 rfl) ?_
  obtain ⟨h0, h40, h100, hFx, hOw, hN, hLn, hR, hCI, hRv, hMI⟩ := id hI0
  have hc0 : cnt 0 = 1 := hFx.at 0 1 (by decide)
  refine gos_i (run_V (k := 0) (i := 0) (As := []) (rest := []) hx hb hml hown hts (c_X8_forget l D tc s.heap.size ad cnt X Y ln hR hFx hLn hCI) (cwV 0 hts gT_X8_forget rfl rfl rfl (by first | exact hd_X8_forget | decide +kernel) ⟨Nat.le_of_ble_eq_true rfl, Nat.le_of_ble_eq_true rfl⟩) hK hw (by first | exact Int.le_refl 0 | omega) (by first | exact zlt hc0 | omega) sl_0_0 rfl rfl hl.1 (by rw [h0]; rfl) (Nat.le_of_ble_eq_true rfl) dL_law_1008 ⟨by show _ ≤ (601024 : Nat); omega, by show _ ≤ (7293034 : Nat); omega⟩) hS (fun z1 u2 H locs p3 hw hS => ?_)
  obtain ⟨X4, rfl, hRX4, hFX4, hCX4, hzX4, pX4⟩ := p3
  have hI5 : LI0 q0 q1 q2 ad cnt X4 Y ln := LI0.cls hI0 hRX4 hFX4 hCX4 (by decide)
  refine lv_pop hx hb dL_law_1011 rfl ?_
  refine lv_aload_n hx hb dL_law_1012 rfl (lv_at hl 2 rfl) ?_
  obtain ⟨h0, h40, h100, hFx, hOw, hN, hLn, hR, hCI, hRv, hMI⟩ := id hI5
  have hc40 : cnt 40 = 1 := hFx.at 40 1 (by decide)
  refine gos_i (run_V (k := 40) (i := 0) (As := []) (rest := []) hx hb hml hown hts (c_X9_forget l D tc s.heap.size ad cnt X4 Y ln hR hFx hMI) (cwV 0 hts gT_X9_forget rfl rfl rfl (by first | exact hd_X9_forget | decide +kernel) ⟨Nat.le_of_ble_eq_true rfl, Nat.le_of_ble_eq_true rfl⟩) hK hw (by first | exact Int.le_refl 0 | omega) (by first | exact zlt hc40 | omega) sl_40_0 rfl rfl hl.1 (by rw [h40]; rfl) (Nat.le_of_ble_eq_true rfl) dL_law_1013 ⟨by show _ ≤ (601024 : Nat); omega, by show _ ≤ (7293034 : Nat); omega⟩) hS (fun z6 u7 H locs p8 hw hS => ?_)
  obtain ⟨X9, rfl, hRX9, hFX9, hMX9, hzX9, pX9⟩ := p8
  have hI10 : LI0 q0 q1 q2 ad cnt X9 Y ln := LI0.mdl hI5 hRX9 hFX9 hMX9 (by decide)
  refine lv_pop hx hb dL_law_1016 rfl ?_
  obtain ⟨hRC, hq9⟩ := J_forget hRC0 iMI iR hRX4 iLn iN hFX4 pX4 hFX9 hMX9 pX9
  refine lv_goto (tgt := 1343) hx hb dL_law_1017 (by decide) ?_
  exact hg _ _ _ _ _ H locs ls _ _ ⟨hI10, hRC⟩ hw hS hl (by omega) (by omega)

set_option maxHeartbeats 4000000 in
set_option maxRecDepth 100000 in
theorem law_c16 {p : Program} {l : Launch} {e : Env} {s : State} {m : MethodId} {below : List Frame} {meth : Method} {c : Code} {b L : Nat} {xs : Nat → Int32} {D : va_G} {tc : Nat → ClassId} {Q : State → Prop} {q0 q1 q2 cB sB : Nat} {i : Int} (C : LK p l s m c b L xs D tc) (hi : 0 ≤ i ∧ i + 7 ≤ L) (hcB : cB + 310 ≤ 601024) (hsB : sB + 2110 ≤ 7293034) (hg : LAt p l e s m below meth c b D tc q0 q1 q2 i Q 1343 (cB + 310) (sB + 2110)) : LAt p l e s m below meth c b D tc q0 q1 q2 i Q 1020 cB sB := by
  obtain ⟨hx, hb, hml, hown, hts, hX, hbl, hK, hT, hlT, hL⟩ := id C
  intro ad cnt X Y ln H locs ls cl sl hI hw hS hl hcl hsl
  obtain ⟨hI0, hRC0⟩ := id hI
  obtain ⟨i0, i40, i100, iFx, iOw, iN, iLn, iR, iCI, iRv, iMI⟩ := id hI0
  refine lv_aload_n hx hb dL_law_1020 rfl (lv_at hl 1 rfl) ?_
  obtain ⟨a1, ea1, ga1⟩ := sc_at xs i 1
  refine l_arg (k := 1) (pc2 := 1025) C hS hl hi (by omega) ea1 dL_law_1021 dL_law_1022 (fun h => lv_iconst (v := jI 1) hx hb dL_law_1024 rfl h) dL_law_1025 dL_law_1026 ?_
  obtain ⟨a2, ea2, ga2⟩ := sc_at xs i 2
  refine l_arg (k := 2) (pc2 := 1031) C hS hl hi (by omega) ea2 dL_law_1027 dL_law_1028 (fun h => lv_iconst (v := jI 2) hx hb dL_law_1030 rfl h) dL_law_1031 dL_law_1032 ?_
  obtain ⟨h0, h40, h100, hFx, hOw, hN, hLn, hR, hCI, hRv, hMI⟩ := id hI0
  have hc0 : cnt 0 = 1 := hFx.at 0 1 (by decide)
  refine gos_i (run_V (k := 0) (i := 0) (As := [.int (jI a1), .int (jI a2)]) (rest := []) hx hb hml hown hts (c_X8_told l D tc s.heap.size ad cnt X Y ln hR hFx hLn hCI a1 a2 ga1 ga2) (cwV 2 hts gT_X8_told rfl rfl rfl (by first | exact hd_X8_told | decide +kernel) ⟨Nat.le_of_ble_eq_true rfl, Nat.le_of_ble_eq_true rfl⟩) hK hw (by first | exact Int.le_refl 0 | omega) (by first | exact zlt hc0 | omega) sl_0_0 rfl rfl hl.1 (by rw [h0]; rfl) (Nat.le_of_ble_eq_true rfl) dL_law_1033 ⟨by show _ ≤ (601024 : Nat); omega, by show _ ≤ (7293034 : Nat); omega⟩) hS (fun z1 u2 H locs p3 hw hS => ?_)
  obtain ⟨X4, rfl, hRX4, hFX4, hCX4, hzX4, pX4⟩ := p3
  have hI5 : LI0 q0 q1 q2 ad cnt X4 Y ln := LI0.cls hI0 hRX4 hFX4 hCX4 (by decide)
  refine lv_pop hx hb dL_law_1036 rfl ?_
  refine lv_aload_n hx hb dL_law_1037 rfl (lv_at hl 2 rfl) ?_
  refine l_arg (k := 1) (pc2 := 1042) C hS hl hi (by omega) ea1 dL_law_1038 dL_law_1039 (fun h => lv_iconst (v := jI 1) hx hb dL_law_1041 rfl h) dL_law_1042 dL_law_1043 ?_
  refine l_arg (k := 2) (pc2 := 1048) C hS hl hi (by omega) ea2 dL_law_1044 dL_law_1045 (fun h => lv_iconst (v := jI 2) hx hb dL_law_1047 rfl h) dL_law_1048 dL_law_1049 ?_
  obtain ⟨h0, h40, h100, hFx, hOw, hN, hLn, hR, hCI, hRv, hMI⟩ := id hI5
  have hc40 : cnt 40 = 1 := hFx.at 40 1 (by decide)
  refine gos_i (run_V (k := 40) (i := 0) (As := [.int (jI a1), .int (jI a2)]) (rest := []) hx hb hml hown hts (c_X9_told l D tc s.heap.size ad cnt X4 Y ln hR hFx hMI a1 a2 ga1 ga2) (cwV 2 hts gT_X9_told rfl rfl rfl (by first | exact hd_X9_told | decide +kernel) ⟨Nat.le_of_ble_eq_true rfl, Nat.le_of_ble_eq_true rfl⟩) hK hw (by first | exact Int.le_refl 0 | omega) (by first | exact zlt hc40 | omega) sl_40_0 rfl rfl hl.1 (by rw [h40]; rfl) (Nat.le_of_ble_eq_true rfl) dL_law_1050 ⟨by show _ ≤ (601024 : Nat); omega, by show _ ≤ (7293034 : Nat); omega⟩) hS (fun z6 u7 H locs p8 hw hS => ?_)
  obtain ⟨X9, rfl, hRX9, hFX9, hMX9, hzX9, pX9⟩ := p8
  have hI10 : LI0 q0 q1 q2 ad cnt X9 Y ln := LI0.mdl hI5 hRX9 hFX9 hMX9 (by decide)
  refine lv_pop hx hb dL_law_1053 rfl ?_
  obtain ⟨hRC, hq9⟩ := J_told hRC0 iMI iR hRX4 iLn iN hFX4 pX4 hFX9 hMX9 pX9
  refine lv_goto (tgt := 1343) hx hb dL_law_1054 (by decide) ?_
  exact hg _ _ _ _ _ H locs ls _ _ ⟨hI10, hRC⟩ hw hS hl (by omega) (by omega)

set_option maxHeartbeats 4000000 in
set_option maxRecDepth 100000 in
theorem law_c17 {p : Program} {l : Launch} {e : Env} {s : State} {m : MethodId} {below : List Frame} {meth : Method} {c : Code} {b L : Nat} {xs : Nat → Int32} {D : va_G} {tc : Nat → ClassId} {Q : State → Prop} {q0 q1 q2 cB sB : Nat} {i : Int} (C : LK p l s m c b L xs D tc) (hi : 0 ≤ i ∧ i + 7 ≤ L) (hcB : cB + 310 ≤ 601024) (hsB : sB + 2110 ≤ 7293034) (hg : LAt p l e s m below meth c b D tc q0 q1 q2 i Q 1343 (cB + 310) (sB + 2110)) : LAt p l e s m below meth c b D tc q0 q1 q2 i Q 1057 cB sB := by
  obtain ⟨hx, hb, hml, hown, hts, hX, hbl, hK, hT, hlT, hL⟩ := id C
  intro ad cnt X Y ln H locs ls cl sl hI hw hS hl hcl hsl
  obtain ⟨hI0, hRC0⟩ := id hI
  obtain ⟨i0, i40, i100, iFx, iOw, iN, iLn, iR, iCI, iRv, iMI⟩ := id hI0
  refine lv_aload_n hx hb dL_law_1057 rfl (lv_at hl 1 rfl) ?_
  obtain ⟨a1, ea1, ga1⟩ := sc_at xs i 1
  refine l_arg (k := 1) (pc2 := 1062) C hS hl hi (by omega) ea1 dL_law_1058 dL_law_1059 (fun h => lv_iconst (v := jI 1) hx hb dL_law_1061 rfl h) dL_law_1062 dL_law_1063 ?_
  obtain ⟨h0, h40, h100, hFx, hOw, hN, hLn, hR, hCI, hRv, hMI⟩ := id hI0
  have hc0 : cnt 0 = 1 := hFx.at 0 1 (by decide)
  refine gos_i (run_V (k := 0) (i := 0) (As := [.int (jI a1)]) (rest := []) hx hb hml hown hts (c_X8_judge l D tc s.heap.size ad cnt X Y ln hR hFx hLn hCI a1 ga1) (cwV 1 hts gT_X8_judge rfl rfl rfl (by first | exact hd_X8_judge | decide +kernel) ⟨Nat.le_of_ble_eq_true rfl, Nat.le_of_ble_eq_true rfl⟩) hK hw (by first | exact Int.le_refl 0 | omega) (by first | exact zlt hc0 | omega) sl_0_0 rfl rfl hl.1 (by rw [h0]; rfl) (Nat.le_of_ble_eq_true rfl) dL_law_1064 ⟨by show _ ≤ (601024 : Nat); omega, by show _ ≤ (7293034 : Nat); omega⟩) hS (fun z1 u2 H locs p3 hw hS => ?_)
  obtain ⟨X4, rfl, hRX4, hFX4, hCX4, hzX4, pX4⟩ := p3
  have hI5 : LI0 q0 q1 q2 ad cnt X4 Y ln := LI0.cls hI0 hRX4 hFX4 hCX4 (by decide)
  refine lv_pop hx hb dL_law_1067 rfl ?_
  refine lv_aload_n hx hb dL_law_1068 rfl (lv_at hl 2 rfl) ?_
  refine l_arg (k := 1) (pc2 := 1073) C hS hl hi (by omega) ea1 dL_law_1069 dL_law_1070 (fun h => lv_iconst (v := jI 1) hx hb dL_law_1072 rfl h) dL_law_1073 dL_law_1074 ?_
  obtain ⟨h0, h40, h100, hFx, hOw, hN, hLn, hR, hCI, hRv, hMI⟩ := id hI5
  have hc40 : cnt 40 = 1 := hFx.at 40 1 (by decide)
  refine gos_i (run_V (k := 40) (i := 0) (As := [.int (jI a1)]) (rest := []) hx hb hml hown hts (c_X9_judge l D tc s.heap.size ad cnt X4 Y ln hR hFx hMI a1 ga1) (cwV 1 hts gT_X9_judge rfl rfl rfl (by first | exact hd_X9_judge | decide +kernel) ⟨Nat.le_of_ble_eq_true rfl, Nat.le_of_ble_eq_true rfl⟩) hK hw (by first | exact Int.le_refl 0 | omega) (by first | exact zlt hc40 | omega) sl_40_0 rfl rfl hl.1 (by rw [h40]; rfl) (Nat.le_of_ble_eq_true rfl) dL_law_1075 ⟨by show _ ≤ (601024 : Nat); omega, by show _ ≤ (7293034 : Nat); omega⟩) hS (fun z6 u7 H locs p8 hw hS => ?_)
  obtain ⟨X9, rfl, hRX9, hFX9, hMX9, hzX9, pX9⟩ := p8
  have hI10 : LI0 q0 q1 q2 ad cnt X9 Y ln := LI0.mdl hI5 hRX9 hFX9 hMX9 (by decide)
  refine lv_pop hx hb dL_law_1078 rfl ?_
  obtain ⟨hRC, hq9⟩ := J_judge hRC0 iMI iR hRX4 iLn iN hFX4 pX4 hFX9 hMX9 pX9 iCI
  refine lv_goto (tgt := 1343) hx hb dL_law_1079 (by decide) ?_
  exact hg _ _ _ _ _ H locs ls _ _ ⟨hI10, hRC⟩ hw hS hl (by omega) (by omega)

set_option maxHeartbeats 4000000 in
set_option maxRecDepth 100000 in
theorem law_c18 {p : Program} {l : Launch} {e : Env} {s : State} {m : MethodId} {below : List Frame} {meth : Method} {c : Code} {b L : Nat} {xs : Nat → Int32} {D : va_G} {tc : Nat → ClassId} {Q : State → Prop} {q0 q1 q2 cB sB : Nat} {i : Int} (C : LK p l s m c b L xs D tc) (hi : 0 ≤ i ∧ i + 7 ≤ L) (hcB : cB + 310 ≤ 601024) (hsB : sB + 2110 ≤ 7293034) (hg : LAt p l e s m below meth c b D tc q0 q1 q2 i Q 1343 (cB + 310) (sB + 2110)) : LAt p l e s m below meth c b D tc q0 q1 q2 i Q 1082 cB sB := by
  obtain ⟨hx, hb, hml, hown, hts, hX, hbl, hK, hT, hlT, hL⟩ := id C
  intro ad cnt X Y ln H locs ls cl sl hI hw hS hl hcl hsl
  obtain ⟨hI0, hRC0⟩ := id hI
  obtain ⟨i0, i40, i100, iFx, iOw, iN, iLn, iR, iCI, iRv, iMI⟩ := id hI0
  refine lv_aload_n hx hb dL_law_1082 rfl (lv_at hl 1 rfl) ?_
  obtain ⟨a1, ea1, ga1⟩ := sc_at xs i 1
  refine l_arg (k := 1) (pc2 := 1087) C hS hl hi (by omega) ea1 dL_law_1083 dL_law_1084 (fun h => lv_iconst (v := jI 1) hx hb dL_law_1086 rfl h) dL_law_1087 dL_law_1088 ?_
  obtain ⟨a2, ea2, ga2⟩ := sc_at xs i 2
  refine l_arg (k := 2) (pc2 := 1093) C hS hl hi (by omega) ea2 dL_law_1089 dL_law_1090 (fun h => lv_iconst (v := jI 2) hx hb dL_law_1092 rfl h) dL_law_1093 dL_law_1094 ?_
  obtain ⟨h0, h40, h100, hFx, hOw, hN, hLn, hR, hCI, hRv, hMI⟩ := id hI0
  have hc0 : cnt 0 = 1 := hFx.at 0 1 (by decide)
  refine gos_i (run_V (k := 0) (i := 0) (As := [.int (jI a1), .int (jI a2)]) (rest := []) hx hb hml hown hts (c_X8_save l D tc s.heap.size ad cnt X Y ln hR hFx hLn hCI hRv a1 a2 ga1 ga2) (cwV 2 hts gT_X8_save rfl rfl rfl (by first | exact hd_X8_save | decide +kernel) ⟨Nat.le_of_ble_eq_true rfl, Nat.le_of_ble_eq_true rfl⟩) hK hw (by first | exact Int.le_refl 0 | omega) (by first | exact zlt hc0 | omega) sl_0_0 rfl rfl hl.1 (by rw [h0]; rfl) (Nat.le_of_ble_eq_true rfl) dL_law_1095 ⟨by show _ ≤ (601024 : Nat); omega, by show _ ≤ (7293034 : Nat); omega⟩) hS (fun z1 u2 H locs p3 hw hS => ?_)
  obtain ⟨X4, Y6, rfl, hRX4, hFX4, hHX4, hCX4, hzX4, pX4⟩ := p3
  have hVX4 := pX4.1
  have hI5 : LI0 q0 q1 q2 ad cnt X4 Y6 ln := LI0.clsR hI0 hRX4 hFX4 hCX4 hVX4 (by decide)
  refine lv_pop hx hb dL_law_1098 rfl ?_
  refine lv_aload_n hx hb dL_law_1099 rfl (lv_at hl 2 rfl) ?_
  refine l_arg (k := 1) (pc2 := 1104) C hS hl hi (by omega) ea1 dL_law_1100 dL_law_1101 (fun h => lv_iconst (v := jI 1) hx hb dL_law_1103 rfl h) dL_law_1104 dL_law_1105 ?_
  refine l_arg (k := 2) (pc2 := 1110) C hS hl hi (by omega) ea2 dL_law_1106 dL_law_1107 (fun h => lv_iconst (v := jI 2) hx hb dL_law_1109 rfl h) dL_law_1110 dL_law_1111 ?_
  obtain ⟨h0, h40, h100, hFx, hOw, hN, hLn, hR, hCI, hRv, hMI⟩ := id hI5
  have hc40 : cnt 40 = 1 := hFx.at 40 1 (by decide)
  refine gos_i (run_V (k := 40) (i := 0) (As := [.int (jI a1), .int (jI a2)]) (rest := []) hx hb hml hown hts (c_X9_save l D tc s.heap.size ad cnt X4 Y6 ln hR hFx hMI a1 a2 ga1 ga2) (cwV 2 hts gT_X9_save rfl rfl rfl (by first | exact hd_X9_save | decide +kernel) ⟨Nat.le_of_ble_eq_true rfl, Nat.le_of_ble_eq_true rfl⟩) hK hw (by first | exact Int.le_refl 0 | omega) (by first | exact zlt hc40 | omega) sl_40_0 rfl rfl hl.1 (by rw [h40]; rfl) (Nat.le_of_ble_eq_true rfl) dL_law_1112 ⟨by show _ ≤ (601024 : Nat); omega, by show _ ≤ (7293034 : Nat); omega⟩) hS (fun z7 u8 H locs p9 hw hS => ?_)
  obtain ⟨X10, rfl, hRX10, hFX10, hMX10, hzX10, pX10⟩ := p9
  have hI11 : LI0 q0 q1 q2 ad cnt X10 Y6 ln := LI0.mdl hI5 hRX10 hFX10 hMX10 (by decide)
  refine lv_pop hx hb dL_law_1115 rfl ?_
  obtain ⟨hRC, hq9⟩ := J_save hRC0 iMI iR hRX4 iLn iN hFX4 hHX4 pX4 hFX10 hMX10 pX10 hRX10
  refine lv_goto (tgt := 1343) hx hb dL_law_1116 (by decide) ?_
  exact hg _ _ _ _ _ H locs ls _ _ ⟨hI11, hRC⟩ hw hS hl (by omega) (by omega)

set_option maxHeartbeats 4000000 in
set_option maxRecDepth 100000 in
theorem law_c19 {p : Program} {l : Launch} {e : Env} {s : State} {m : MethodId} {below : List Frame} {meth : Method} {c : Code} {b L : Nat} {xs : Nat → Int32} {D : va_G} {tc : Nat → ClassId} {Q : State → Prop} {q0 q1 q2 cB sB : Nat} {i : Int} (C : LK p l s m c b L xs D tc) (hi : 0 ≤ i ∧ i + 7 ≤ L) (hcB : cB + 310 ≤ 601024) (hsB : sB + 2110 ≤ 7293034) (hg : LAt p l e s m below meth c b D tc q0 q1 q2 i Q 1343 (cB + 310) (sB + 2110)) : LAt p l e s m below meth c b D tc q0 q1 q2 i Q 1119 cB sB := by
  obtain ⟨hx, hb, hml, hown, hts, hX, hbl, hK, hT, hlT, hL⟩ := id C
  intro ad cnt X Y ln H locs ls cl sl hI hw hS hl hcl hsl
  obtain ⟨hI0, hRC0⟩ := id hI
  obtain ⟨i0, i40, i100, iFx, iOw, iN, iLn, iR, iCI, iRv, iMI⟩ := id hI0
  refine lv_aload_n hx hb dL_law_1119 rfl (lv_at hl 1 rfl) ?_
  obtain ⟨a1, ea1, ga1⟩ := sc_at xs i 1
  refine l_arg (k := 1) (pc2 := 1124) C hS hl hi (by omega) ea1 dL_law_1120 dL_law_1121 (fun h => lv_iconst (v := jI 1) hx hb dL_law_1123 rfl h) dL_law_1124 dL_law_1125 ?_
  obtain ⟨a2, ea2, ga2⟩ := sc_at xs i 2
  refine l_arg (k := 2) (pc2 := 1130) C hS hl hi (by omega) ea2 dL_law_1126 dL_law_1127 (fun h => lv_iconst (v := jI 2) hx hb dL_law_1129 rfl h) dL_law_1130 dL_law_1131 ?_
  obtain ⟨h0, h40, h100, hFx, hOw, hN, hLn, hR, hCI, hRv, hMI⟩ := id hI0
  have hc0 : cnt 0 = 1 := hFx.at 0 1 (by decide)
  refine gos_i (run_V (k := 0) (i := 0) (As := [.int (jI a1), .int (jI a2)]) (rest := []) hx hb hml hown hts (c_X8_saved l D tc s.heap.size ad cnt X Y ln hR hFx hLn hCI a1 a2 ga1 ga2) (cwV 2 hts gT_X8_saved rfl rfl rfl (by first | exact hd_X8_saved | decide +kernel) ⟨Nat.le_of_ble_eq_true rfl, Nat.le_of_ble_eq_true rfl⟩) hK hw (by first | exact Int.le_refl 0 | omega) (by first | exact zlt hc0 | omega) sl_0_0 rfl rfl hl.1 (by rw [h0]; rfl) (Nat.le_of_ble_eq_true rfl) dL_law_1132 ⟨by show _ ≤ (601024 : Nat); omega, by show _ ≤ (7293034 : Nat); omega⟩) hS (fun z1 u2 H locs p3 hw hS => ?_)
  obtain ⟨X4, rfl, hRX4, hFX4, hCX4, hzX4, pX4⟩ := p3
  have hI5 : LI0 q0 q1 q2 ad cnt X4 Y ln := LI0.cls hI0 hRX4 hFX4 hCX4 (by decide)
  refine lv_pop hx hb dL_law_1135 rfl ?_
  refine lv_aload_n hx hb dL_law_1136 rfl (lv_at hl 2 rfl) ?_
  refine l_arg (k := 1) (pc2 := 1141) C hS hl hi (by omega) ea1 dL_law_1137 dL_law_1138 (fun h => lv_iconst (v := jI 1) hx hb dL_law_1140 rfl h) dL_law_1141 dL_law_1142 ?_
  refine l_arg (k := 2) (pc2 := 1147) C hS hl hi (by omega) ea2 dL_law_1143 dL_law_1144 (fun h => lv_iconst (v := jI 2) hx hb dL_law_1146 rfl h) dL_law_1147 dL_law_1148 ?_
  obtain ⟨h0, h40, h100, hFx, hOw, hN, hLn, hR, hCI, hRv, hMI⟩ := id hI5
  have hc40 : cnt 40 = 1 := hFx.at 40 1 (by decide)
  refine gos_i (run_V (k := 40) (i := 0) (As := [.int (jI a1), .int (jI a2)]) (rest := []) hx hb hml hown hts (c_X9_saved l D tc s.heap.size ad cnt X4 Y ln hR hFx hMI a1 a2 ga1 ga2) (cwV 2 hts gT_X9_saved rfl rfl rfl (by first | exact hd_X9_saved | decide +kernel) ⟨Nat.le_of_ble_eq_true rfl, Nat.le_of_ble_eq_true rfl⟩) hK hw (by first | exact Int.le_refl 0 | omega) (by first | exact zlt hc40 | omega) sl_40_0 rfl rfl hl.1 (by rw [h40]; rfl) (Nat.le_of_ble_eq_true rfl) dL_law_1149 ⟨by show _ ≤ (601024 : Nat); omega, by show _ ≤ (7293034 : Nat); omega⟩) hS (fun z6 u7 H locs p8 hw hS => ?_)
  obtain ⟨X9, rfl, hRX9, hFX9, hMX9, hzX9, pX9⟩ := p8
  have hI10 : LI0 q0 q1 q2 ad cnt X9 Y ln := LI0.mdl hI5 hRX9 hFX9 hMX9 (by decide)
  refine lv_pop hx hb dL_law_1152 rfl ?_
  obtain ⟨hRC, hq9⟩ := J_saved hRC0 iMI iR hRX4 iLn iN hFX4 pX4 hFX9 hMX9 pX9
  refine lv_goto (tgt := 1343) hx hb dL_law_1153 (by decide) ?_
  exact hg _ _ _ _ _ H locs ls _ _ ⟨hI10, hRC⟩ hw hS hl (by omega) (by omega)

set_option maxHeartbeats 4000000 in
set_option maxRecDepth 100000 in
theorem law_c20 {p : Program} {l : Launch} {e : Env} {s : State} {m : MethodId} {below : List Frame} {meth : Method} {c : Code} {b L : Nat} {xs : Nat → Int32} {D : va_G} {tc : Nat → ClassId} {Q : State → Prop} {q0 q1 q2 cB sB : Nat} {i : Int} (C : LK p l s m c b L xs D tc) (hi : 0 ≤ i ∧ i + 7 ≤ L) (hcB : cB + 310 ≤ 601024) (hsB : sB + 2110 ≤ 7293034) (hg : LAt p l e s m below meth c b D tc q0 q1 q2 i Q 1343 (cB + 310) (sB + 2110)) : LAt p l e s m below meth c b D tc q0 q1 q2 i Q 1156 cB sB := by
  obtain ⟨hx, hb, hml, hown, hts, hX, hbl, hK, hT, hlT, hL⟩ := id C
  intro ad cnt X Y ln H locs ls cl sl hI hw hS hl hcl hsl
  obtain ⟨hI0, hRC0⟩ := id hI
  obtain ⟨i0, i40, i100, iFx, iOw, iN, iLn, iR, iCI, iRv, iMI⟩ := id hI0
  refine lv_aload_n hx hb dL_law_1156 rfl (lv_at hl 1 rfl) ?_
  obtain ⟨a1, ea1, ga1⟩ := sc_at xs i 1
  refine l_arg (k := 1) (pc2 := 1161) C hS hl hi (by omega) ea1 dL_law_1157 dL_law_1158 (fun h => lv_iconst (v := jI 1) hx hb dL_law_1160 rfl h) dL_law_1161 dL_law_1162 ?_
  obtain ⟨a2, ea2, ga2⟩ := sc_at xs i 2
  refine l_arg (k := 2) (pc2 := 1167) C hS hl hi (by omega) ea2 dL_law_1163 dL_law_1164 (fun h => lv_iconst (v := jI 2) hx hb dL_law_1166 rfl h) dL_law_1167 dL_law_1168 ?_
  obtain ⟨h0, h40, h100, hFx, hOw, hN, hLn, hR, hCI, hRv, hMI⟩ := id hI0
  have hc0 : cnt 0 = 1 := hFx.at 0 1 (by decide)
  refine gos_i (run_V (k := 0) (i := 0) (As := [.int (jI a1), .int (jI a2)]) (rest := []) hx hb hml hown hts (c_X8_restore l D tc s.heap.size ad cnt X Y ln hR hFx hLn hCI hOw hN a1 a2 ga1 ga2 hRv) (cwV 2 hts gT_X8_restore rfl rfl rfl (by first | exact hd_X8_restore | decide +kernel) ⟨Nat.le_of_ble_eq_true rfl, Nat.le_of_ble_eq_true rfl⟩) hK hw (by first | exact Int.le_refl 0 | omega) (by first | exact zlt hc0 | omega) sl_0_0 rfl rfl hl.1 (by rw [h0]; rfl) (Nat.le_of_ble_eq_true rfl) dL_law_1169 ⟨by show _ ≤ (601024 : Nat); omega, by show _ ≤ (7293034 : Nat); omega⟩) hS (fun z1 u2 H locs p3 hw hS => ?_)
  obtain ⟨ad6, cnt7, X4, Y8, ln9, rfl, hEX4, hFxX4, hOwX4, hLnX4, hRX4, hFX4, hHX4, hCX4, hzX4, pX4⟩ := p3
  have hI5 : LI0 q0 q1 q2 ad6 cnt7 X4 Y8 ln9 := LI0.grow hI0 hEX4 hFxX4 hOwX4 hLnX4 hRX4 hFX4 hCX4 (by decide)
  refine lv_aload_n hx hb dL_law_1172 rfl (lv_at hl 2 rfl) ?_
  refine l_arg (k := 1) (pc2 := 1177) C hS hl hi (by omega) ea1 dL_law_1173 dL_law_1174 (fun h => lv_iconst (v := jI 1) hx hb dL_law_1176 rfl h) dL_law_1177 dL_law_1178 ?_
  refine l_arg (k := 2) (pc2 := 1183) C hS hl hi (by omega) ea2 dL_law_1179 dL_law_1180 (fun h => lv_iconst (v := jI 2) hx hb dL_law_1182 rfl h) dL_law_1183 dL_law_1184 ?_
  obtain ⟨h0, h40, h100, hFx, hOw, hN, hLn, hR, hCI, hRv, hMI⟩ := id hI5
  have hc40 : cnt7 40 = 1 := hFx.at 40 1 (by decide)
  refine gos_i (run_V (k := 40) (i := 0) (As := [.int (jI a1), .int (jI a2)]) (rest := [.int (jI z1)]) hx hb hml hown hts (c_X9_restore l D tc s.heap.size ad6 cnt7 X4 Y8 ln9 hR hFx hMI a1 a2 ga1 ga2) (cwV 2 hts gT_X9_restore rfl rfl rfl (by first | exact hd_X9_restore | decide +kernel) ⟨Nat.le_of_ble_eq_true rfl, Nat.le_of_ble_eq_true rfl⟩) hK hw (by first | exact Int.le_refl 0 | omega) (by first | exact zlt hc40 | omega) sl_40_0 rfl rfl hl.1 (by rw [h40]; rfl) (Nat.le_of_ble_eq_true rfl) dL_law_1185 ⟨by show _ ≤ (601024 : Nat); omega, by show _ ≤ (7293034 : Nat); omega⟩) hS (fun z10 u11 H locs p12 hw hS => ?_)
  obtain ⟨X13, rfl, hRX13, hFX13, hMX13, hzX13, pX13⟩ := p12
  have hI14 : LI0 q0 q1 q2 ad6 cnt7 X13 Y8 ln9 := LI0.mdl hI5 hRX13 hFX13 hMX13 (by decide)
  obtain ⟨hRC, hq9⟩ := J_restore hRC0 iMI iR hRX4 iLn iN hFX4 hHX4 hEX4.2.1 hEX4.2.2 hLnX4 pX4 hFX13 hMX13 pX13 hRX13 iCI
  refine x_icmp_eq (tgt := 1343) hx hb (by omega) (by omega) dL_law_1188 (by decide) (fun _ => ?_) (fun c9 => ?_)
  · exact hg _ _ _ _ _ H locs ls _ _ ⟨hI14, hRC⟩ hw hS hl (by omega) (by omega)
  · exact absurd hq9 c9
end
section
set_option maxHeartbeats 4000000 in
set_option maxRecDepth 100000 in
theorem law_c21 {p : Program} {l : Launch} {e : Env} {s : State} {m : MethodId} {below : List Frame} {meth : Method} {c : Code} {b L : Nat} {xs : Nat → Int32} {D : va_G} {tc : Nat → ClassId} {Q : State → Prop} {q0 q1 q2 cB sB : Nat} {i : Int} (C : LK p l s m c b L xs D tc) (hi : 0 ≤ i ∧ i + 7 ≤ L) (hcB : cB + 310 ≤ 601024) (hsB : sB + 2110 ≤ 7293034) (hg : LAt p l e s m below meth c b D tc q0 q1 q2 i Q 1343 (cB + 310) (sB + 2110)) : LAt p l e s m below meth c b D tc q0 q1 q2 i Q 1193 cB sB := by
  obtain ⟨hx, hb, hml, hown, hts, hX, hbl, hK, hT, hlT, hL⟩ := id C
  intro ad cnt X Y ln H locs ls cl sl hI hw hS hl hcl hsl
  obtain ⟨hI0, hRC0⟩ := id hI
  obtain ⟨i0, i40, i100, iFx, iOw, iN, iLn, iR, iCI, iRv, iMI⟩ := id hI0
  refine lv_aload_n hx hb dL_law_1193 rfl (lv_at hl 1 rfl) ?_
  obtain ⟨a1, ea1, ga1⟩ := sc_at xs i 1
  refine l_arg (k := 1) (pc2 := 1198) C hS hl hi (by omega) ea1 dL_law_1194 dL_law_1195 (fun h => lv_iconst (v := jI 1) hx hb dL_law_1197 rfl h) dL_law_1198 dL_law_1199 ?_
  obtain ⟨h0, h40, h100, hFx, hOw, hN, hLn, hR, hCI, hRv, hMI⟩ := id hI0
  have hc0 : cnt 0 = 1 := hFx.at 0 1 (by decide)
  refine gos_i (run_V (k := 0) (i := 0) (As := [.int (jI a1)]) (rest := []) hx hb hml hown hts (c_X8_fault l D tc s.heap.size ad cnt X Y ln hR hFx hLn hCI a1 ga1) (cwV 1 hts gT_X8_fault rfl rfl rfl (by first | exact hd_X8_fault | decide +kernel) ⟨Nat.le_of_ble_eq_true rfl, Nat.le_of_ble_eq_true rfl⟩) hK hw (by first | exact Int.le_refl 0 | omega) (by first | exact zlt hc0 | omega) sl_0_0 rfl rfl hl.1 (by rw [h0]; rfl) (Nat.le_of_ble_eq_true rfl) dL_law_1200 ⟨by show _ ≤ (601024 : Nat); omega, by show _ ≤ (7293034 : Nat); omega⟩) hS (fun z1 u2 H locs p3 hw hS => ?_)
  obtain ⟨X4, rfl, hRX4, hFX4, hCX4, hzX4⟩ := p3
  have hI5 : LI0 q0 q1 q2 ad cnt X4 Y ln := LI0.cls hI0 hRX4 hFX4 hCX4 (by decide)
  refine lv_pop hx hb dL_law_1203 rfl ?_
  refine lv_aload_n hx hb dL_law_1204 rfl (lv_at hl 2 rfl) ?_
  refine l_arg (k := 1) (pc2 := 1209) C hS hl hi (by omega) ea1 dL_law_1205 dL_law_1206 (fun h => lv_iconst (v := jI 1) hx hb dL_law_1208 rfl h) dL_law_1209 dL_law_1210 ?_
  obtain ⟨h0, h40, h100, hFx, hOw, hN, hLn, hR, hCI, hRv, hMI⟩ := id hI5
  have hc40 : cnt 40 = 1 := hFx.at 40 1 (by decide)
  refine gos_i (run_V (k := 40) (i := 0) (As := [.int (jI a1)]) (rest := []) hx hb hml hown hts (c_X9_fault l D tc s.heap.size ad cnt X4 Y ln hR hFx hMI a1 ga1) (cwV 1 hts gT_X9_fault rfl rfl rfl (by first | exact hd_X9_fault | decide +kernel) ⟨Nat.le_of_ble_eq_true rfl, Nat.le_of_ble_eq_true rfl⟩) hK hw (by first | exact Int.le_refl 0 | omega) (by first | exact zlt hc40 | omega) sl_40_0 rfl rfl hl.1 (by rw [h40]; rfl) (Nat.le_of_ble_eq_true rfl) dL_law_1211 ⟨by show _ ≤ (601024 : Nat); omega, by show _ ≤ (7293034 : Nat); omega⟩) hS (fun z6 u7 H locs p8 hw hS => ?_)
  obtain ⟨X9, rfl, hRX9, hFX9, hMX9, hzX9⟩ := p8
  have hI10 : LI0 q0 q1 q2 ad cnt X9 Y ln := LI0.mdl hI5 hRX9 hFX9 hMX9 (by decide)
  refine lv_pop hx hb dL_law_1214 rfl ?_
  have hRC : RC cnt X9 Y ln := RC.two hRC0 hFX4 hFX9 (by decide) (by decide) (by decide) (by decide)
  refine lv_goto (tgt := 1343) hx hb dL_law_1215 (by decide) ?_
  exact hg _ _ _ _ _ H locs ls _ _ ⟨hI10, hRC⟩ hw hS hl (by omega) (by omega)

set_option maxHeartbeats 4000000 in
set_option maxRecDepth 100000 in
theorem law_c22 {p : Program} {l : Launch} {e : Env} {s : State} {m : MethodId} {below : List Frame} {meth : Method} {c : Code} {b L : Nat} {xs : Nat → Int32} {D : va_G} {tc : Nat → ClassId} {Q : State → Prop} {q0 q1 q2 cB sB : Nat} {i : Int} (C : LK p l s m c b L xs D tc) (hi : 0 ≤ i ∧ i + 7 ≤ L) (hcB : cB + 310 ≤ 601024) (hsB : sB + 2110 ≤ 7293034) (hg : LAt p l e s m below meth c b D tc q0 q1 q2 i Q 1343 (cB + 310) (sB + 2110)) : LAt p l e s m below meth c b D tc q0 q1 q2 i Q 1218 cB sB := by
  obtain ⟨hx, hb, hml, hown, hts, hX, hbl, hK, hT, hlT, hL⟩ := id C
  intro ad cnt X Y ln H locs ls cl sl hI hw hS hl hcl hsl
  obtain ⟨hI0, hRC0⟩ := id hI
  obtain ⟨i0, i40, i100, iFx, iOw, iN, iLn, iR, iCI, iRv, iMI⟩ := id hI0
  refine lv_aload_n hx hb dL_law_1218 rfl (lv_at hl 1 rfl) ?_
  obtain ⟨a1, ea1, ga1⟩ := sc_at xs i 1
  refine l_arg (k := 1) (pc2 := 1223) C hS hl hi (by omega) ea1 dL_law_1219 dL_law_1220 (fun h => lv_iconst (v := jI 1) hx hb dL_law_1222 rfl h) dL_law_1223 dL_law_1224 ?_
  obtain ⟨a2, ea2, ga2⟩ := sc_at xs i 2
  refine l_arg (k := 2) (pc2 := 1229) C hS hl hi (by omega) ea2 dL_law_1225 dL_law_1226 (fun h => lv_iconst (v := jI 2) hx hb dL_law_1228 rfl h) dL_law_1229 dL_law_1230 ?_
  obtain ⟨h0, h40, h100, hFx, hOw, hN, hLn, hR, hCI, hRv, hMI⟩ := id hI0
  have hc0 : cnt 0 = 1 := hFx.at 0 1 (by decide)
  refine gos_i (run_V (k := 0) (i := 0) (As := [.int (jI a1), .int (jI a2)]) (rest := []) hx hb hml hown hts (c_X8_like l D tc s.heap.size ad cnt X Y ln hR hFx hLn hCI hRv a1 a2 ga1 ga2) (cwV 2 hts gT_X8_like rfl rfl rfl (by first | exact hd_X8_like | decide +kernel) ⟨Nat.le_of_ble_eq_true rfl, Nat.le_of_ble_eq_true rfl⟩) hK hw (by first | exact Int.le_refl 0 | omega) (by first | exact zlt hc0 | omega) sl_0_0 rfl rfl hl.1 (by rw [h0]; rfl) (Nat.le_of_ble_eq_true rfl) dL_law_1231 ⟨by show _ ≤ (601024 : Nat); omega, by show _ ≤ (7293034 : Nat); omega⟩) hS (fun z1 u2 H locs p3 hw hS => ?_)
  obtain ⟨X4, Y6, rfl, hRX4, hFX4, hHX4, hCX4, hzX4, pX4⟩ := p3
  have hVX4 := pX4.1
  have hI5 : LI0 q0 q1 q2 ad cnt X4 Y6 ln := LI0.clsR hI0 hRX4 hFX4 hCX4 hVX4 (by decide)
  refine lv_pop hx hb dL_law_1234 rfl ?_
  refine lv_aload_n hx hb dL_law_1235 rfl (lv_at hl 2 rfl) ?_
  refine l_arg (k := 1) (pc2 := 1240) C hS hl hi (by omega) ea1 dL_law_1236 dL_law_1237 (fun h => lv_iconst (v := jI 1) hx hb dL_law_1239 rfl h) dL_law_1240 dL_law_1241 ?_
  refine l_arg (k := 2) (pc2 := 1246) C hS hl hi (by omega) ea2 dL_law_1242 dL_law_1243 (fun h => lv_iconst (v := jI 2) hx hb dL_law_1245 rfl h) dL_law_1246 dL_law_1247 ?_
  obtain ⟨h0, h40, h100, hFx, hOw, hN, hLn, hR, hCI, hRv, hMI⟩ := id hI5
  have hc40 : cnt 40 = 1 := hFx.at 40 1 (by decide)
  refine gos_i (run_V (k := 40) (i := 0) (As := [.int (jI a1), .int (jI a2)]) (rest := []) hx hb hml hown hts (c_X9_like l D tc s.heap.size ad cnt X4 Y6 ln hR hFx hMI a1 a2 ga1 ga2) (cwV 2 hts gT_X9_like rfl rfl rfl (by first | exact hd_X9_like | decide +kernel) ⟨Nat.le_of_ble_eq_true rfl, Nat.le_of_ble_eq_true rfl⟩) hK hw (by first | exact Int.le_refl 0 | omega) (by first | exact zlt hc40 | omega) sl_40_0 rfl rfl hl.1 (by rw [h40]; rfl) (Nat.le_of_ble_eq_true rfl) dL_law_1248 ⟨by show _ ≤ (601024 : Nat); omega, by show _ ≤ (7293034 : Nat); omega⟩) hS (fun z7 u8 H locs p9 hw hS => ?_)
  obtain ⟨X10, rfl, hRX10, hFX10, hMX10, hzX10⟩ := p9
  have hI11 : LI0 q0 q1 q2 ad cnt X10 Y6 ln := LI0.mdl hI5 hRX10 hFX10 hMX10 (by decide)
  refine lv_pop hx hb dL_law_1251 rfl ?_
  have hRC := J_like (z := 0) (z2 := 0) (x := 0) (y := 0) hRC0 iMI iR hRX4 iLn iN hFX4 hHX4 pX4 hFX10 hMX10 trivial hRX10
  refine lv_goto (tgt := 1343) hx hb dL_law_1252 (by decide) ?_
  exact hg _ _ _ _ _ H locs ls _ _ ⟨hI11, hRC⟩ hw hS hl (by omega) (by omega)

set_option maxHeartbeats 4000000 in
set_option maxRecDepth 100000 in
theorem law_c23 {p : Program} {l : Launch} {e : Env} {s : State} {m : MethodId} {below : List Frame} {meth : Method} {c : Code} {b L : Nat} {xs : Nat → Int32} {D : va_G} {tc : Nat → ClassId} {Q : State → Prop} {q0 q1 q2 cB sB : Nat} {i : Int} (C : LK p l s m c b L xs D tc) (hi : 0 ≤ i ∧ i + 7 ≤ L) (hcB : cB + 310 ≤ 601024) (hsB : sB + 2110 ≤ 7293034) (hg : LAt p l e s m below meth c b D tc q0 q1 q2 i Q 1343 (cB + 310) (sB + 2110)) : LAt p l e s m below meth c b D tc q0 q1 q2 i Q 1255 cB sB := by
  obtain ⟨hx, hb, hml, hown, hts, hX, hbl, hK, hT, hlT, hL⟩ := id C
  intro ad cnt X Y ln H locs ls cl sl hI hw hS hl hcl hsl
  obtain ⟨hI0, hRC0⟩ := id hI
  obtain ⟨i0, i40, i100, iFx, iOw, iN, iLn, iR, iCI, iRv, iMI⟩ := id hI0
  refine lv_aload_n hx hb dL_law_1255 rfl (lv_at hl 1 rfl) ?_
  obtain ⟨a1, ea1, ga1⟩ := sc_at xs i 1
  refine l_arg (k := 1) (pc2 := 1260) C hS hl hi (by omega) ea1 dL_law_1256 dL_law_1257 (fun h => lv_iconst (v := jI 1) hx hb dL_law_1259 rfl h) dL_law_1260 dL_law_1261 ?_
  obtain ⟨a2, ea2, ga2⟩ := sc_at xs i 2
  refine l_arg (k := 2) (pc2 := 1266) C hS hl hi (by omega) ea2 dL_law_1262 dL_law_1263 (fun h => lv_iconst (v := jI 2) hx hb dL_law_1265 rfl h) dL_law_1266 dL_law_1267 ?_
  obtain ⟨h0, h40, h100, hFx, hOw, hN, hLn, hR, hCI, hRv, hMI⟩ := id hI0
  have hc0 : cnt 0 = 1 := hFx.at 0 1 (by decide)
  refine gos_i (run_V (k := 0) (i := 0) (As := [.int (jI a1), .int (jI a2)]) (rest := []) hx hb hml hown hts (c_X8_differs l D tc s.heap.size ad cnt X Y ln hR hFx hLn hCI hRv a1 a2 ga1 ga2) (cwV 2 hts gT_X8_differs rfl rfl rfl (by first | exact hd_X8_differs | decide +kernel) ⟨Nat.le_of_ble_eq_true rfl, Nat.le_of_ble_eq_true rfl⟩) hK hw (by first | exact Int.le_refl 0 | omega) (by first | exact zlt hc0 | omega) sl_0_0 rfl rfl hl.1 (by rw [h0]; rfl) (Nat.le_of_ble_eq_true rfl) dL_law_1268 ⟨by show _ ≤ (601024 : Nat); omega, by show _ ≤ (7293034 : Nat); omega⟩) hS (fun z1 u2 H locs p3 hw hS => ?_)
  obtain ⟨X4, Y6, rfl, hRX4, hFX4, hHX4, hCX4, hzX4, pX4⟩ := p3
  have hVX4 := pX4.1
  have hI5 : LI0 q0 q1 q2 ad cnt X4 Y6 ln := LI0.clsR hI0 hRX4 hFX4 hCX4 hVX4 (by decide)
  refine lv_pop hx hb dL_law_1271 rfl ?_
  refine lv_aload_n hx hb dL_law_1272 rfl (lv_at hl 2 rfl) ?_
  refine l_arg (k := 1) (pc2 := 1277) C hS hl hi (by omega) ea1 dL_law_1273 dL_law_1274 (fun h => lv_iconst (v := jI 1) hx hb dL_law_1276 rfl h) dL_law_1277 dL_law_1278 ?_
  refine l_arg (k := 2) (pc2 := 1283) C hS hl hi (by omega) ea2 dL_law_1279 dL_law_1280 (fun h => lv_iconst (v := jI 2) hx hb dL_law_1282 rfl h) dL_law_1283 dL_law_1284 ?_
  obtain ⟨h0, h40, h100, hFx, hOw, hN, hLn, hR, hCI, hRv, hMI⟩ := id hI5
  have hc40 : cnt 40 = 1 := hFx.at 40 1 (by decide)
  refine gos_i (run_V (k := 40) (i := 0) (As := [.int (jI a1), .int (jI a2)]) (rest := []) hx hb hml hown hts (c_X9_differs l D tc s.heap.size ad cnt X4 Y6 ln hR hFx hMI a1 a2 ga1 ga2) (cwV 2 hts gT_X9_differs rfl rfl rfl (by first | exact hd_X9_differs | decide +kernel) ⟨Nat.le_of_ble_eq_true rfl, Nat.le_of_ble_eq_true rfl⟩) hK hw (by first | exact Int.le_refl 0 | omega) (by first | exact zlt hc40 | omega) sl_40_0 rfl rfl hl.1 (by rw [h40]; rfl) (Nat.le_of_ble_eq_true rfl) dL_law_1285 ⟨by show _ ≤ (601024 : Nat); omega, by show _ ≤ (7293034 : Nat); omega⟩) hS (fun z7 u8 H locs p9 hw hS => ?_)
  obtain ⟨X10, rfl, hRX10, hFX10, hMX10, hzX10, pX10⟩ := p9
  have hI11 : LI0 q0 q1 q2 ad cnt X10 Y6 ln := LI0.mdl hI5 hRX10 hFX10 hMX10 (by decide)
  refine lv_pop hx hb dL_law_1288 rfl ?_
  obtain ⟨hRC, hq9⟩ := J_differs hRC0 iMI iR hRX4 iLn iN hFX4 hHX4 pX4 hFX10 hMX10 pX10 hRX10
  refine lv_goto (tgt := 1343) hx hb dL_law_1289 (by decide) ?_
  exact hg _ _ _ _ _ H locs ls _ _ ⟨hI11, hRC⟩ hw hS hl (by omega) (by omega)

set_option maxHeartbeats 4000000 in
set_option maxRecDepth 100000 in
theorem law_c24 {p : Program} {l : Launch} {e : Env} {s : State} {m : MethodId} {below : List Frame} {meth : Method} {c : Code} {b L : Nat} {xs : Nat → Int32} {D : va_G} {tc : Nat → ClassId} {Q : State → Prop} {q0 q1 q2 cB sB : Nat} {i : Int} (C : LK p l s m c b L xs D tc) (hi : 0 ≤ i ∧ i + 7 ≤ L) (hcB : cB + 310 ≤ 601024) (hsB : sB + 2110 ≤ 7293034) (hg : LAt p l e s m below meth c b D tc q0 q1 q2 i Q 1343 (cB + 310) (sB + 2110)) : LAt p l e s m below meth c b D tc q0 q1 q2 i Q 1292 cB sB := by
  obtain ⟨hx, hb, hml, hown, hts, hX, hbl, hK, hT, hlT, hL⟩ := id C
  intro ad cnt X Y ln H locs ls cl sl hI hw hS hl hcl hsl
  obtain ⟨hI0, hRC0⟩ := id hI
  obtain ⟨i0, i40, i100, iFx, iOw, iN, iLn, iR, iCI, iRv, iMI⟩ := id hI0
  refine lv_aload_n hx hb dL_law_1292 rfl (lv_at hl 1 rfl) ?_
  obtain ⟨h0, h40, h100, hFx, hOw, hN, hLn, hR, hCI, hRv, hMI⟩ := id hI0
  have hc0 : cnt 0 = 1 := hFx.at 0 1 (by decide)
  refine gos_i (run_V (k := 0) (i := 0) (As := []) (rest := []) hx hb hml hown hts (c_X8_mark l D tc s.heap.size ad cnt X Y ln hR hFx hLn hCI) (cwV 0 hts gT_X8_mark rfl rfl rfl (by first | exact hd_X8_mark | decide +kernel) ⟨Nat.le_of_ble_eq_true rfl, Nat.le_of_ble_eq_true rfl⟩) hK hw (by first | exact Int.le_refl 0 | omega) (by first | exact zlt hc0 | omega) sl_0_0 rfl rfl hl.1 (by rw [h0]; rfl) (Nat.le_of_ble_eq_true rfl) dL_law_1293 ⟨by show _ ≤ (601024 : Nat); omega, by show _ ≤ (7293034 : Nat); omega⟩) hS (fun z1 u2 H locs p3 hw hS => ?_)
  obtain ⟨X4, rfl, hRX4, hFX4, hCX4, hzX4, pX4⟩ := p3
  have hI5 : LI0 q0 q1 q2 ad cnt X4 Y ln := LI0.cls hI0 hRX4 hFX4 hCX4 (by decide)
  refine lv_pop hx hb dL_law_1296 rfl ?_
  refine lv_aload_n hx hb dL_law_1297 rfl (lv_at hl 2 rfl) ?_
  obtain ⟨h0, h40, h100, hFx, hOw, hN, hLn, hR, hCI, hRv, hMI⟩ := id hI5
  have hc40 : cnt 40 = 1 := hFx.at 40 1 (by decide)
  refine gos_i (run_V (k := 40) (i := 0) (As := []) (rest := []) hx hb hml hown hts (c_X9_mark l D tc s.heap.size ad cnt X4 Y ln hR hFx hMI) (cwV 0 hts gT_X9_mark rfl rfl rfl (by first | exact hd_X9_mark | decide +kernel) ⟨Nat.le_of_ble_eq_true rfl, Nat.le_of_ble_eq_true rfl⟩) hK hw (by first | exact Int.le_refl 0 | omega) (by first | exact zlt hc40 | omega) sl_40_0 rfl rfl hl.1 (by rw [h40]; rfl) (Nat.le_of_ble_eq_true rfl) dL_law_1298 ⟨by show _ ≤ (601024 : Nat); omega, by show _ ≤ (7293034 : Nat); omega⟩) hS (fun z6 u7 H locs p8 hw hS => ?_)
  obtain ⟨X9, rfl, hRX9, hFX9, hMX9, hzX9, pX9⟩ := p8
  have hI10 : LI0 q0 q1 q2 ad cnt X9 Y ln := LI0.mdl hI5 hRX9 hFX9 hMX9 (by decide)
  refine lv_pop hx hb dL_law_1301 rfl ?_
  obtain ⟨hRC, hq9⟩ := J_mark hRC0 iMI iR hRX4 iLn iN hFX4 pX4 hFX9 hMX9 pX9
  refine lv_goto (tgt := 1343) hx hb dL_law_1302 (by decide) ?_
  exact hg _ _ _ _ _ H locs ls _ _ ⟨hI10, hRC⟩ hw hS hl (by omega) (by omega)

set_option maxHeartbeats 4000000 in
set_option maxRecDepth 100000 in
theorem law_c25 {p : Program} {l : Launch} {e : Env} {s : State} {m : MethodId} {below : List Frame} {meth : Method} {c : Code} {b L : Nat} {xs : Nat → Int32} {D : va_G} {tc : Nat → ClassId} {Q : State → Prop} {q0 q1 q2 cB sB : Nat} {i : Int} (C : LK p l s m c b L xs D tc) (hi : 0 ≤ i ∧ i + 7 ≤ L) (hcB : cB + 310 ≤ 601024) (hsB : sB + 2110 ≤ 7293034) (hg : LAt p l e s m below meth c b D tc q0 q1 q2 i Q 1343 (cB + 310) (sB + 2110)) : LAt p l e s m below meth c b D tc q0 q1 q2 i Q 1305 cB sB := by
  obtain ⟨hx, hb, hml, hown, hts, hX, hbl, hK, hT, hlT, hL⟩ := id C
  intro ad cnt X Y ln H locs ls cl sl hI hw hS hl hcl hsl
  obtain ⟨hI0, hRC0⟩ := id hI
  obtain ⟨i0, i40, i100, iFx, iOw, iN, iLn, iR, iCI, iRv, iMI⟩ := id hI0
  refine lv_aload_n hx hb dL_law_1305 rfl (lv_at hl 1 rfl) ?_
  obtain ⟨h0, h40, h100, hFx, hOw, hN, hLn, hR, hCI, hRv, hMI⟩ := id hI0
  have hc0 : cnt 0 = 1 := hFx.at 0 1 (by decide)
  refine gos_i (run_V (k := 0) (i := 0) (As := []) (rest := []) hx hb hml hown hts (c_X8_undo l D tc s.heap.size ad cnt X Y ln hR hFx hLn hCI) (cwV 0 hts gT_X8_undo rfl rfl rfl (by first | exact hd_X8_undo | decide +kernel) ⟨Nat.le_of_ble_eq_true rfl, Nat.le_of_ble_eq_true rfl⟩) hK hw (by first | exact Int.le_refl 0 | omega) (by first | exact zlt hc0 | omega) sl_0_0 rfl rfl hl.1 (by rw [h0]; rfl) (Nat.le_of_ble_eq_true rfl) dL_law_1306 ⟨by show _ ≤ (601024 : Nat); omega, by show _ ≤ (7293034 : Nat); omega⟩) hS (fun z1 u2 H locs p3 hw hS => ?_)
  obtain ⟨X4, Y6, rfl, hRX4, hFX4, hHX4, hCX4, hzX4, pX4⟩ := p3
  have hI5 : LI0 q0 q1 q2 ad cnt X4 Y6 ln := LI0.cls hI0 hRX4 hFX4 hCX4 (by decide)
  refine lv_pop hx hb dL_law_1309 rfl ?_
  refine lv_aload_n hx hb dL_law_1310 rfl (lv_at hl 2 rfl) ?_
  obtain ⟨h0, h40, h100, hFx, hOw, hN, hLn, hR, hCI, hRv, hMI⟩ := id hI5
  have hc40 : cnt 40 = 1 := hFx.at 40 1 (by decide)
  refine gos_i (run_V (k := 40) (i := 0) (As := []) (rest := []) hx hb hml hown hts (c_X9_undo l D tc s.heap.size ad cnt X4 Y6 ln hR hFx hMI) (cwV 0 hts gT_X9_undo rfl rfl rfl (by first | exact hd_X9_undo | decide +kernel) ⟨Nat.le_of_ble_eq_true rfl, Nat.le_of_ble_eq_true rfl⟩) hK hw (by first | exact Int.le_refl 0 | omega) (by first | exact zlt hc40 | omega) sl_40_0 rfl rfl hl.1 (by rw [h40]; rfl) (Nat.le_of_ble_eq_true rfl) dL_law_1311 ⟨by show _ ≤ (601024 : Nat); omega, by show _ ≤ (7293034 : Nat); omega⟩) hS (fun z7 u8 H locs p9 hw hS => ?_)
  obtain ⟨X10, rfl, hRX10, hFX10, hMX10, hzX10, pX10⟩ := p9
  have hI11 : LI0 q0 q1 q2 ad cnt X10 Y6 ln := LI0.mdl hI5 hRX10 hFX10 hMX10 (by decide)
  refine lv_pop hx hb dL_law_1314 rfl ?_
  obtain ⟨hRC, hq9⟩ := J_undo hRC0 iMI iR hRX4 iLn iN hFX4 hHX4 pX4 hFX10 hMX10 pX10
  refine lv_goto (tgt := 1343) hx hb dL_law_1315 (by decide) ?_
  exact hg _ _ _ _ _ H locs ls _ _ ⟨hI11, hRC⟩ hw hS hl (by omega) (by omega)

set_option maxHeartbeats 4000000 in
set_option maxRecDepth 100000 in
theorem law_c26 {p : Program} {l : Launch} {e : Env} {s : State} {m : MethodId} {below : List Frame} {meth : Method} {c : Code} {b L : Nat} {xs : Nat → Int32} {D : va_G} {tc : Nat → ClassId} {Q : State → Prop} {q0 q1 q2 cB sB : Nat} {i : Int} (C : LK p l s m c b L xs D tc) (hi : 0 ≤ i ∧ i + 7 ≤ L) (hcB : cB + 310 ≤ 601024) (hsB : sB + 2110 ≤ 7293034) (hg : LAt p l e s m below meth c b D tc q0 q1 q2 i Q 1343 (cB + 310) (sB + 2110)) : LAt p l e s m below meth c b D tc q0 q1 q2 i Q 1318 cB sB := by
  obtain ⟨hx, hb, hml, hown, hts, hX, hbl, hK, hT, hlT, hL⟩ := id C
  intro ad cnt X Y ln H locs ls cl sl hI hw hS hl hcl hsl
  obtain ⟨hI0, hRC0⟩ := id hI
  obtain ⟨i0, i40, i100, iFx, iOw, iN, iLn, iR, iCI, iRv, iMI⟩ := id hI0
  refine lv_aload_n hx hb dL_law_1318 rfl (lv_at hl 1 rfl) ?_
  obtain ⟨a1, ea1, ga1⟩ := sc_at xs i 1
  refine l_arg (k := 1) (pc2 := 1323) C hS hl hi (by omega) ea1 dL_law_1319 dL_law_1320 (fun h => lv_iconst (v := jI 1) hx hb dL_law_1322 rfl h) dL_law_1323 dL_law_1324 ?_
  obtain ⟨h0, h40, h100, hFx, hOw, hN, hLn, hR, hCI, hRv, hMI⟩ := id hI0
  have hc0 : cnt 0 = 1 := hFx.at 0 1 (by decide)
  refine gos_i (run_V (k := 0) (i := 0) (As := [.int (jI a1)]) (rest := []) hx hb hml hown hts (c_X8_count l D tc s.heap.size ad cnt X Y ln hR hFx hLn hCI a1 ga1) (cwV 1 hts gT_X8_count rfl rfl rfl (by first | exact hd_X8_count | decide +kernel) ⟨Nat.le_of_ble_eq_true rfl, Nat.le_of_ble_eq_true rfl⟩) hK hw (by first | exact Int.le_refl 0 | omega) (by first | exact zlt hc0 | omega) sl_0_0 rfl rfl hl.1 (by rw [h0]; rfl) (Nat.le_of_ble_eq_true rfl) dL_law_1325 ⟨by show _ ≤ (601024 : Nat); omega, by show _ ≤ (7293034 : Nat); omega⟩) hS (fun z1 u2 H locs p3 hw hS => ?_)
  obtain ⟨X4, rfl, hRX4, hFX4, hCX4, hzX4, pX4⟩ := p3
  have hI5 : LI0 q0 q1 q2 ad cnt X4 Y ln := LI0.cls hI0 hRX4 hFX4 hCX4 (by decide)
  refine lv_pop hx hb dL_law_1328 rfl ?_
  refine lv_aload_n hx hb dL_law_1329 rfl (lv_at hl 2 rfl) ?_
  refine l_arg (k := 1) (pc2 := 1334) C hS hl hi (by omega) ea1 dL_law_1330 dL_law_1331 (fun h => lv_iconst (v := jI 1) hx hb dL_law_1333 rfl h) dL_law_1334 dL_law_1335 ?_
  obtain ⟨h0, h40, h100, hFx, hOw, hN, hLn, hR, hCI, hRv, hMI⟩ := id hI5
  have hc40 : cnt 40 = 1 := hFx.at 40 1 (by decide)
  refine gos_i (run_V (k := 40) (i := 0) (As := [.int (jI a1)]) (rest := []) hx hb hml hown hts (c_X9_count l D tc s.heap.size ad cnt X4 Y ln hR hFx hMI a1 ga1) (cwV 1 hts gT_X9_count rfl rfl rfl (by first | exact hd_X9_count | decide +kernel) ⟨Nat.le_of_ble_eq_true rfl, Nat.le_of_ble_eq_true rfl⟩) hK hw (by first | exact Int.le_refl 0 | omega) (by first | exact zlt hc40 | omega) sl_40_0 rfl rfl hl.1 (by rw [h40]; rfl) (Nat.le_of_ble_eq_true rfl) dL_law_1336 ⟨by show _ ≤ (601024 : Nat); omega, by show _ ≤ (7293034 : Nat); omega⟩) hS (fun z6 u7 H locs p8 hw hS => ?_)
  obtain ⟨X9, rfl, hRX9, hFX9, hMX9, hzX9, pX9⟩ := p8
  have hI10 : LI0 q0 q1 q2 ad cnt X9 Y ln := LI0.mdl hI5 hRX9 hFX9 hMX9 (by decide)
  refine lv_pop hx hb dL_law_1339 rfl ?_
  obtain ⟨hRC, hq9⟩ := J_count hRC0 iMI iR hRX4 iLn iN hFX4 pX4 hFX9 hMX9 pX9
  refine lv_goto (tgt := 1343) hx hb dL_law_1340 (by decide) ?_
  exact hg _ _ _ _ _ H locs ls _ _ ⟨hI10, hRC⟩ hw hS hl (by omega) (by omega)
end
section
/-! THE CLAIM OUT OF ONE WALK OF THE LAW'S BODY. Your part is whole_start (and what it stands on); all else here is the same for every law, but numbers. -/
def R_law : String := "StateRecordsLaw"
def lw_P (b : Addr) (xs : List Int32) (args : Array Value) (s : State) : Prop := args = #[.ref b] ∧ s.IntsAt b xs ∧ xs.length ≤ 3584 ∧ (Jvm.Cond.and given_1 narrow_1).before args s = true
def lw_Q (_ : Array Value) (s : State) (o : Outcome) (t : State) : Prop := o = .returned (some (.int 1)) ∧ Framed s o t [] 601024 7293034
def lw_Z (below : List Frame) (a : Array Value) (s : State) : State → Prop := fun t => ∃ o, t.status = .running ∧ Ended t below o ∧ lw_Q a s o t
/-- the law's own end, with 1 on the stack, nothing written that was there before, its room as the claim has it -/
theorem lw_ret {p : Program} {l : Launch} {e : Env} {s : State} {m : MethodId} {below : List Frame} {meth : Method} {c : Code} {b : Nat} (hx : p.tables.exec = Jvm.exec) (hb : c.code = code) (hr : meth.sig.returnType = ret) (hlocks : meth.locks = false) {pc : Nat} {H : Heap} {ls : Array Slot} (hdg : decode code pc = .ok (.ireturn, 1)) : W p l e room_1 s m #[Value.ref b] below meth c H [] 601024 7293034 (lw_Z below #[Value.ref b] s) (F0 m pc ls [.int 1]) := by
  intro T hT X
  obtain ⟨fs, hret, hrun, hended, hW, hframe⟩ := X.leave (v := some (.int 1)) (hlocks := hlocks) (fun h => by rw [hr] at h; cases h)
  have hmeth' : T.vm.method? m = some meth := X.method'
  refine ⟨T.setFrames fs, ?_, .returned (some (.int 1)), hrun, hended, rfl, ⟨_, rfl⟩, hW, hframe⟩
  jvm_step X.here [X.here.top, hx, hb, hdg, hmeth', hr, ret, narrow_b1]
  (try refine ⟨rfl, ?_⟩); (try refine ⟨rfl, ?_⟩)
  first | (intro acts; rw [hret _ acts rfl rfl rfl]) | rw [hret _ _ rfl rfl rfl]
  exact Steps.refl _
/-- what holds at the law's entry: the machine, the code, the tables' words (any of lw_tbl by 'hts w (by decide +kernel)'), the script of L ints xs at the cell b, what the Statement gives of the start (any of its parts by flat_of_before) -/
def lw_At (p : Program) (s : State) (m : MethodId) (meth : Method) (c : Code) (b L : Nat) (xs : Nat → Int32) : Prop :=
  p.tables.exec = Jvm.exec ∧ c.code = code ∧ meth.sig.returnType = ret ∧ c.maxLocals = 8 ∧ s.vm.findClass R_law = some m.cls ∧ (∀ w ∈ lw_tbl, w.before #[Value.ref b] s = true) ∧ va_X b L xs s s.heap ∧ b < s.heap.size ∧ meth.locks = false ∧ (Jvm.Cond.and given_1 narrow_1).before #[Value.ref b] s = true
end
section
/-! the law's loop -/
section LL
variable {p : Program} {l : Launch} {e : Env} {s : State} {m : MethodId} {below : List Frame} {meth : Method} {c : Code} {b L : Nat} {xs : Nat → Int32} {D : va_G} {tc : Nat → ClassId} {Q : State → Prop} {q0 q1 q2 cB sB : Nat} {i : Int}
theorem law_next (C : LK p l s m c b L xs D tc) (h : LAt p l e s m below meth c b D tc q0 q1 q2 (i + 7) Q 23 cB sB) : LAt p l e s m below meth c b D tc q0 q1 q2 i Q 1343 cB sB := by
  obtain ⟨hx, hb, -⟩ := id C
  intro ad cnt X Y ln H locs ls cl sl hI hw hS hl hcl hsl
  refine lv_iinc (v := jI (i + 7)) (lv' := [(4, .int (jI (i + 7))), (0, .ref b), (1, .ref q0), (2, .ref q1), (3, .ref q2)]) hx hb dL_law_1343 hl (k := 4) rfl (jI_add _ _) (by decide) rfl (fun ls hl => ?_)
  refine lv_goto (tgt := 23) hx hb dL_law_1346 (by decide) ?_
  exact h ad cnt X Y ln H locs ls cl sl hI hw hS (lv_sub hl [1, 2, 3, 4, 0] rfl) hcl hsl
theorem law_end (C : LK p l s m c b L xs D tc) (hr : meth.sig.returnType = ret) (hlocks : meth.locks = false) (h1 : cB ≤ 601024) (h2 : sB ≤ 7293034) : LAt p l e s m below meth c b D tc q0 q1 q2 i (lw_Z below #[Value.ref b] s) 1349 cB sB := by
  obtain ⟨hx, hb, -⟩ := id C
  intro ad cnt X Y ln H locs ls cl sl hI hw hS hl hcl hsl
  refine va_forget (fun q hq => hS.2.2 q hq) ?_
  refine W.widen (k := 601024) (n := 7293034) (by omega) (by omega) ?_
  refine lv_iconst (v := 1) hx hb dL_law_1349 rfl ?_
  exact lw_ret hx hb hr hlocks dL_law_1350
set_option maxHeartbeats 2000000 in
theorem law_disp (C : LK p l s m c b L xs D tc) (hi : 0 ≤ i ∧ i + 7 ≤ L) (hcB : cB + 310 ≤ 601024) (hsB : sB + 2110 ≤ 7293034) (hg : LAt p l e s m below meth c b D tc q0 q1 q2 i Q 1343 (cB + 310) (sB + 2110)) : LAt p l e s m below meth c b D tc q0 q1 q2 i Q 33 cB sB := by
  obtain ⟨hx, hb, hml, hown, hts, hX, hbl, hK, hT, hlT, hL⟩ := id C
  intro ad cnt X Y ln H locs ls cl sl hI hw hS hl hcl hsl
  refine lv_aload_n hx hb dL_law_33 rfl (lv_at hl 0 rfl) ?_
  refine lv_iload hx hb dL_law_34 (lv_at hl 4 rfl) ?_
  refine va_sld hx hb hX hbl (Nat.not_le.mpr hbl) hS (jI_in (by omega) (by omega) (by omega)) dL_law_36 ?_
  refine lv_bipush (v := jI 31) hx hb dL_law_37 (by decide) ?_
  refine lv_iand hx hb dL_law_39 ?_
  refine x_anyi (fun z hz => ?_)
  have tz : (jI z).toInt = z := jI_toInt hz
  by_cases ho : z < 0 ∨ 26 < z
  · refine lv_tableOut (tgt := 1343) hx hb dL_law_40 (by rw [tz]; exact ho) (by decide) ?_
    exact hg ad cnt X Y ln H locs ls cl sl hI hw hS hl (by omega) (by omega)
  by_cases c0 : z = 0
  · refine lv_tableIn (off := 124) (tgt := 164) hx hb dL_law_40 (by rw [tz]; omega) (by rw [tz]; omega) (by rw [tz, c0]; rfl) (by decide) ?_
    exact law_c0 C hi hcB hsB hg ad cnt X Y ln H locs ls cl sl hI hw hS hl hcl hsl
  by_cases c1 : z = 1
  · refine lv_tableIn (off := 137) (tgt := 177) hx hb dL_law_40 (by rw [tz]; omega) (by rw [tz]; omega) (by rw [tz, c1]; rfl) (by decide) ?_
    exact law_c1 C hi hcB hsB hg ad cnt X Y ln H locs ls cl sl hI hw hS hl hcl hsl
  by_cases c2 : z = 2
  · refine lv_tableIn (off := 230) (tgt := 270) hx hb dL_law_40 (by rw [tz]; omega) (by rw [tz]; omega) (by rw [tz, c2]; rfl) (by decide) ?_
    exact law_c2 C hi hcB hsB hg ad cnt X Y ln H locs ls cl sl hI hw hS hl hcl hsl
  by_cases c3 : z = 3
  · refine lv_tableIn (off := 267) (tgt := 307) hx hb dL_law_40 (by rw [tz]; omega) (by rw [tz]; omega) (by rw [tz, c3]; rfl) (by decide) ?_
    exact law_c3 C hi hcB hsB hg ad cnt X Y ln H locs ls cl sl hI hw hS hl hcl hsl
  by_cases c4 : z = 4
  · refine lv_tableIn (off := 332) (tgt := 372) hx hb dL_law_40 (by rw [tz]; omega) (by rw [tz]; omega) (by rw [tz, c4]; rfl) (by decide) ?_
    exact law_c4 C hi hcB hsB hg ad cnt X Y ln H locs ls cl sl hI hw hS hl hcl hsl
  by_cases c5 : z = 5
  · refine lv_tableIn (off := 439) (tgt := 479) hx hb dL_law_40 (by rw [tz]; omega) (by rw [tz]; omega) (by rw [tz, c5]; rfl) (by decide) ?_
    exact law_c5 C hi hcB hsB hg ad cnt X Y ln H locs ls cl sl hI hw hS hl hcl hsl
  by_cases c6 : z = 6
  · refine lv_tableIn (off := 464) (tgt := 504) hx hb dL_law_40 (by rw [tz]; omega) (by rw [tz]; omega) (by rw [tz, c6]; rfl) (by decide) ?_
    exact law_c6 C hi hcB hsB hg ad cnt X Y ln H locs ls cl sl hI hw hS hl hcl hsl
  by_cases c7 : z = 7
  · refine lv_tableIn (off := 517) (tgt := 557) hx hb dL_law_40 (by rw [tz]; omega) (by rw [tz]; omega) (by rw [tz, c7]; rfl) (by decide) ?_
    exact law_c7 C hi hcB hsB hg ad cnt X Y ln H locs ls cl sl hI hw hS hl hcl hsl
  by_cases c8 : z = 8
  · refine lv_tableIn (off := 542) (tgt := 582) hx hb dL_law_40 (by rw [tz]; omega) (by rw [tz]; omega) (by rw [tz, c8]; rfl) (by decide) ?_
    exact law_c8 C hi hcB hsB hg ad cnt X Y ln H locs ls cl sl hI hw hS hl hcl hsl
  by_cases c9 : z = 9
  · refine lv_tableIn (off := 623) (tgt := 663) hx hb dL_law_40 (by rw [tz]; omega) (by rw [tz]; omega) (by rw [tz, c9]; rfl) (by decide) ?_
    exact law_c9 C hi hcB hsB hg ad cnt X Y ln H locs ls cl sl hI hw hS hl hcl hsl
  by_cases c10 : z = 10
  · refine lv_tableIn (off := 672) (tgt := 712) hx hb dL_law_40 (by rw [tz]; omega) (by rw [tz]; omega) (by rw [tz, c10]; rfl) (by decide) ?_
    exact law_c10 C hi hcB hsB hg ad cnt X Y ln H locs ls cl sl hI hw hS hl hcl hsl
  by_cases c11 : z = 11
  · refine lv_tableIn (off := 721) (tgt := 761) hx hb dL_law_40 (by rw [tz]; omega) (by rw [tz]; omega) (by rw [tz, c11]; rfl) (by decide) ?_
    exact law_c11 C hi hcB hsB hg ad cnt X Y ln H locs ls cl sl hI hw hS hl hcl hsl
  by_cases c12 : z = 12
  · refine lv_tableIn (off := 782) (tgt := 822) hx hb dL_law_40 (by rw [tz]; omega) (by rw [tz]; omega) (by rw [tz, c12]; rfl) (by decide) ?_
    exact law_c12 C hi hcB hsB hg ad cnt X Y ln H locs ls cl sl hI hw hS hl hcl hsl
  by_cases c13 : z = 13
  · refine lv_tableIn (off := 875) (tgt := 915) hx hb dL_law_40 (by rw [tz]; omega) (by rw [tz]; omega) (by rw [tz, c13]; rfl) (by decide) ?_
    exact law_c13 C hi hcB hsB hg ad cnt X Y ln H locs ls cl sl hI hw hS hl hcl hsl
  by_cases c14 : z = 14
  · refine lv_tableIn (off := 915) (tgt := 955) hx hb dL_law_40 (by rw [tz]; omega) (by rw [tz]; omega) (by rw [tz, c14]; rfl) (by decide) ?_
    exact law_c14 C hi hcB hsB hg ad cnt X Y ln H locs ls cl sl hI hw hS hl hcl hsl
  by_cases c15 : z = 15
  · refine lv_tableIn (off := 967) (tgt := 1007) hx hb dL_law_40 (by rw [tz]; omega) (by rw [tz]; omega) (by rw [tz, c15]; rfl) (by decide) ?_
    exact law_c15 C hi hcB hsB hg ad cnt X Y ln H locs ls cl sl hI hw hS hl hcl hsl
  by_cases c16 : z = 16
  · refine lv_tableIn (off := 980) (tgt := 1020) hx hb dL_law_40 (by rw [tz]; omega) (by rw [tz]; omega) (by rw [tz, c16]; rfl) (by decide) ?_
    exact law_c16 C hi hcB hsB hg ad cnt X Y ln H locs ls cl sl hI hw hS hl hcl hsl
  by_cases c17 : z = 17
  · refine lv_tableIn (off := 1017) (tgt := 1057) hx hb dL_law_40 (by rw [tz]; omega) (by rw [tz]; omega) (by rw [tz, c17]; rfl) (by decide) ?_
    exact law_c17 C hi hcB hsB hg ad cnt X Y ln H locs ls cl sl hI hw hS hl hcl hsl
  by_cases c18 : z = 18
  · refine lv_tableIn (off := 1042) (tgt := 1082) hx hb dL_law_40 (by rw [tz]; omega) (by rw [tz]; omega) (by rw [tz, c18]; rfl) (by decide) ?_
    exact law_c18 C hi hcB hsB hg ad cnt X Y ln H locs ls cl sl hI hw hS hl hcl hsl
  by_cases c19 : z = 19
  · refine lv_tableIn (off := 1079) (tgt := 1119) hx hb dL_law_40 (by rw [tz]; omega) (by rw [tz]; omega) (by rw [tz, c19]; rfl) (by decide) ?_
    exact law_c19 C hi hcB hsB hg ad cnt X Y ln H locs ls cl sl hI hw hS hl hcl hsl
  by_cases c20 : z = 20
  · refine lv_tableIn (off := 1116) (tgt := 1156) hx hb dL_law_40 (by rw [tz]; omega) (by rw [tz]; omega) (by rw [tz, c20]; rfl) (by decide) ?_
    exact law_c20 C hi hcB hsB hg ad cnt X Y ln H locs ls cl sl hI hw hS hl hcl hsl
  by_cases c21 : z = 21
  · refine lv_tableIn (off := 1153) (tgt := 1193) hx hb dL_law_40 (by rw [tz]; omega) (by rw [tz]; omega) (by rw [tz, c21]; rfl) (by decide) ?_
    exact law_c21 C hi hcB hsB hg ad cnt X Y ln H locs ls cl sl hI hw hS hl hcl hsl
  by_cases c22 : z = 22
  · refine lv_tableIn (off := 1178) (tgt := 1218) hx hb dL_law_40 (by rw [tz]; omega) (by rw [tz]; omega) (by rw [tz, c22]; rfl) (by decide) ?_
    exact law_c22 C hi hcB hsB hg ad cnt X Y ln H locs ls cl sl hI hw hS hl hcl hsl
  by_cases c23 : z = 23
  · refine lv_tableIn (off := 1215) (tgt := 1255) hx hb dL_law_40 (by rw [tz]; omega) (by rw [tz]; omega) (by rw [tz, c23]; rfl) (by decide) ?_
    exact law_c23 C hi hcB hsB hg ad cnt X Y ln H locs ls cl sl hI hw hS hl hcl hsl
  by_cases c24 : z = 24
  · refine lv_tableIn (off := 1252) (tgt := 1292) hx hb dL_law_40 (by rw [tz]; omega) (by rw [tz]; omega) (by rw [tz, c24]; rfl) (by decide) ?_
    exact law_c24 C hi hcB hsB hg ad cnt X Y ln H locs ls cl sl hI hw hS hl hcl hsl
  by_cases c25 : z = 25
  · refine lv_tableIn (off := 1265) (tgt := 1305) hx hb dL_law_40 (by rw [tz]; omega) (by rw [tz]; omega) (by rw [tz, c25]; rfl) (by decide) ?_
    exact law_c25 C hi hcB hsB hg ad cnt X Y ln H locs ls cl sl hI hw hS hl hcl hsl
  have c26 : z = 26 := by omega
  refine lv_tableIn (off := 1278) (tgt := 1318) hx hb dL_law_40 (by rw [tz]; omega) (by rw [tz]; omega) (by rw [tz, c26]; rfl) (by decide) ?_
  exact law_c26 C hi hcB hsB hg ad cnt X Y ln H locs ls cl sl hI hw hS hl hcl hsl
theorem law_head (C : LK p l s m c b L xs D tc) (hi : 0 ≤ i ∧ i ≤ 4000) (ke : LAt p l e s m below meth c b D tc q0 q1 q2 i Q 1349 cB sB) (kg : i + 7 ≤ L → LAt p l e s m below meth c b D tc q0 q1 q2 i Q 33 cB sB) : LAt p l e s m below meth c b D tc q0 q1 q2 i Q 23 cB sB := by
  obtain ⟨hx, hb, hml, hown, hts, hX, hbl, hK, hT, hlT, hL⟩ := id C
  intro ad cnt X Y ln H locs ls cl sl hI hw hS hl hcl hsl
  refine lv_iload hx hb dL_law_23 (lv_at hl 4 rfl) ?_
  refine lv_aload_n hx hb dL_law_25 rfl (lv_at hl 0 rfl) ?_
  refine va_slen hx hb hX hbl (Nat.not_le.mpr hbl) hS dL_law_26 ?_
  have eL : Int32.ofNat L = jI (L : Int) := by unfold jI; exact (Int32.ofInt_eq_ofNat).symm
  rw [eL]
  refine lv_bipush (v := jI 7) hx hb dL_law_27 (by decide) ?_
  refine x_isub hx hb dL_law_29 ?_
  refine x_icmp_gt (tgt := 1349) hx hb (by omega) (by omega) dL_law_30 (by decide) (fun _ => ?_) (fun cg => ?_)
  · exact ke ad cnt X Y ln H locs ls cl sl hI hw hS hl hcl hsl
  · exact kg (by omega) ad cnt X Y ln H locs ls cl sl hI hw hS hl hcl hsl
set_option maxRecDepth 100000 in
theorem law_loop (C : LK p l s m c b L xs D tc) (hr : meth.sig.returnType = ret) (hlocks : meth.locks = false) : ∀ (n : Nat) (i : Int) (cB sB : Nat), (L : Int) - i < 7 * (n : Int) → 0 ≤ i ∧ i ≤ 3584 → cB + 310 * n ≤ 601024 → sB + 2110 * n ≤ 7293034 → LAt p l e s m below meth c b D tc q0 q1 q2 i (lw_Z below #[Value.ref b] s) 23 cB sB := by
  have hL := C.2.2.2.2.2.2.2.2.2.2
  intro n
  induction n with
  | zero => exact fun i cB sB h0 h1 h2 h3 => law_head C (by omega) (law_end C hr hlocks (by omega) (by omega)) (fun q => by omega)
  | succ n ih =>
    intro i cB sB h0 h1 h2 h3
    have e1 : cB + 310 ≤ 601024 := by omega
    have e2 : sB + 2110 ≤ 7293034 := by omega
    have k1 : cB + 310 + 310 * n ≤ 601024 := by omega
    have k2 : sB + 2110 + 2110 * n ≤ 7293034 := by omega
    have e3 : cB ≤ 601024 := by omega
    have e4 : sB ≤ 7293034 := by omega
    refine law_head C (by omega) (law_end C hr hlocks e3 e4) (fun q => ?_)
    exact law_disp C ⟨h1.1, q⟩ e1 e2 (law_next C (ih (i + 7) (cB + 310) (sB + 2110) (by omega) (by omega) k1 k2))
end LL
end
section
/-! what the start gives -/
theorem st_ar_int {s : State} {A : Array Value} (h : (Cond.arrayClass .int).before A s = true) : ∃ cA : ClassId, ArrOfT s cA .int ∧ va_RA s cA .int := by
  obtain ⟨c, k, comp, h1, h2, h3⟩ := Cond.arrayClass_spec h
  exact ⟨c, fun n z => ⟨fun k h => (by cases h), k, h2, comp, h3⟩, h1⟩
theorem st_ar_long {s : State} {A : Array Value} (h : (Cond.arrayClass .long).before A s = true) : ∃ cA : ClassId, ArrOfT s cA .long ∧ va_RA s cA .long := by
  obtain ⟨c, k, comp, h1, h2, h3⟩ := Cond.arrayClass_spec h
  exact ⟨c, fun n z => ⟨fun k h => (by cases h), k, h2, comp, h3⟩, h1⟩
theorem st_ar_boolean {s : State} {A : Array Value} (h : (Cond.arrayClass .boolean).before A s = true) : ∃ cA : ClassId, ArrOfT s cA .boolean ∧ va_RA s cA .boolean := by
  obtain ⟨c, k, comp, h1, h2, h3⟩ := Cond.arrayClass_spec h
  exact ⟨c, fun n z => ⟨fun k h => (by cases h), k, h2, comp, h3⟩, h1⟩
theorem st_ao {s : State} {C : String} (h : va_AO C s) : ∃ cA : ClassId, ArrOfT s cA (.object C) ∧ va_RA s cA (.object C) := by
  obtain ⟨comp, c, k, h1, h2, h3, h4, h5⟩ := Cond.arrayOver_spec h
  exact ⟨c, fun n z => ⟨fun k h => (by cases h), k, h3, comp, h4⟩, k, comp, h3, h4, h1, h5⟩
set_option maxHeartbeats 4000000 in
set_option maxRecDepth 100000 in
theorem st_K {s : State} {A : Array Value} (hts : ∀ w ∈ lw_tbl, w.before A s = true) : ∃ (D : va_G) (tc : Nat → ClassId), Kx D tc s := by
  obtain ⟨c0, i0, k0⟩ := u_known (C := RX0) (T := TX0) (N := 4) (n := 4) hts wsX00_in (hts (.instantiable RX0 4) (by first | exact gt_2 _ (gp_16 (gp_16 (gp_16 (gp_4 (gp_4 (gp_4 (gp_1 (gp_1 (gp_1 gp_h))))))))) | decide +kernel))
  obtain ⟨c1, i1, k1⟩ := u_known (C := RX1) (T := TX1) (N := 4) (n := 4) hts wsX10_in (hts (.instantiable RX1 4) (by first | exact gt_1 _ (gp_64 (gp_16 (gp_16 (gp_16 (gp_4 (gp_4 (gp_1 (gp_1 (gp_1 gp_h))))))))) | decide +kernel))
  obtain ⟨c2, i2, k2⟩ := u_known (C := RX2) (T := TX2) (N := 4) (n := 4) hts wsX20_in (hts (.instantiable RX2 4) (by first | exact gt_1 _ (gp_64 (gp_4 (gp_4 (gp_4 (gp_1 (gp_1 gp_h)))))) | decide +kernel))
  obtain ⟨c3, i3, k3⟩ := u_known (C := RX3) (T := TX3) (N := 4) (n := 4) hts wsX30_in (hts (.instantiable RX3 4) (by first | exact gt_1 _ (gp_64 (gp_16 (gp_4 (gp_1 gp_h)))) | decide +kernel))
  obtain ⟨c4, i4, k4⟩ := u_known (C := RX4) (T := TX4) (N := 9) (n := 9) hts wsX40_in (hts (.instantiable RX4 9) (by first | exact gt_1 _ (gp_16 (gp_16 gp_h)) | decide +kernel))
  obtain ⟨c5, i5, k5⟩ := u_known (C := RX5) (T := TX5) (N := 2) (n := 2) hts wsX50_in (hts (.instantiable RX5 2) (by first | exact gt_2 _ (gp_64 (gp_64 (gp_16 (gp_4 (gp_1 (gp_1 gp_h)))))) | decide +kernel))
  obtain ⟨c6, i6, k6⟩ := u_known (C := RX6) (T := TX6) (N := 4) (n := 4) hts wsX60_in (hts (.instantiable RX6 4) (by first | exact gt_1 _ (gp_64 (gp_64 (gp_16 (gp_1 gp_h)))) | decide +kernel))
  obtain ⟨c7, i7, k7⟩ := u_known (C := RX7) (T := TX7) (N := 8) (n := 8) hts wsX70_in (hts (.instantiable RX7 8) (by first | exact gt_1 _ (gp_64 (gp_64 (gp_64 (gp_16 (gp_4 (gp_1 gp_h)))))) | decide +kernel))
  obtain ⟨c8, i8, k8⟩ := u_known (C := RX8) (T := TX8) (N := 12) (n := 12) hts wsX80_in (hts (.instantiable RX8 12) (by first | exact gt_1 _ (gp_16 (gp_1 (gp_1 (gp_1 gp_h)))) | decide +kernel))
  obtain ⟨c9, i9, k9⟩ := u_known (C := RX9) (T := TX9) (N := 51) (n := 51) hts wsX90_in (hts (.instantiable RX9 51) (by first | exact gt_4 _ (gp_4 (gp_4 (gp_1 (gp_1 gp_h)))) | decide +kernel))
  have a0 : va_AO RX0 s := va_AO.of (hts (.arrayOver (.object RX0)) (by first | exact gt_1 _ (gp_64 (gp_64 (gp_64 (gp_16 (gp_4 (gp_4 (gp_1 (gp_1 (gp_1 gp_h))))))))) | decide +kernel))
  have a3 : va_AO RX3 s := va_AO.of (hts (.arrayOver (.object RX3)) (by first | exact gt_1 _ (gp_64 (gp_16 (gp_4 gp_h))) | decide +kernel))
  have a4 : va_AO RX4 s := va_AO.of (hts (.arrayOver (.object RX4)) (by first | exact gt_1 _ (gp_16 (gp_4 (gp_4 (gp_4 (gp_1 (gp_1 (gp_1 gp_h))))))) | decide +kernel))
  have a5 : va_AO RX5 s := va_AO.of (hts (.arrayOver (.object RX5)) (by first | exact gt_1 _ (gp_64 (gp_4 (gp_4 (gp_4 gp_h)))) | decide +kernel))
  have a6 : va_AO RX6 s := va_AO.of (hts (.arrayOver (.object RX6)) (by first | exact gt_1 _ (gp_16 (gp_4 (gp_4 (gp_4 (gp_1 gp_h))))) | decide +kernel))
  have a7 : va_AO RX7 s := va_AO.of (hts (.arrayOver (.object RX7)) (by first | exact gt_1 _ (gp_16 (gp_4 (gp_4 (gp_1 (gp_1 (gp_1 gp_h)))))) | decide +kernel))
  obtain ⟨t0, r0⟩ := st_ar_int (hts (.arrayClass .int) (by first | exact gt_1 _ (gp_64 (gp_4 (gp_4 (gp_1 gp_h)))) | decide +kernel))
  obtain ⟨t1, r1⟩ := st_ar_long (hts (.arrayClass .long) (by first | exact gt_1 _ (gp_64 (gp_4 (gp_4 (gp_1 (gp_1 gp_h))))) | decide +kernel))
  obtain ⟨t2, r2⟩ := st_ar_boolean (hts (.arrayClass .boolean) (by first | exact gt_1 _ (gp_64 (gp_4 (gp_4 gp_h))) | decide +kernel))
  obtain ⟨t3, r3⟩ := st_ao a0
  obtain ⟨t4, r4⟩ := st_ao a3
  obtain ⟨t5, r5⟩ := st_ao a4
  obtain ⟨t6, r6⟩ := st_ao a5
  obtain ⟨t7, r7⟩ := st_ao a6
  obtain ⟨t8, r8⟩ := st_ao a7
  refine ⟨(fun k => match k with | 0 => c0 | 1 => c1 | 2 => c2 | 3 => c3 | 4 => c4 | 5 => c5 | 6 => c6 | 7 => c7 | 8 => c8 | _ => c9, fun k => match k with | 0 => i0 | 1 => i1 | 2 => i2 | 3 => i3 | 4 => i4 | 5 => i5 | 6 => i6 | 7 => i7 | 8 => i8 | _ => i9), fun k => match k with | 0 => t0 | 1 => t1 | 2 => t2 | 3 => t3 | 4 => t4 | 5 => t5 | 6 => t6 | 7 => t7 | _ => t8, ⟨⟨?_, ?_⟩, ?_⟩⟩
  · intro k q hq
    match k, hq with
    | 0, hq => cases hq; exact k0
    | 1, hq => cases hq; exact k1
    | 2, hq => cases hq; exact k2
    | 3, hq => cases hq; exact k3
    | 4, hq => cases hq; exact k4
    | 5, hq => cases hq; exact k5
    | 6, hq => cases hq; exact k6
    | 7, hq => cases hq; exact k7
    | 8, hq => cases hq; exact k8
    | 9, hq => cases hq; exact k9
    | k + 10, hq => simp [vwCl] at hq
  · intro k q hq
    match k, hq with
    | 0, hq => cases hq; exact r0
    | 1, hq => cases hq; exact r1
    | 2, hq => cases hq; exact r2
    | 3, hq => cases hq; exact r3
    | 4, hq => cases hq; exact r4
    | 5, hq => cases hq; exact r5
    | 6, hq => cases hq; exact r6
    | 7, hq => cases hq; exact r7
    | 8, hq => cases hq; exact r8
    | k + 9, hq => simp [tysL] at hq
  · exact ⟨va_Nw.of rfl (hts (.methodLinkNest RX7 39 yX8_isBelow RX8) (by first | exact gt_2 _ (gp_16 (gp_16 (gp_4 (gp_4 (gp_4 (gp_1 gp_h)))))) | decide +kernel)), va_Nw.of rfl (hts (.methodLinkNest RX7 47 yX8_isRowLane RX8) (by first | exact gt_2 _ (gp_64 (gp_64 (gp_64 (gp_16 (gp_16 (gp_1 gp_h)))))) | decide +kernel)), va_Nw.of rfl (hts (.methodLinkNest RX4 50 yX8_isRowLane RX8) (by first | exact gt_3 _ (gp_64 (gp_16 (gp_16 gp_h))) | decide +kernel)), ⟨va_Nw.of rfl (hts (.methodLinkNest RX8 31 yX4_init RX8) (by first | exact gt_1 _ (gp_16 (gp_16 (gp_1 gp_h))) | decide +kernel)), va_Nw.of rfl (hts (.methodLinkNest RX8 57 yX1_init RX8) (by first | exact gt_1 _ (gp_64 (gp_16 (gp_16 (gp_16 (gp_4 (gp_4 (gp_4 gp_h))))))) | decide +kernel)), va_Nw.of rfl (hts (.methodLinkNest RX8 62 yX6_init RX8) (by first | exact gt_1 _ (gp_64 (gp_64 (gp_16 (gp_1 (gp_1 gp_h))))) | decide +kernel)), va_Nw.of rfl (hts (.methodLinkNest RX2 21 yX3_init RX8) (by first | exact gt_1 _ (gp_64 (gp_16 (gp_4 (gp_1 (gp_1 gp_h))))) | decide +kernel))⟩, a0, a3, a4, a5, a6, a7⟩
set_option maxHeartbeats 4000000 in
set_option maxRecDepth 100000 in
theorem st_T {s : State} {A : Array Value} (hts : ∀ w ∈ lw_tbl, w.before A s = true) (hgv : (Jvm.Cond.and given_1 narrow_1).before A s = true) : TK s.heap.size s s.heap := by
  have hg := flat_of_before _ hgv
  obtain ⟨a183, -, -, -, h183, -⟩ := Cond.exactly_spec (hg (.exactly (.string "StateRecords" 183) "java/lang/String") (by decide +kernel))
  obtain ⟨a190, -, -, -, h190, -⟩ := Cond.exactly_spec (hg (.exactly (.string "StateRecords" 190) "java/lang/String") (by decide +kernel))
  obtain ⟨a198, -, -, -, h198, -⟩ := Cond.exactly_spec (hg (.exactly (.string "StateRecords" 198) "java/lang/String") (by decide +kernel))
  obtain ⟨a201, -, -, -, h201, -⟩ := Cond.exactly_spec (hg (.exactly (.string "StateRecords" 201) "java/lang/String") (by decide +kernel))
  obtain ⟨a203, -, -, -, h203, -⟩ := Cond.exactly_spec (hg (.exactly (.string "StateRecords" 203) "java/lang/String") (by decide +kernel))
  refine ⟨⟨⟨a183, vk_R.of (hts (.stringRef RX8 183 "no such thing") (by first | exact gt_3 _ (gp_64 (gp_64 (gp_16 (gp_16 (gp_16 (gp_4 gp_h)))))) | decide +kernel)) h183⟩, ⟨a190, vk_R.of (hts (.stringRef RX8 190 "no such field") (by first | exact gt_3 _ (gp_64 (gp_64 (gp_64 (gp_16 (gp_4 (gp_4 gp_h)))))) | decide +kernel)) h190⟩, ⟨a198, vk_R.of (hts (.stringRef RX8 198 "no lane of rows") (by first | exact gt_4 _ (gp_h) | decide +kernel)) h198⟩, ⟨a201, vk_R.of (hts (.stringRef RX8 201 "no row") (by first | exact gt_4 _ (gp_4 (gp_1 (gp_1 (gp_1 gp_h)))) | decide +kernel)) h201⟩, ⟨a203, vk_R.of (hts (.stringRef RX8 203 "no such item") (by first | exact gt_4 _ (gp_4 (gp_4 gp_h)) | decide +kernel)) h203⟩⟩, ⟨va_Nw.of rfl (hts (.declares dI1) (by decide +kernel)), va_Nw.of rfl (hts (.declares dI2) (by decide +kernel)), va_Nw.of rfl (hts (.declares dI3) (by decide +kernel))⟩, ⟨va_Nw.of rfl (hts (.castable eA eA) (by decide +kernel)), va_Nw.of rfl (hts (.castable eI eI) (by decide +kernel)), va_Nw.of rfl (hts (.castable eS eS) (by decide +kernel))⟩, ⟨va_Nc.of (hg (.not (.castable eI eA)) (by decide +kernel)), va_Nc.of (hg (.not (.castable eS eA)) (by decide +kernel)), va_Nc.of (hg (.not (.castable eI eS)) (by decide +kernel))⟩, ?_, ?_⟩
  · exact vx_Zqof (hts (.laysStatic "java/lang/Throwable" "UNASSIGNED_STACK" "[Ljava/lang/StackTraceElement;") (by first | exact gt_3 _ (gp_64 (gp_64 (gp_16 (gp_16 (gp_4 (gp_1 (gp_1 gp_h))))))) | decide +kernel)) (hts (.initialized "java/lang/Throwable") (by first | exact gt_1 _ (gp_4 (gp_4 (gp_1 (gp_1 (gp_1 gp_h))))) | decide +kernel)) (hg (.isRef (.static "java/lang/Throwable" "UNASSIGNED_STACK" "[Ljava/lang/StackTraceElement;")) (by decide +kernel)) (fun a h => Nat.not_le.mpr h)
  · exact vx_Zqof (hts (.laysStatic "java/lang/Throwable" "SUPPRESSED_SENTINEL" "Ljava/util/List;") (by first | exact gt_3 _ (gp_64 (gp_64 (gp_16 (gp_16 (gp_4 (gp_4 gp_h)))))) | decide +kernel)) (hts (.initialized "java/lang/Throwable") (by first | exact gt_1 _ (gp_4 (gp_4 (gp_1 (gp_1 (gp_1 gp_h))))) | decide +kernel)) (hg (.isRef (.static "java/lang/Throwable" "SUPPRESSED_SENTINEL" "Ljava/util/List;")) (by decide +kernel)) (fun a h => Nat.not_le.mpr h)
end
section
/-! the reference and the law's row come into the world: printed by wip/tools/born9.py -/
def K9 : List Nat := [40, 42, 44, 45, 46, 47, 48, 49, 50, 51, 52, 53, 55, 56, 57, 58, 59, 60, 62, 64, 65, 66, 67, 68, 70, 71, 72, 73, 74, 75, 76, 77, 78, 79, 80, 81, 85, 86, 87, 88, 89, 90, 100]
def X9n (X : Nat → Int → Int → Int) : Nat → Int → Int → Int := fun k i j => if k = 40 ∧ i = 0 ∧ (j = 41 ∨ j = 42 ∨ j = 43) then -9 else X k i j
theorem X9n_k {X : Nat → Int → Int → Int} {k : Nat} (h : k ≠ 40) (i : Int) : X9n X k i = X k i := by funext j; simp [X9n, h]
theorem X9n_j {X : Nat → Int → Int → Int} {k : Nat} {i j : Int} (h : j ≠ 41 ∧ j ≠ 42 ∧ j ≠ 43) : X9n X k i j = X k i j := by simp only [X9n]; rw [if_neg (fun q => by omega)]
theorem X9n_9 {X : Nat → Int → Int → Int} {j : Int} (h : j = 41 ∨ j = 42 ∨ j = 43) : X9n X 40 0 j = -9 := by show (if 40 = 40 ∧ (0 : Int) = 0 ∧ (j = 41 ∨ j = 42 ∨ j = 43) then (-9 : Int) else X 40 0 j) = -9; exact if_pos ⟨rfl, rfl, h⟩
set_option maxHeartbeats 4000000 in
set_option maxRecDepth 100000 in
theorem born_mdl_o {tc : Nat → ClassId} {ad : Nat → Int → Nat} {X : Nat → Int → Int → Int} {Y : Nat → Int → Int → Option Int} {ln : Int → Int} {q1 q2 q3 q4 q5 q6 q7 q8 q9 q10 q11 q12 q13 q14 q15 q16 q17 q18 q19 q20 q21 q22 q23 q24 q25 q26 q27 q28 q29 q30 q31 q32 q33 q34 q35 q36 q37 q38 q39 q40 q41 : Nat} (hX : ∀ j, X 40 0 j = 0) (a42 : ad 42 0 = q1) (a44 : ad 44 0 = q2) (a45 : ad 45 0 = q3) (a46 : ad 46 0 = q4) (a47 : ad 47 0 = q5) (a48 : ad 48 0 = q6) (a49 : ad 49 0 = q7) (a50 : ad 50 0 = q8) (a51 : ad 51 0 = q9) (a52 : ad 52 0 = q10) (a53 : ad 53 0 = q11) (a55 : ad 55 0 = q12) (a56 : ad 56 0 = q13) (a57 : ad 57 0 = q14) (a58 : ad 58 0 = q15) (a59 : ad 59 0 = q16) (a60 : ad 60 0 = q17) (a62 : ad 62 0 = q18) (a64 : ad 64 0 = q19) (a65 : ad 65 0 = q20) (a66 : ad 66 0 = q21) (a67 : ad 67 0 = q22) (a68 : ad 68 0 = q23) (a70 : ad 70 0 = q24) (a71 : ad 71 0 = q25) (a72 : ad 72 0 = q26) (a73 : ad 73 0 = q27) (a74 : ad 74 0 = q28) (a75 : ad 75 0 = q29) (a76 : ad 76 0 = q30) (a77 : ad 77 0 = q31) (a78 : ad 78 0 = q32) (a79 : ad 79 0 = q33) (a80 : ad 80 0 = q34) (a81 : ad 81 0 = q35) (a85 : ad 85 0 = q36) (a86 : ad 86 0 = q37) (a87 : ad 87 0 = q38) (a88 : ad 88 0 = q39) (a89 : ad 89 0 = q40) (a90 : ad 90 0 = q41) : ceE tc ad (X9n X) Y ln 40 0 = .inr (9, [.int 0, .ref q1, .int 0, .ref q2, .ref q3, .ref q4, .ref q5, .ref q6, .ref q7, .ref q8, .ref q9, .ref q10, .ref q11, .int 0, .ref q12, .ref q13, .ref q14, .ref q15, .ref q16, .ref q17, .int 0, .ref q18, .int 0, .ref q19, .ref q20, .ref q21, .ref q22, .ref q23, .int 0, .ref q24, .ref q25, .ref q26, .ref q27, .ref q28, .ref q29, .ref q30, .ref q31, .ref q32, .ref q33, .ref q34, .ref q35, .int (jI (-9)), .int (jI (-9)), .int (jI (-9)), .ref q36, .ref q37, .ref q38, .ref q39, .ref q40, .ref q41, .int 0]) := by
  rw [ob_E sl_40_0]
  have t0 : slo 40 0 = (0, 0) := sl_40_0.2.2.1
  have t1 : slo 40 1 = (3, 42) := sl_40_1.2.2.1
  have t2 : slo 40 2 = (0, 0) := sl_40_2.2.2.1
  have t3 : slo 40 3 = (3, 44) := sl_40_3.2.2.1
  have t4 : slo 40 4 = (3, 45) := sl_40_4.2.2.1
  have t5 : slo 40 5 = (3, 46) := sl_40_5.2.2.1
  have t6 : slo 40 6 = (3, 47) := sl_40_6.2.2.1
  have t7 : slo 40 7 = (3, 48) := sl_40_7.2.2.1
  have t8 : slo 40 8 = (3, 49) := sl_40_8.2.2.1
  have t9 : slo 40 9 = (3, 50) := sl_40_9.2.2.1
  have t10 : slo 40 10 = (3, 51) := sl_40_10.2.2.1
  have t11 : slo 40 11 = (3, 52) := sl_40_11.2.2.1
  have t12 : slo 40 12 = (3, 53) := sl_40_12.2.2.1
  have t13 : slo 40 13 = (0, 0) := sl_40_13.2.2.1
  have t14 : slo 40 14 = (3, 55) := sl_40_14.2.2.1
  have t15 : slo 40 15 = (3, 56) := sl_40_15.2.2.1
  have t16 : slo 40 16 = (3, 57) := sl_40_16.2.2.1
  have t17 : slo 40 17 = (3, 58) := sl_40_17.2.2.1
  have t18 : slo 40 18 = (3, 59) := sl_40_18.2.2.1
  have t19 : slo 40 19 = (3, 60) := sl_40_19.2.2.1
  have t20 : slo 40 20 = (0, 0) := sl_40_20.2.2.1
  have t21 : slo 40 21 = (3, 62) := sl_40_21.2.2.1
  have t22 : slo 40 22 = (0, 0) := sl_40_22.2.2.1
  have t23 : slo 40 23 = (3, 64) := sl_40_23.2.2.1
  have t24 : slo 40 24 = (3, 65) := sl_40_24.2.2.1
  have t25 : slo 40 25 = (3, 66) := sl_40_25.2.2.1
  have t26 : slo 40 26 = (3, 67) := sl_40_26.2.2.1
  have t27 : slo 40 27 = (3, 68) := sl_40_27.2.2.1
  have t28 : slo 40 28 = (0, 0) := sl_40_28.2.2.1
  have t29 : slo 40 29 = (3, 70) := sl_40_29.2.2.1
  have t30 : slo 40 30 = (3, 71) := sl_40_30.2.2.1
  have t31 : slo 40 31 = (3, 72) := sl_40_31.2.2.1
  have t32 : slo 40 32 = (3, 73) := sl_40_32.2.2.1
  have t33 : slo 40 33 = (3, 74) := sl_40_33.2.2.1
  have t34 : slo 40 34 = (3, 75) := sl_40_34.2.2.1
  have t35 : slo 40 35 = (3, 76) := sl_40_35.2.2.1
  have t36 : slo 40 36 = (3, 77) := sl_40_36.2.2.1
  have t37 : slo 40 37 = (3, 78) := sl_40_37.2.2.1
  have t38 : slo 40 38 = (3, 79) := sl_40_38.2.2.1
  have t39 : slo 40 39 = (3, 80) := sl_40_39.2.2.1
  have t40 : slo 40 40 = (3, 81) := sl_40_40.2.2.1
  have t41 : slo 40 41 = (0, 0) := sl_40_41.2.2.1
  have t42 : slo 40 42 = (0, 0) := sl_40_42.2.2.1
  have t43 : slo 40 43 = (0, 0) := sl_40_43.2.2.1
  have t44 : slo 40 44 = (3, 85) := sl_40_44.2.2.1
  have t45 : slo 40 45 = (3, 86) := sl_40_45.2.2.1
  have t46 : slo 40 46 = (3, 87) := sl_40_46.2.2.1
  have t47 : slo 40 47 = (3, 88) := sl_40_47.2.2.1
  have t48 : slo 40 48 = (3, 89) := sl_40_48.2.2.1
  have t49 : slo 40 49 = (3, 90) := sl_40_49.2.2.1
  have t50 : slo 40 50 = (0, 0) := sl_40_50.2.2.1
  have x0 : X9n X 40 0 ((0 : Nat) : Int) = 0 := by rw [X9n_j (by omega)]; exact hX _
  have x2 : X9n X 40 0 ((2 : Nat) : Int) = 0 := by rw [X9n_j (by omega)]; exact hX _
  have x13 : X9n X 40 0 ((13 : Nat) : Int) = 0 := by rw [X9n_j (by omega)]; exact hX _
  have x20 : X9n X 40 0 ((20 : Nat) : Int) = 0 := by rw [X9n_j (by omega)]; exact hX _
  have x22 : X9n X 40 0 ((22 : Nat) : Int) = 0 := by rw [X9n_j (by omega)]; exact hX _
  have x28 : X9n X 40 0 ((28 : Nat) : Int) = 0 := by rw [X9n_j (by omega)]; exact hX _
  have x41 : X9n X 40 0 ((41 : Nat) : Int) = -9 := X9n_9 (by omega)
  have x42 : X9n X 40 0 ((42 : Nat) : Int) = -9 := X9n_9 (by omega)
  have x43 : X9n X 40 0 ((43 : Nat) : Int) = -9 := X9n_9 (by omega)
  have x50 : X9n X 40 0 ((50 : Nat) : Int) = 0 := by rw [X9n_j (by omega)]; exact hX _
  have hz : jI 0 = 0 := by decide
  have hi : ∀ z : Int, slV ad (X9n X) Y 40 0 0 (0, 0) = slV ad (X9n X) Y 40 0 0 (0, 0) := fun _ => rfl
  have s0 : slV ad (X9n X) Y 40 0 0 (slo 40 0) = .int 0 := by rw [t0]; show Value.int (jI (X9n X 40 0 ((0 : Nat) : Int))) = _; rw [x0, hz]
  have s1 : slV ad (X9n X) Y 40 0 1 (slo 40 1) = .ref q1 := by rw [t1]; show Value.ref (ad 42 0) = _; rw [a42]
  have s2 : slV ad (X9n X) Y 40 0 2 (slo 40 2) = .int 0 := by rw [t2]; show Value.int (jI (X9n X 40 0 ((2 : Nat) : Int))) = _; rw [x2, hz]
  have s3 : slV ad (X9n X) Y 40 0 3 (slo 40 3) = .ref q2 := by rw [t3]; show Value.ref (ad 44 0) = _; rw [a44]
  have s4 : slV ad (X9n X) Y 40 0 4 (slo 40 4) = .ref q3 := by rw [t4]; show Value.ref (ad 45 0) = _; rw [a45]
  have s5 : slV ad (X9n X) Y 40 0 5 (slo 40 5) = .ref q4 := by rw [t5]; show Value.ref (ad 46 0) = _; rw [a46]
  have s6 : slV ad (X9n X) Y 40 0 6 (slo 40 6) = .ref q5 := by rw [t6]; show Value.ref (ad 47 0) = _; rw [a47]
  have s7 : slV ad (X9n X) Y 40 0 7 (slo 40 7) = .ref q6 := by rw [t7]; show Value.ref (ad 48 0) = _; rw [a48]
  have s8 : slV ad (X9n X) Y 40 0 8 (slo 40 8) = .ref q7 := by rw [t8]; show Value.ref (ad 49 0) = _; rw [a49]
  have s9 : slV ad (X9n X) Y 40 0 9 (slo 40 9) = .ref q8 := by rw [t9]; show Value.ref (ad 50 0) = _; rw [a50]
  have s10 : slV ad (X9n X) Y 40 0 10 (slo 40 10) = .ref q9 := by rw [t10]; show Value.ref (ad 51 0) = _; rw [a51]
  have s11 : slV ad (X9n X) Y 40 0 11 (slo 40 11) = .ref q10 := by rw [t11]; show Value.ref (ad 52 0) = _; rw [a52]
  have s12 : slV ad (X9n X) Y 40 0 12 (slo 40 12) = .ref q11 := by rw [t12]; show Value.ref (ad 53 0) = _; rw [a53]
  have s13 : slV ad (X9n X) Y 40 0 13 (slo 40 13) = .int 0 := by rw [t13]; show Value.int (jI (X9n X 40 0 ((13 : Nat) : Int))) = _; rw [x13, hz]
  have s14 : slV ad (X9n X) Y 40 0 14 (slo 40 14) = .ref q12 := by rw [t14]; show Value.ref (ad 55 0) = _; rw [a55]
  have s15 : slV ad (X9n X) Y 40 0 15 (slo 40 15) = .ref q13 := by rw [t15]; show Value.ref (ad 56 0) = _; rw [a56]
  have s16 : slV ad (X9n X) Y 40 0 16 (slo 40 16) = .ref q14 := by rw [t16]; show Value.ref (ad 57 0) = _; rw [a57]
  have s17 : slV ad (X9n X) Y 40 0 17 (slo 40 17) = .ref q15 := by rw [t17]; show Value.ref (ad 58 0) = _; rw [a58]
  have s18 : slV ad (X9n X) Y 40 0 18 (slo 40 18) = .ref q16 := by rw [t18]; show Value.ref (ad 59 0) = _; rw [a59]
  have s19 : slV ad (X9n X) Y 40 0 19 (slo 40 19) = .ref q17 := by rw [t19]; show Value.ref (ad 60 0) = _; rw [a60]
  have s20 : slV ad (X9n X) Y 40 0 20 (slo 40 20) = .int 0 := by rw [t20]; show Value.int (jI (X9n X 40 0 ((20 : Nat) : Int))) = _; rw [x20, hz]
  have s21 : slV ad (X9n X) Y 40 0 21 (slo 40 21) = .ref q18 := by rw [t21]; show Value.ref (ad 62 0) = _; rw [a62]
  have s22 : slV ad (X9n X) Y 40 0 22 (slo 40 22) = .int 0 := by rw [t22]; show Value.int (jI (X9n X 40 0 ((22 : Nat) : Int))) = _; rw [x22, hz]
  have s23 : slV ad (X9n X) Y 40 0 23 (slo 40 23) = .ref q19 := by rw [t23]; show Value.ref (ad 64 0) = _; rw [a64]
  have s24 : slV ad (X9n X) Y 40 0 24 (slo 40 24) = .ref q20 := by rw [t24]; show Value.ref (ad 65 0) = _; rw [a65]
  have s25 : slV ad (X9n X) Y 40 0 25 (slo 40 25) = .ref q21 := by rw [t25]; show Value.ref (ad 66 0) = _; rw [a66]
  have s26 : slV ad (X9n X) Y 40 0 26 (slo 40 26) = .ref q22 := by rw [t26]; show Value.ref (ad 67 0) = _; rw [a67]
  have s27 : slV ad (X9n X) Y 40 0 27 (slo 40 27) = .ref q23 := by rw [t27]; show Value.ref (ad 68 0) = _; rw [a68]
  have s28 : slV ad (X9n X) Y 40 0 28 (slo 40 28) = .int 0 := by rw [t28]; show Value.int (jI (X9n X 40 0 ((28 : Nat) : Int))) = _; rw [x28, hz]
  have s29 : slV ad (X9n X) Y 40 0 29 (slo 40 29) = .ref q24 := by rw [t29]; show Value.ref (ad 70 0) = _; rw [a70]
  have s30 : slV ad (X9n X) Y 40 0 30 (slo 40 30) = .ref q25 := by rw [t30]; show Value.ref (ad 71 0) = _; rw [a71]
  have s31 : slV ad (X9n X) Y 40 0 31 (slo 40 31) = .ref q26 := by rw [t31]; show Value.ref (ad 72 0) = _; rw [a72]
  have s32 : slV ad (X9n X) Y 40 0 32 (slo 40 32) = .ref q27 := by rw [t32]; show Value.ref (ad 73 0) = _; rw [a73]
  have s33 : slV ad (X9n X) Y 40 0 33 (slo 40 33) = .ref q28 := by rw [t33]; show Value.ref (ad 74 0) = _; rw [a74]
  have s34 : slV ad (X9n X) Y 40 0 34 (slo 40 34) = .ref q29 := by rw [t34]; show Value.ref (ad 75 0) = _; rw [a75]
  have s35 : slV ad (X9n X) Y 40 0 35 (slo 40 35) = .ref q30 := by rw [t35]; show Value.ref (ad 76 0) = _; rw [a76]
  have s36 : slV ad (X9n X) Y 40 0 36 (slo 40 36) = .ref q31 := by rw [t36]; show Value.ref (ad 77 0) = _; rw [a77]
  have s37 : slV ad (X9n X) Y 40 0 37 (slo 40 37) = .ref q32 := by rw [t37]; show Value.ref (ad 78 0) = _; rw [a78]
  have s38 : slV ad (X9n X) Y 40 0 38 (slo 40 38) = .ref q33 := by rw [t38]; show Value.ref (ad 79 0) = _; rw [a79]
  have s39 : slV ad (X9n X) Y 40 0 39 (slo 40 39) = .ref q34 := by rw [t39]; show Value.ref (ad 80 0) = _; rw [a80]
  have s40 : slV ad (X9n X) Y 40 0 40 (slo 40 40) = .ref q35 := by rw [t40]; show Value.ref (ad 81 0) = _; rw [a81]
  have s41 : slV ad (X9n X) Y 40 0 41 (slo 40 41) = .int (jI (-9)) := by rw [t41]; show Value.int (jI (X9n X 40 0 ((41 : Nat) : Int))) = _; rw [x41]
  have s42 : slV ad (X9n X) Y 40 0 42 (slo 40 42) = .int (jI (-9)) := by rw [t42]; show Value.int (jI (X9n X 40 0 ((42 : Nat) : Int))) = _; rw [x42]
  have s43 : slV ad (X9n X) Y 40 0 43 (slo 40 43) = .int (jI (-9)) := by rw [t43]; show Value.int (jI (X9n X 40 0 ((43 : Nat) : Int))) = _; rw [x43]
  have s44 : slV ad (X9n X) Y 40 0 44 (slo 40 44) = .ref q36 := by rw [t44]; show Value.ref (ad 85 0) = _; rw [a85]
  have s45 : slV ad (X9n X) Y 40 0 45 (slo 40 45) = .ref q37 := by rw [t45]; show Value.ref (ad 86 0) = _; rw [a86]
  have s46 : slV ad (X9n X) Y 40 0 46 (slo 40 46) = .ref q38 := by rw [t46]; show Value.ref (ad 87 0) = _; rw [a87]
  have s47 : slV ad (X9n X) Y 40 0 47 (slo 40 47) = .ref q39 := by rw [t47]; show Value.ref (ad 88 0) = _; rw [a88]
  have s48 : slV ad (X9n X) Y 40 0 48 (slo 40 48) = .ref q40 := by rw [t48]; show Value.ref (ad 89 0) = _; rw [a89]
  have s49 : slV ad (X9n X) Y 40 0 49 (slo 40 49) = .ref q41 := by rw [t49]; show Value.ref (ad 90 0) = _; rw [a90]
  have s50 : slV ad (X9n X) Y 40 0 50 (slo 40 50) = .int 0 := by rw [t50]; show Value.int (jI (X9n X 40 0 ((50 : Nat) : Int))) = _; rw [x50, hz]
  simp only [List.range, List.range.loop, List.map, s0, s1, s2, s3, s4, s5, s6, s7, s8, s9, s10, s11, s12, s13, s14, s15, s16, s17, s18, s19, s20, s21, s22, s23, s24, s25, s26, s27, s28, s29, s30, s31, s32, s33, s34, s35, s36, s37, s38, s39, s40, s41, s42, s43, s44, s45, s46, s47, s48, s49, s50]
theorem born_mdl_a {tc : Nat → ClassId} {ad : Nat → Int → Nat} {X : Nat → Int → Int → Int} {Y : Nat → Int → Int → Option Int} {ln : Int → Int} {k : Nat} (hk : k ≠ 40) (h27 : k ≠ 27) (hX : ∀ j, X k 0 j = 0) (hY : ∀ j, Y k 0 j = none) : ceE tc ad (X9n X) Y ln k 0 = rawE tc (fun t => ad t 0) k := ceE_raw h27 (fun j => by rw [X9n_k hk]; exact hX j) hY
set_option maxHeartbeats 4000000 in
set_option maxRecDepth 100000 in
theorem born_mdl {D : va_G} {tc : Nat → ClassId} {base : Nat} {H : Heap} {ad : Nat → Int → Nat} {cnt : Nat → Int} {X : Nat → Int → Int → Int} {Y : Nat → Int → Int → Option Int} {ln : Int → Int} {h0 h1 h2 q1 q2 q3 q4 q5 q6 q7 q8 q9 q10 q11 q12 q13 q14 q15 q16 q17 q18 q19 q20 q21 q22 q23 q24 q25 q26 q27 q28 q29 q30 q31 q32 q33 q34 q35 q36 q37 q38 q39 q40 q41 : Nat} (hw : wx D tc base (ad, cnt, X, Y, ln) ([(h1, .inr (9, [.int 0, .ref q1, .int 0, .ref q2, .ref q3, .ref q4, .ref q5, .ref q6, .ref q7, .ref q8, .ref q9, .ref q10, .ref q11, .int 0, .ref q12, .ref q13, .ref q14, .ref q15, .ref q16, .ref q17, .int 0, .ref q18, .int 0, .ref q19, .ref q20, .ref q21, .ref q22, .ref q23, .int 0, .ref q24, .ref q25, .ref q26, .ref q27, .ref q28, .ref q29, .ref q30, .ref q31, .ref q32, .ref q33, .ref q34, .ref q35, .int (jI (-9)), .int (jI (-9)), .int (jI (-9)), .ref q36, .ref q37, .ref q38, .ref q39, .ref q40, .ref q41, .int 0])), (q1, .inl (tc 2, (16 : Int).toNat, .inl (fun _ => 0))), (q2, .inl (tc 0, (8 : Int).toNat, .inl (fun _ => 0))), (q3, .inl (tc 0, (40 : Int).toNat, .inl (fun _ => 0))), (q4, .inl (tc 0, (40 : Int).toNat, .inl (fun _ => 0))), (q5, .inl (tc 1, (40 : Int).toNat, .inr (.inl (fun _ => 0)))), (q6, .inl (tc 2, (40 : Int).toNat, .inl (fun _ => 0))), (q7, .inl (tc 0, (8 : Int).toNat, .inl (fun _ => 0))), (q8, .inl (tc 0, (32 : Int).toNat, .inl (fun _ => 0))), (q9, .inl (tc 0, (32 : Int).toNat, .inl (fun _ => 0))), (q10, .inl (tc 0, (32 : Int).toNat, .inl (fun _ => 0))), (q11, .inl (tc 1, (32 : Int).toNat, .inr (.inl (fun _ => 0)))), (q12, .inl (tc 0, (30 : Int).toNat, .inl (fun _ => 0))), (q13, .inl (tc 1, (150 : Int).toNat, .inr (.inl (fun _ => 0)))), (q14, .inl (tc 0, (400 : Int).toNat, .inl (fun _ => 0))), (q15, .inl (tc 0, (400 : Int).toNat, .inl (fun _ => 0))), (q16, .inl (tc 1, (4800 : Int).toNat, .inr (.inl (fun _ => 0)))), (q17, .inl (tc 2, (400 : Int).toNat, .inl (fun _ => 0))), (q18, .inl (tc 0, (4 : Int).toNat, .inl (fun _ => 0))), (q19, .inl (tc 0, (80 : Int).toNat, .inl (fun _ => 0))), (q20, .inl (tc 0, (80 : Int).toNat, .inl (fun _ => 0))), (q21, .inl (tc 0, (80 : Int).toNat, .inl (fun _ => 0))), (q22, .inl (tc 0, (80 : Int).toNat, .inl (fun _ => 0))), (q23, .inl (tc 1, (80 : Int).toNat, .inr (.inl (fun _ => 0)))), (q24, .inl (tc 0, (5 : Int).toNat, .inl (fun _ => 0))), (q25, .inl (tc 0, (150 : Int).toNat, .inl (fun _ => 0))), (q26, .inl (tc 0, (150 : Int).toNat, .inl (fun _ => 0))), (q27, .inl (tc 0, (750 : Int).toNat, .inl (fun _ => 0))), (q28, .inl (tc 0, (750 : Int).toNat, .inl (fun _ => 0))), (q29, .inl (tc 1, (750 : Int).toNat, .inr (.inl (fun _ => 0)))), (q30, .inl (tc 0, (5 : Int).toNat, .inl (fun _ => 0))), (q31, .inl (tc 0, (750 : Int).toNat, .inl (fun _ => 0))), (q32, .inl (tc 0, (750 : Int).toNat, .inl (fun _ => 0))), (q33, .inl (tc 1, (9000 : Int).toNat, .inr (.inl (fun _ => 0)))), (q34, .inl (tc 0, (30 : Int).toNat, .inl (fun _ => 0))), (q35, .inl (tc 0, (150 : Int).toNat, .inl (fun _ => 0))), (q36, .inl (tc 0, (450 : Int).toNat, .inl (fun _ => 0))), (q37, .inl (tc 0, (30 : Int).toNat, .inl (fun _ => 0))), (q38, .inl (tc 0, (30 : Int).toNat, .inl (fun _ => 0))), (q39, .inl (tc 0, (400 : Int).toNat, .inl (fun _ => 0))), (q40, .inl (tc 0, (400 : Int).toNat, .inl (fun _ => 0))), (q41, .inl (tc 0, (30 : Int).toNat, .inl (fun _ => 0)))] ++ [(h2, .inl (tc 1, (1 : Int).toNat, .inr (.inl (fun _ => 0))))]) H) (hn : ∀ k ∈ K9, cnt k = 0) (ho : Own cnt) (hz : Zr cnt X Y) : ∃ ad1 : Nat → Int → Nat, wd D tc base (ad1, upc cnt K9, X9n X, Y, ln) H ∧ ad1 40 0 = h1 ∧ ad1 100 0 = h2 ∧ ∀ k i, k ∉ K9 → ad1 k i = ad k i := by
  obtain ⟨ad1, hA⟩ : ∃ a : Nat → Int → Nat, a = up2 ad K9 0 (fun k => if k = 40 then h1 else if k = 42 then q1 else if k = 44 then q2 else if k = 45 then q3 else if k = 46 then q4 else if k = 47 then q5 else if k = 48 then q6 else if k = 49 then q7 else if k = 50 then q8 else if k = 51 then q9 else if k = 52 then q10 else if k = 53 then q11 else if k = 55 then q12 else if k = 56 then q13 else if k = 57 then q14 else if k = 58 then q15 else if k = 59 then q16 else if k = 60 then q17 else if k = 62 then q18 else if k = 64 then q19 else if k = 65 then q20 else if k = 66 then q21 else if k = 67 then q22 else if k = 68 then q23 else if k = 70 then q24 else if k = 71 then q25 else if k = 72 then q26 else if k = 73 then q27 else if k = 74 then q28 else if k = 75 then q29 else if k = 76 then q30 else if k = 77 then q31 else if k = 78 then q32 else if k = 79 then q33 else if k = 80 then q34 else if k = 81 then q35 else if k = 85 then q36 else if k = 86 then q37 else if k = 87 then q38 else if k = 88 then q39 else if k = 89 then q40 else if k = 90 then q41 else h2) := ⟨_, rfl⟩
  have a40 : ad1 40 0 = h1 := by rw [hA, up2_s (by decide)]; rfl
  have a42 : ad1 42 0 = q1 := by rw [hA, up2_s (by decide)]; rfl
  have a44 : ad1 44 0 = q2 := by rw [hA, up2_s (by decide)]; rfl
  have a45 : ad1 45 0 = q3 := by rw [hA, up2_s (by decide)]; rfl
  have a46 : ad1 46 0 = q4 := by rw [hA, up2_s (by decide)]; rfl
  have a47 : ad1 47 0 = q5 := by rw [hA, up2_s (by decide)]; rfl
  have a48 : ad1 48 0 = q6 := by rw [hA, up2_s (by decide)]; rfl
  have a49 : ad1 49 0 = q7 := by rw [hA, up2_s (by decide)]; rfl
  have a50 : ad1 50 0 = q8 := by rw [hA, up2_s (by decide)]; rfl
  have a51 : ad1 51 0 = q9 := by rw [hA, up2_s (by decide)]; rfl
  have a52 : ad1 52 0 = q10 := by rw [hA, up2_s (by decide)]; rfl
  have a53 : ad1 53 0 = q11 := by rw [hA, up2_s (by decide)]; rfl
  have a55 : ad1 55 0 = q12 := by rw [hA, up2_s (by decide)]; rfl
  have a56 : ad1 56 0 = q13 := by rw [hA, up2_s (by decide)]; rfl
  have a57 : ad1 57 0 = q14 := by rw [hA, up2_s (by decide)]; rfl
  have a58 : ad1 58 0 = q15 := by rw [hA, up2_s (by decide)]; rfl
  have a59 : ad1 59 0 = q16 := by rw [hA, up2_s (by decide)]; rfl
  have a60 : ad1 60 0 = q17 := by rw [hA, up2_s (by decide)]; rfl
  have a62 : ad1 62 0 = q18 := by rw [hA, up2_s (by decide)]; rfl
  have a64 : ad1 64 0 = q19 := by rw [hA, up2_s (by decide)]; rfl
  have a65 : ad1 65 0 = q20 := by rw [hA, up2_s (by decide)]; rfl
  have a66 : ad1 66 0 = q21 := by rw [hA, up2_s (by decide)]; rfl
  have a67 : ad1 67 0 = q22 := by rw [hA, up2_s (by decide)]; rfl
  have a68 : ad1 68 0 = q23 := by rw [hA, up2_s (by decide)]; rfl
  have a70 : ad1 70 0 = q24 := by rw [hA, up2_s (by decide)]; rfl
  have a71 : ad1 71 0 = q25 := by rw [hA, up2_s (by decide)]; rfl
  have a72 : ad1 72 0 = q26 := by rw [hA, up2_s (by decide)]; rfl
  have a73 : ad1 73 0 = q27 := by rw [hA, up2_s (by decide)]; rfl
  have a74 : ad1 74 0 = q28 := by rw [hA, up2_s (by decide)]; rfl
  have a75 : ad1 75 0 = q29 := by rw [hA, up2_s (by decide)]; rfl
  have a76 : ad1 76 0 = q30 := by rw [hA, up2_s (by decide)]; rfl
  have a77 : ad1 77 0 = q31 := by rw [hA, up2_s (by decide)]; rfl
  have a78 : ad1 78 0 = q32 := by rw [hA, up2_s (by decide)]; rfl
  have a79 : ad1 79 0 = q33 := by rw [hA, up2_s (by decide)]; rfl
  have a80 : ad1 80 0 = q34 := by rw [hA, up2_s (by decide)]; rfl
  have a81 : ad1 81 0 = q35 := by rw [hA, up2_s (by decide)]; rfl
  have a85 : ad1 85 0 = q36 := by rw [hA, up2_s (by decide)]; rfl
  have a86 : ad1 86 0 = q37 := by rw [hA, up2_s (by decide)]; rfl
  have a87 : ad1 87 0 = q38 := by rw [hA, up2_s (by decide)]; rfl
  have a88 : ad1 88 0 = q39 := by rw [hA, up2_s (by decide)]; rfl
  have a89 : ad1 89 0 = q40 := by rw [hA, up2_s (by decide)]; rfl
  have a90 : ad1 90 0 = q41 := by rw [hA, up2_s (by decide)]; rfl
  have a100 : ad1 100 0 = h2 := by rw [hA, up2_s (by decide)]; rfl
  have ao : ∀ k i, k ∉ K9 → ad1 k i = ad k i := fun k i h => by rw [hA, up2_k h]
  have ai : ∀ k i, i ≠ 0 → ad1 k i = ad k i := fun k i h => by rw [hA]; simp only [up2]; rw [if_neg (fun q => h q.2)]
  clear hA
  have hrf := wd_ref (wx_wd hw)
  have hX0 : ∀ k ∈ K9, ∀ j, X k 0 j = 0 := fun k hk j => (hz k 0 j (Or.inr (by rw [hn k hk]; omega))).1
  have hY0 : ∀ k ∈ K9, ∀ j, Y k 0 j = none := fun k hk j => (hz k 0 j (Or.inr (by rw [hn k hk]; omega))).2
  refine ⟨ad1, wx_wd (adopt (E := []) (NL := K9.map fun k => (k, (0 : Int))) hw ?_ (fun k i g0 g1 => ?_) ho (fun k i => ?_) ?_), a40, a100, ao⟩
  · have e40 : ceE tc ad1 (X9n X) Y ln 40 0 = .inr (9, [.int 0, .ref q1, .int 0, .ref q2, .ref q3, .ref q4, .ref q5, .ref q6, .ref q7, .ref q8, .ref q9, .ref q10, .ref q11, .int 0, .ref q12, .ref q13, .ref q14, .ref q15, .ref q16, .ref q17, .int 0, .ref q18, .int 0, .ref q19, .ref q20, .ref q21, .ref q22, .ref q23, .int 0, .ref q24, .ref q25, .ref q26, .ref q27, .ref q28, .ref q29, .ref q30, .ref q31, .ref q32, .ref q33, .ref q34, .ref q35, .int (jI (-9)), .int (jI (-9)), .int (jI (-9)), .ref q36, .ref q37, .ref q38, .ref q39, .ref q40, .ref q41, .int 0]) := born_mdl_o (hX0 40 (by decide)) a42 a44 a45 a46 a47 a48 a49 a50 a51 a52 a53 a55 a56 a57 a58 a59 a60 a62 a64 a65 a66 a67 a68 a70 a71 a72 a73 a74 a75 a76 a77 a78 a79 a80 a81 a85 a86 a87 a88 a89 a90
    have e42 : ceE tc ad1 (X9n X) Y ln 42 0 = .inl (tc 2, (16 : Int).toNat, .inl (fun _ => 0)) := (born_mdl_a (by decide) (by decide) (hX0 42 (by decide)) (hY0 42 (by decide))).trans rfl
    have e44 : ceE tc ad1 (X9n X) Y ln 44 0 = .inl (tc 0, (8 : Int).toNat, .inl (fun _ => 0)) := (born_mdl_a (by decide) (by decide) (hX0 44 (by decide)) (hY0 44 (by decide))).trans rfl
    have e45 : ceE tc ad1 (X9n X) Y ln 45 0 = .inl (tc 0, (40 : Int).toNat, .inl (fun _ => 0)) := (born_mdl_a (by decide) (by decide) (hX0 45 (by decide)) (hY0 45 (by decide))).trans rfl
    have e46 : ceE tc ad1 (X9n X) Y ln 46 0 = .inl (tc 0, (40 : Int).toNat, .inl (fun _ => 0)) := (born_mdl_a (by decide) (by decide) (hX0 46 (by decide)) (hY0 46 (by decide))).trans rfl
    have e47 : ceE tc ad1 (X9n X) Y ln 47 0 = .inl (tc 1, (40 : Int).toNat, .inr (.inl (fun _ => 0))) := (born_mdl_a (by decide) (by decide) (hX0 47 (by decide)) (hY0 47 (by decide))).trans rfl
    have e48 : ceE tc ad1 (X9n X) Y ln 48 0 = .inl (tc 2, (40 : Int).toNat, .inl (fun _ => 0)) := (born_mdl_a (by decide) (by decide) (hX0 48 (by decide)) (hY0 48 (by decide))).trans rfl
    have e49 : ceE tc ad1 (X9n X) Y ln 49 0 = .inl (tc 0, (8 : Int).toNat, .inl (fun _ => 0)) := (born_mdl_a (by decide) (by decide) (hX0 49 (by decide)) (hY0 49 (by decide))).trans rfl
    have e50 : ceE tc ad1 (X9n X) Y ln 50 0 = .inl (tc 0, (32 : Int).toNat, .inl (fun _ => 0)) := (born_mdl_a (by decide) (by decide) (hX0 50 (by decide)) (hY0 50 (by decide))).trans rfl
    have e51 : ceE tc ad1 (X9n X) Y ln 51 0 = .inl (tc 0, (32 : Int).toNat, .inl (fun _ => 0)) := (born_mdl_a (by decide) (by decide) (hX0 51 (by decide)) (hY0 51 (by decide))).trans rfl
    have e52 : ceE tc ad1 (X9n X) Y ln 52 0 = .inl (tc 0, (32 : Int).toNat, .inl (fun _ => 0)) := (born_mdl_a (by decide) (by decide) (hX0 52 (by decide)) (hY0 52 (by decide))).trans rfl
    have e53 : ceE tc ad1 (X9n X) Y ln 53 0 = .inl (tc 1, (32 : Int).toNat, .inr (.inl (fun _ => 0))) := (born_mdl_a (by decide) (by decide) (hX0 53 (by decide)) (hY0 53 (by decide))).trans rfl
    have e55 : ceE tc ad1 (X9n X) Y ln 55 0 = .inl (tc 0, (30 : Int).toNat, .inl (fun _ => 0)) := (born_mdl_a (by decide) (by decide) (hX0 55 (by decide)) (hY0 55 (by decide))).trans rfl
    have e56 : ceE tc ad1 (X9n X) Y ln 56 0 = .inl (tc 1, (150 : Int).toNat, .inr (.inl (fun _ => 0))) := (born_mdl_a (by decide) (by decide) (hX0 56 (by decide)) (hY0 56 (by decide))).trans rfl
    have e57 : ceE tc ad1 (X9n X) Y ln 57 0 = .inl (tc 0, (400 : Int).toNat, .inl (fun _ => 0)) := (born_mdl_a (by decide) (by decide) (hX0 57 (by decide)) (hY0 57 (by decide))).trans rfl
    have e58 : ceE tc ad1 (X9n X) Y ln 58 0 = .inl (tc 0, (400 : Int).toNat, .inl (fun _ => 0)) := (born_mdl_a (by decide) (by decide) (hX0 58 (by decide)) (hY0 58 (by decide))).trans rfl
    have e59 : ceE tc ad1 (X9n X) Y ln 59 0 = .inl (tc 1, (4800 : Int).toNat, .inr (.inl (fun _ => 0))) := (born_mdl_a (by decide) (by decide) (hX0 59 (by decide)) (hY0 59 (by decide))).trans rfl
    have e60 : ceE tc ad1 (X9n X) Y ln 60 0 = .inl (tc 2, (400 : Int).toNat, .inl (fun _ => 0)) := (born_mdl_a (by decide) (by decide) (hX0 60 (by decide)) (hY0 60 (by decide))).trans rfl
    have e62 : ceE tc ad1 (X9n X) Y ln 62 0 = .inl (tc 0, (4 : Int).toNat, .inl (fun _ => 0)) := (born_mdl_a (by decide) (by decide) (hX0 62 (by decide)) (hY0 62 (by decide))).trans rfl
    have e64 : ceE tc ad1 (X9n X) Y ln 64 0 = .inl (tc 0, (80 : Int).toNat, .inl (fun _ => 0)) := (born_mdl_a (by decide) (by decide) (hX0 64 (by decide)) (hY0 64 (by decide))).trans rfl
    have e65 : ceE tc ad1 (X9n X) Y ln 65 0 = .inl (tc 0, (80 : Int).toNat, .inl (fun _ => 0)) := (born_mdl_a (by decide) (by decide) (hX0 65 (by decide)) (hY0 65 (by decide))).trans rfl
    have e66 : ceE tc ad1 (X9n X) Y ln 66 0 = .inl (tc 0, (80 : Int).toNat, .inl (fun _ => 0)) := (born_mdl_a (by decide) (by decide) (hX0 66 (by decide)) (hY0 66 (by decide))).trans rfl
    have e67 : ceE tc ad1 (X9n X) Y ln 67 0 = .inl (tc 0, (80 : Int).toNat, .inl (fun _ => 0)) := (born_mdl_a (by decide) (by decide) (hX0 67 (by decide)) (hY0 67 (by decide))).trans rfl
    have e68 : ceE tc ad1 (X9n X) Y ln 68 0 = .inl (tc 1, (80 : Int).toNat, .inr (.inl (fun _ => 0))) := (born_mdl_a (by decide) (by decide) (hX0 68 (by decide)) (hY0 68 (by decide))).trans rfl
    have e70 : ceE tc ad1 (X9n X) Y ln 70 0 = .inl (tc 0, (5 : Int).toNat, .inl (fun _ => 0)) := (born_mdl_a (by decide) (by decide) (hX0 70 (by decide)) (hY0 70 (by decide))).trans rfl
    have e71 : ceE tc ad1 (X9n X) Y ln 71 0 = .inl (tc 0, (150 : Int).toNat, .inl (fun _ => 0)) := (born_mdl_a (by decide) (by decide) (hX0 71 (by decide)) (hY0 71 (by decide))).trans rfl
    have e72 : ceE tc ad1 (X9n X) Y ln 72 0 = .inl (tc 0, (150 : Int).toNat, .inl (fun _ => 0)) := (born_mdl_a (by decide) (by decide) (hX0 72 (by decide)) (hY0 72 (by decide))).trans rfl
    have e73 : ceE tc ad1 (X9n X) Y ln 73 0 = .inl (tc 0, (750 : Int).toNat, .inl (fun _ => 0)) := (born_mdl_a (by decide) (by decide) (hX0 73 (by decide)) (hY0 73 (by decide))).trans rfl
    have e74 : ceE tc ad1 (X9n X) Y ln 74 0 = .inl (tc 0, (750 : Int).toNat, .inl (fun _ => 0)) := (born_mdl_a (by decide) (by decide) (hX0 74 (by decide)) (hY0 74 (by decide))).trans rfl
    have e75 : ceE tc ad1 (X9n X) Y ln 75 0 = .inl (tc 1, (750 : Int).toNat, .inr (.inl (fun _ => 0))) := (born_mdl_a (by decide) (by decide) (hX0 75 (by decide)) (hY0 75 (by decide))).trans rfl
    have e76 : ceE tc ad1 (X9n X) Y ln 76 0 = .inl (tc 0, (5 : Int).toNat, .inl (fun _ => 0)) := (born_mdl_a (by decide) (by decide) (hX0 76 (by decide)) (hY0 76 (by decide))).trans rfl
    have e77 : ceE tc ad1 (X9n X) Y ln 77 0 = .inl (tc 0, (750 : Int).toNat, .inl (fun _ => 0)) := (born_mdl_a (by decide) (by decide) (hX0 77 (by decide)) (hY0 77 (by decide))).trans rfl
    have e78 : ceE tc ad1 (X9n X) Y ln 78 0 = .inl (tc 0, (750 : Int).toNat, .inl (fun _ => 0)) := (born_mdl_a (by decide) (by decide) (hX0 78 (by decide)) (hY0 78 (by decide))).trans rfl
    have e79 : ceE tc ad1 (X9n X) Y ln 79 0 = .inl (tc 1, (9000 : Int).toNat, .inr (.inl (fun _ => 0))) := (born_mdl_a (by decide) (by decide) (hX0 79 (by decide)) (hY0 79 (by decide))).trans rfl
    have e80 : ceE tc ad1 (X9n X) Y ln 80 0 = .inl (tc 0, (30 : Int).toNat, .inl (fun _ => 0)) := (born_mdl_a (by decide) (by decide) (hX0 80 (by decide)) (hY0 80 (by decide))).trans rfl
    have e81 : ceE tc ad1 (X9n X) Y ln 81 0 = .inl (tc 0, (150 : Int).toNat, .inl (fun _ => 0)) := (born_mdl_a (by decide) (by decide) (hX0 81 (by decide)) (hY0 81 (by decide))).trans rfl
    have e85 : ceE tc ad1 (X9n X) Y ln 85 0 = .inl (tc 0, (450 : Int).toNat, .inl (fun _ => 0)) := (born_mdl_a (by decide) (by decide) (hX0 85 (by decide)) (hY0 85 (by decide))).trans rfl
    have e86 : ceE tc ad1 (X9n X) Y ln 86 0 = .inl (tc 0, (30 : Int).toNat, .inl (fun _ => 0)) := (born_mdl_a (by decide) (by decide) (hX0 86 (by decide)) (hY0 86 (by decide))).trans rfl
    have e87 : ceE tc ad1 (X9n X) Y ln 87 0 = .inl (tc 0, (30 : Int).toNat, .inl (fun _ => 0)) := (born_mdl_a (by decide) (by decide) (hX0 87 (by decide)) (hY0 87 (by decide))).trans rfl
    have e88 : ceE tc ad1 (X9n X) Y ln 88 0 = .inl (tc 0, (400 : Int).toNat, .inl (fun _ => 0)) := (born_mdl_a (by decide) (by decide) (hX0 88 (by decide)) (hY0 88 (by decide))).trans rfl
    have e89 : ceE tc ad1 (X9n X) Y ln 89 0 = .inl (tc 0, (400 : Int).toNat, .inl (fun _ => 0)) := (born_mdl_a (by decide) (by decide) (hX0 89 (by decide)) (hY0 89 (by decide))).trans rfl
    have e90 : ceE tc ad1 (X9n X) Y ln 90 0 = .inl (tc 0, (30 : Int).toNat, .inl (fun _ => 0)) := (born_mdl_a (by decide) (by decide) (hX0 90 (by decide)) (hY0 90 (by decide))).trans rfl
    have e100 : ceE tc ad1 (X9n X) Y ln 100 0 = .inl (tc 1, (1 : Int).toNat, .inr (.inl (fun _ => 0))) := (born_mdl_a (by decide) (by decide) (hX0 100 (by decide)) (hY0 100 (by decide))).trans rfl
    simp only [wlE, K9, List.map, e40, e42, e44, e45, e46, e47, e48, e49, e50, e51, e52, e53, e55, e56, e57, e58, e59, e60, e62, e64, e65, e66, e67, e68, e70, e71, e72, e73, e74, e75, e76, e77, e78, e79, e80, e81, e85, e86, e87, e88, e89, e90, e100, a40, a42, a44, a45, a46, a47, a48, a49, a50, a51, a52, a53, a55, a56, a57, a58, a59, a60, a62, a64, a65, a66, a67, a68, a70, a71, a72, a73, a74, a75, a76, a77, a78, a79, a80, a81, a85, a86, a87, a88, a89, a90, a100]
    rfl
  · have hne : ¬ (k ∈ K9 ∧ i = 0) := fun q => by have := hn k q.1; omega
    have hk : k ∉ K9 := fun q => by have := hn k q; omega
    exact ⟨ao k i hk, X9n_k (fun q => hk (by rw [q]; decide)) i, rfl, fun _ => rfl⟩
  · simp only [upc]
    by_cases hk : k ∈ K9
    · have := hn k hk
      rw [if_pos hk]
      constructor
      · intro h
        exact Or.inr (List.mem_map.mpr ⟨k, hk, by rw [show i = 0 by omega]⟩)
      · rintro (h | h)
        · omega
        · obtain ⟨k', -, e⟩ := List.mem_map.mp h
          cases e
          omega
    · rw [if_neg hk]
      constructor
      · exact fun h => Or.inl h
      · rintro (h | h)
        · exact h
        · obtain ⟨k', hk', e⟩ := List.mem_map.mp h
          cases e
          exact absurd hk' hk
  · intro k i j t r g0 g1 hr e
    by_cases hm : k ∈ K9
    · exfalso
      rw [upc_s hm, hn k hm] at g1
      have h3 := hY0 k hm j
      rw [show i = 0 by omega, h3] at e
      cases e
    · rw [upc_k hm] at g1
      have := hrf k i j t r g0 g1 hr e
      have h2 : cnt t ≤ upc cnt K9 t := upc_le
      omega
theorem rng_z {X : Nat → Int → Int → Int} (hX : ∀ k i j, X k i j = if k = 3 ∧ i = 0 ∧ 0 ≤ j ∧ j < 16 then 1 else 0) : Rng (X9n X) := by
  have h0 : ∀ L ∈ rgL, ∀ q ∈ L, q.1 ≤ 0 ∧ 0 ≤ q.2 := by decide +kernel
  have hr : ∀ (k : Nat) (j : Int), (rg k j).1 ≤ 0 ∧ 0 ≤ (rg k j).2 := by
    intro k j
    unfold rg
    rw [List.getD_eq_getElem?_getD]
    rcases hq : (rgL.getD k [])[if (rgL.getD k []).length = 1 then 0 else j.toNat]? with _ | q
    · simp
    · simp only [Option.getD_some]
      rw [List.getD_eq_getElem?_getD] at hq
      rcases hk : rgL[k]? with _ | L
      · rw [hk] at hq; simp at hq
      · rw [hk, Option.getD_some] at hq
        exact h0 L (List.mem_of_getElem? hk) q (List.mem_of_getElem? hq)
  intro k i j
  by_cases h9 : k = 40 ∧ i = 0 ∧ (j = 41 ∨ j = 42 ∨ j = 43)
  · obtain ⟨rfl, rfl, h9⟩ := h9
    rw [X9n_9 h9]
    rcases h9 with rfl | rfl | rfl <;> decide +kernel
  · have e : X9n X k i j = X k i j := by simp only [X9n]; rw [if_neg h9]
    rw [e, hX]
    split
    · rename_i hc
      obtain ⟨rfl, -, -⟩ := hc
      show (0 : Int) ≤ 1 ∧ (1 : Int) ≤ 1
      decide
    · exact hr k j
theorem law_first {D : va_G} {tc : Nat → ClassId} {base : Nat} {H : Heap} {ad ad1 : Nat → Int → Nat} {cnt : Nat → Int} {X : Nat → Int → Int → Int} {Y : Nat → Int → Int → Option Int} {ln : Int → Int} {h0 h1 h2 : Nat} (hO : OI 30 16 4 h0 ad cnt X Y) (hln : LnOK ln) (hw : wd D tc base (ad1, upc cnt K9, X9n X, Y, ln) H) (e1 : ad1 40 0 = h1) (e2 : ad1 100 0 = h2) (ao : ∀ k i, k ∉ K9 → ad1 k i = ad k i) : LI h0 h1 h2 ad1 (upc cnt K9) (X9n X) Y ln := by
  obtain ⟨o1, ⟨s7, s15, s28, s29, s32, s0, sz⟩, o3, oX, o4, ⟨o6, o7⟩, o30, oOw, oZ⟩ := hO
  have hrf := wd_ref hw
  have x0 : ∀ k i j, k ≠ 3 → X k i j = 0 := fun k i j h => by rw [oX, if_neg (fun q => h q.1)]
  have x9 : ∀ k i j, k ≠ 3 → (j ≠ 41 ∧ j ≠ 42 ∧ j ≠ 43) → X9n X k i j = 0 := fun k i j h g => by rw [X9n_j g]; exact x0 k i j h
  have xk : ∀ k i j, k ≠ 3 → k ≠ 40 → X9n X k i j = 0 := fun k i j h g => by rw [X9n_k g]; exact x0 k i j h
  have c19 : upc cnt K9 19 = 0 := by rw [upc_k (by decide)]; exact sz 19 (by decide)
  have c25 : upc cnt K9 25 = 0 := by rw [upc_k (by decide)]; exact sz 25 (by decide)
  have c26 : upc cnt K9 26 = 0 := by rw [upc_k (by decide)]; exact sz 26 (by decide)
  have hfx : Fx (upc cnt K9) := by
    refine ⟨fun q hq => ?_, fun k hk => ?_, ?_⟩
    · have h9 : ∀ q ∈ fxL, (q.1 ∈ K9 ∧ q.1 ∉ K8 ∧ q.2 = 1) ∨ (q.1 ∉ K9 ∧ ((q.1 ∈ [7, 8, 9, 10, 11, 12, 13, 14] ∧ q.2 = 6) ∨ (q.1 ∈ [15, 16, 17] ∧ q.2 = 30) ∨ (q.1 = 28 ∧ q.2 = 80) ∨ (q.1 ∈ [29, 30, 31] ∧ q.2 = 1) ∨ (q.1 = 32 ∧ q.2 = 1) ∨ (q.1 ∈ [0, 1, 2, 3, 4, 5, 6] ∧ q.2 = 1))) := by decide +kernel
      rcases h9 q hq with ⟨g1, g2, g3⟩ | ⟨g1, g⟩
      · rw [upc_s g1, sz _ g2, g3]; rfl
      · rw [upc_k g1]
        rcases g with ⟨g, e⟩ | ⟨g, e⟩ | ⟨g, e⟩ | ⟨g, e⟩ | ⟨g, e⟩ | ⟨g, e⟩
        · rw [s7 _ g, e]; rfl
        · rw [s15 _ g, e]
        · rw [g, s28, e]
        · rw [s29 _ g, e]
        · rw [g, s32, e]
        · rw [s0 _ g, e]
    · have h9 : ∀ k ∈ [20, 21, 22, 23, 24], k ∉ K9 ∧ k ∉ K8 := by decide +kernel
      rw [upc_k (h9 k hk).1, sz _ (h9 k hk).2, c19]
    · rw [upc_k (by decide), sz 27 (by decide), c26]
  have how : Own (upc cnt K9) := Own.up oOw (by decide +kernel) (by decide +kernel)
  refine ⟨⟨by rw [ao 0 0 (by decide)]; exact o1, e1, e2, hfx, how, ⟨by omega, by omega⟩, hln, rng_z oX, ⟨o3, o30, ⟨fun q g0 g1 => by rw [o4 q g0 g1]; exact Option.some_ne_none _, by rw [o6]; exact Option.some_ne_none _, by rw [o7]; exact Option.some_ne_none _⟩, ⟨?_, ?_⟩, ?_, ?_, ?_, ?_⟩, ?_, ?_⟩, ?_⟩
  · rw [c19, x9 0 0 1 (by decide) (by decide)]
  · intro t g0 g1
    rw [x9 0 0 1 (by decide) (by decide)] at g1
    omega
  · intro x g0 g1
    rw [x9 0 0 3 (by decide) (by decide)] at g1
    omega
  · intro q j g0 g1
    rw [x9 0 0 1 (by decide) (by decide)] at g1
    omega
  · intro q r g0 g1 g2 g3
    rw [xk 7 q 0 (by decide) (by decide)] at g3
    omega
  · intro n g0 g1
    refine ⟨fun _ => by rw [xk 28 n 1 (by decide) (by decide)]; omega, fun _ w e => ?_⟩
    have h3 : upc cnt K9 28 = 80 := hfx.at 28 80 (by decide)
    have := hrf 28 n 3 26 w g0 (by omega) (Or.inr ⟨by decide +kernel, by decide +kernel⟩) e
    omega
  · intro q j g0 g1 g2 g3 g4
    rw [xk 11 q j (by decide) (by decide)] at g4
    omega
  · refine ⟨fun x k g0 g1 => ?_, fun t k g0 g1 g2 g3 => ?_, fun s r g0 g1 g2 g3 => ?_, fun n g0 g1 => ?_, ⟨fun _ => x9 40 0 22 (by decide) (by decide), fun _ => xk 62 0 0 (by decide) (by decide)⟩, fun x g0 g1 => ?_⟩
    · rw [x9 40 0 13 (by decide) (by decide)] at g1; omega
    · rw [xk 44 0 t (by decide) (by decide)] at g3; omega
    · rw [xk 70 0 s (by decide) (by decide)] at g3; omega
    · rw [x9 40 0 22 (by decide) (by decide)] at g1; omega
    · rw [x9 40 0 13 (by decide) (by decide)] at g1; omega
  · have c26' := c26
    have nlv : ∀ g r l, ¬ Lv Y (X9n X) g r l := by
      rintro g r l (⟨x, k, a, b, -⟩ | ⟨n, a, b, -⟩ | ⟨n, a, b, -⟩)
      · rw [x9 40 0 13 (by decide) (by decide)] at b; omega
      · rw [x9 40 0 22 (by decide) (by decide)] at b; omega
      · rw [x9 40 0 22 (by decide) (by decide)] at b; omega
    refine ⟨⟨by unfold rT; rw [x9 0 0 1 (by decide) (by decide), x9 40 0 2 (by decide) (by decide)], by unfold rM; rw [xk 29 0 3 (by decide) (by decide), x9 40 0 20 (by decide) (by decide)], fun w g0 g1 => by rw [X9n_k (by decide), oX, if_pos ⟨rfl, rfl, g0, g1⟩, xk 42 0 w (by decide) (by decide)]; rfl, fun t g0 g1 => by rw [x9 0 0 1 (by decide) (by decide)] at g1; omega, fun t g0 g1 => by rw [x9 0 0 1 (by decide) (by decide)] at g1; omega⟩, ⟨⟨⟨by rw [x9 0 0 3 (by decide) (by decide), x9 40 0 13 (by decide) (by decide)], fun x a b => ?_⟩, ⟨fun m a b => ?_, fun n a b => ?_⟩, ⟨fun g r l h => absurd h (nlv g r l), fun g r l g' r' l' h => absurd h (nlv g r l)⟩⟩, by rw [xk 29 0 1 (by decide) (by decide), x9 40 0 22 (by decide) (by decide)]⟩, fun t q a b => ?_, fun s g a b e => ?_, ⟨fun i i0 i1 => ?_, fun i j i0 i1 j0 j1 e => ?_⟩, fun t k k' a b => ?_⟩
    · rw [x9 40 0 13 (by decide) (by decide)] at b; omega
    · rw [x9 40 0 20 (by decide) (by decide)] at b; omega
    · rw [x9 40 0 22 (by decide) (by decide)] at b; omega
    · rw [x9 40 0 2 (by decide) (by decide)] at b; omega
    · have e70 : X9n X 70 0 s = 0 := xk 70 0 s (by decide) (by decide)
      exact ⟨by rw [xk 7 g 0 (by decide) (by decide), e70], fun w => by rw [e70] at w; omega, fun _ => xk 7 g 6 (by decide) (by decide), fun r r0 r1 => by rw [e70] at r1; omega, fun w w9 => by rw [e70] at w9; omega⟩
    · by_cases h4 : i < 4
      · refine ⟨2 + i, ?_, by omega, by omega⟩
        unfold sl6
        rw [if_pos h4]; exact o4 i i0 h4
      · by_cases h5 : i = 4
        · refine ⟨0, ?_, by decide, by decide⟩
          unfold sl6
          rw [if_neg h4, if_pos h5]; exact o6
        · refine ⟨1, ?_, by decide, by decide⟩
          unfold sl6
          rw [if_neg h4, if_neg h5]; exact o7
    · have sp : ∀ i, 0 ≤ i → i < 6 → sl6 Y i = some (if i < 4 then 2 + i else i - 4) := fun i i0 i1 => by
        unfold sl6
        by_cases h4 : i < 4
        · rw [if_pos h4, if_pos h4]; exact o4 i i0 h4
        · by_cases h5 : i = 4
          · rw [if_neg h4, if_pos h5, if_neg h4, h5]; exact o6
          · rw [if_neg h4, if_neg h5, if_neg h4, show i = 5 by omega]; exact o7
      rw [sp i i0 i1, sp j j0 j1] at e
      have e' := Option.some.inj e
      (repeat' split at e') <;> omega
    · rw [x9 40 0 2 (by decide) (by decide)] at b; omega
end
section
set_option maxHeartbeats 4000000 in
set_option maxRecDepth 100000 in
theorem st_empty {D : va_G} {tc : Nat → ClassId} {H : Heap} : wx D tc H.size ((fun _ _ => 0), (fun _ => 0), (fun _ _ _ => 0), (fun _ _ _ => none), (fun _ => 0)) [] H := by
  refine ⟨⟨[], fun k i => ⟨fun h => (by cases h), fun h => (by have h1 : 0 ≤ i ∧ i < 0 := h; omega)⟩, fun k q h => (by simp [wlE] at h), ⟨fun i j p q h => (by simp [wlE] at h), fun k q h => (by simp [wlE] at h)⟩⟩, fun k i j t i' h0 h1 => ?_, Nat.le_refl _⟩
  have h2 : i < 0 := h1
  omega
set_option maxHeartbeats 8000000 in
set_option maxRecDepth 100000 in
theorem whole_start {p : Program} {e : Env} {s : State} {m : MethodId} {below : List Frame} {meth : Method} {c : Code} (l : Launch) (hlT : l.stackTraces = false) {b L : Nat} {xs : Nat → Int32} (hL : L ≤ 3584) (C0 : lw_At p s m meth c b L xs) : W p l e room_1 s m #[Value.ref b] below meth c s.heap [] 0 0 (lw_Z below #[Value.ref b] s) (entryFrame m ([Value.ref b] : List Value).toArray 8) := by
  obtain ⟨hx, hb, hr, hml, hown, hts0, hX, hbl, hlocks, hgv⟩ := id C0
  have hown : s.vm.findClass RL = some m.cls := hown
  have hb : c.code = cL_law := hb
  obtain ⟨D, tc, hK⟩ := st_K hts0
  have hT := st_T hts0 hgv
  have hts : ∀ w ∈ lw_tbl, w.before #[Value.ref b] s = true := hts0
  have hS : va_S (frA s.heap.size) s.heap s.heap [] := va_S.rf
  have hl := lv_entry ([.ref b]) (n := 8) (Nat.le_of_ble_eq_true rfl)
  rw [lg_entry_eq]
  generalize (lg_sl ([.ref b]) ++ List.replicate (8 - (lg_sl ([.ref b])).length) Slot.unset).toArray = ls at hl ⊢
  have hl : lv_has ls 8 [(0, .ref b)] := hl
  have hf8 : fctx s m _ RL lw_tbl D tc RX8 TX8 12 8 := ⟨hts, wsX80_in, hown, hK.1, rfl⟩
  have hf9 : fctx s m _ RL lw_tbl D tc RX9 TX9 51 9 := ⟨hts, wsX90_in, hown, hK.1, rfl⟩
  refine g_new (E := []) (G := []) (ci := 8) (fs := [.null, .int 0, .null, .int 0, .null, .null, .null, .null, .null, .null, .null, .null]) hx hb hf8 ⟨tyX8_ok, nmX8⟩ (hts0 (.classLink RL 8 RX8) (by first | exact gt_1 _ (gp_16 (gp_1 (gp_1 gp_h))) | decide +kernel)) (hts0 (.instantiable RX8 12) (by first | exact gt_1 _ (gp_16 (gp_1 (gp_1 (gp_1 gp_h)))) | decide +kernel)) (hts0 (.initialized RX8) (by first | exact gt_1 _ (gp_1 gp_h) | decide +kernel)) (st_empty (D := D) (tc := tc)) hS (Nat.le_refl _) (fun j hj => by rcases (show j = 0 ∨ j = 1 ∨ j = 2 ∨ j = 3 ∨ j = 4 ∨ j = 5 ∨ j = 6 ∨ j = 7 ∨ j = 8 ∨ j = 9 ∨ j = 10 ∨ j = 11 by omega) with rfl | rfl | rfl | rfl | rfl | rfl | rfl | rfl | rfl | rfl | rfl | rfl <;> rfl) (show 0 + 1 ≤ 601024 by omega) (show 0 + 12 ≤ 7293034 by omega) dL_law_0 (fun q0 H hw hS => ?_)
  refine lv_dup hx hb dL_law_3 rfl ?_
  refine gos_x (run_I (As := []) (rest := [.ref q0]) hx hb hml hown hts (c_X8_init l D tc s.heap.size (fun _ _ => 0) (fun _ => 0) (fun _ _ _ => 0) (fun _ _ _ => none) (fun _ => 0) q0 (fun _ => rfl) (fun _ _ _ => rfl) (fun _ _ _ => rfl)) (cwI 0 hts ggT_X8_init rfl rfl rfl (hts0 (.initialized RX8) (by first | exact gt_1 _ (gp_1 gp_h) | decide +kernel)) (hts0 (.methodLink RL 23 yX8_init) (by first | exact gt_1 _ (gp_16 (gp_4 gp_h)) | decide +kernel)) (hts0 (.instanceMethod yX8_init) (by first | exact gt_1 _ (gp_16 (gp_4 (gp_1 gp_h))) | decide +kernel)) rfl (by decide +kernel) ⟨Nat.le_of_ble_eq_true rfl, Nat.le_of_ble_eq_true rfl⟩) hK hw rfl hl.1 rfl (Nat.le_of_ble_eq_true rfl) dL_law_4 ⟨show 0 + 1 + 228 ≤ 601024 by omega, show 0 + 12 + 16184 ≤ 7293034 by omega⟩) hS (fun u9 E9 H locs p9 hw hS => ?_)
  obtain ⟨ad, cnt, X, Y, rfl, rfl, hO⟩ := p9
  refine lv_astore_n (lv' := [(1, .ref q0), (0, .ref b)]) hx hb dL_law_7 rfl hl (by decide) rfl (fun ls hl => ?_)
  refine g_new (E := []) (G := []) (ci := 9) (fs := [.int 0, .null, .int 0, .null, .null, .null, .null, .null, .null, .null, .null, .null, .null, .int 0, .null, .null, .null, .null, .null, .null, .int 0, .null, .int 0, .null, .null, .null, .null, .null, .int 0, .null, .null, .null, .null, .null, .null, .null, .null, .null, .null, .null, .null, .int 0, .int 0, .int 0, .null, .null, .null, .null, .null, .null, .int 0]) hx hb hf9 ⟨tyX9_ok, nmX9⟩ (hts0 (.classLink RL 24 RX9) (by first | exact gt_4 _ (gp_4 (gp_4 (gp_1 gp_h))) | decide +kernel)) (hts0 (.instantiable RX9 51) (by first | exact gt_4 _ (gp_4 (gp_4 (gp_1 (gp_1 gp_h)))) | decide +kernel)) (hts0 (.initialized RX9) (by first | exact gt_1 _ (gp_4 (gp_1 (gp_1 (gp_1 gp_h)))) | decide +kernel)) hw hS (Nat.le_refl _) (fun j hj => by rcases (show j = 0 ∨ j = 1 ∨ j = 2 ∨ j = 3 ∨ j = 4 ∨ j = 5 ∨ j = 6 ∨ j = 7 ∨ j = 8 ∨ j = 9 ∨ j = 10 ∨ j = 11 ∨ j = 12 ∨ j = 13 ∨ j = 14 ∨ j = 15 ∨ j = 16 ∨ j = 17 ∨ j = 18 ∨ j = 19 ∨ j = 20 ∨ j = 21 ∨ j = 22 ∨ j = 23 ∨ j = 24 ∨ j = 25 ∨ j = 26 ∨ j = 27 ∨ j = 28 ∨ j = 29 ∨ j = 30 ∨ j = 31 ∨ j = 32 ∨ j = 33 ∨ j = 34 ∨ j = 35 ∨ j = 36 ∨ j = 37 ∨ j = 38 ∨ j = 39 ∨ j = 40 ∨ j = 41 ∨ j = 42 ∨ j = 43 ∨ j = 44 ∨ j = 45 ∨ j = 46 ∨ j = 47 ∨ j = 48 ∨ j = 49 ∨ j = 50 by omega) with rfl | rfl | rfl | rfl | rfl | rfl | rfl | rfl | rfl | rfl | rfl | rfl | rfl | rfl | rfl | rfl | rfl | rfl | rfl | rfl | rfl | rfl | rfl | rfl | rfl | rfl | rfl | rfl | rfl | rfl | rfl | rfl | rfl | rfl | rfl | rfl | rfl | rfl | rfl | rfl | rfl | rfl | rfl | rfl | rfl | rfl | rfl | rfl | rfl | rfl | rfl <;> rfl) (show 0 + 1 + 228 + 1 ≤ 601024 by omega) (show 0 + 12 + 16184 + 51 ≤ 7293034 by omega) dL_law_8 (fun h1 H hw hS => ?_)
  refine lv_dup hx hb dL_law_11 rfl ?_
  refine gos_x (run_I (As := []) (rest := [.ref h1]) hx hb hml hown hts (c_X9_init l D tc s.heap.size (ad, cnt, X, Y, fun _ => 0) [] h1) (cwI 0 hts ggT_X9_init rfl rfl rfl (hts0 (.initialized RX9) (by first | exact gt_1 _ (gp_4 (gp_1 (gp_1 (gp_1 gp_h)))) | decide +kernel)) (hts0 (.methodLink RL 26 yX9_init) (by first | exact gt_4 _ (gp_4 (gp_4 (gp_1 (gp_1 (gp_1 gp_h))))) | decide +kernel)) (hts0 (.instanceMethod yX9_init) (by first | exact gt_4 _ (gp_4 (gp_4 (gp_4 gp_h))) | decide +kernel)) rfl (by decide +kernel) ⟨Nat.le_of_ble_eq_true rfl, Nat.le_of_ble_eq_true rfl⟩) hK hw rfl hl.1 rfl (Nat.le_of_ble_eq_true rfl) dL_law_12 ⟨show 0 + 1 + 228 + 1 + 41 ≤ 601024 by omega, show 0 + 12 + 16184 + 51 + 21484 ≤ 7293034 by omega⟩) hS (fun u9 E9 H locs p9 hw hS => ?_)
  obtain ⟨rfl, r1, r2, r3, r4, r5, r6, r7, r8, r9, r10, r11, r12, r13, r14, r15, r16, r17, r18, r19, r20, r21, r22, r23, r24, r25, r26, r27, r28, r29, r30, r31, r32, r33, r34, r35, r36, r37, r38, r39, r40, r41, rfl⟩ := p9
  refine lv_astore_n (lv' := [(2, .ref h1), (1, .ref q0), (0, .ref b)]) hx hb dL_law_15 rfl hl (by decide) rfl (fun ls hl => ?_)
  refine lv_iconst (v := jI 1) hx hb dL_law_16 rfl ?_
  have hw : wx D tc s.heap.size (ad, cnt, X, Y, fun _ => 0) ([] ++ [(h1, .inr (9, [.int 0, .ref r1, .int 0, .ref r2, .ref r3, .ref r4, .ref r5, .ref r6, .ref r7, .ref r8, .ref r9, .ref r10, .ref r11, .int 0, .ref r12, .ref r13, .ref r14, .ref r15, .ref r16, .ref r17, .int 0, .ref r18, .int 0, .ref r19, .ref r20, .ref r21, .ref r22, .ref r23, .int 0, .ref r24, .ref r25, .ref r26, .ref r27, .ref r28, .ref r29, .ref r30, .ref r31, .ref r32, .ref r33, .ref r34, .ref r35, .int (jI (-9)), .int (jI (-9)), .int (jI (-9)), .ref r36, .ref r37, .ref r38, .ref r39, .ref r40, .ref r41, .int 0])), (r1, .inl (tc 2, (16 : Int).toNat, .inl (fun _ => 0))), (r2, .inl (tc 0, (8 : Int).toNat, .inl (fun _ => 0))), (r3, .inl (tc 0, (40 : Int).toNat, .inl (fun _ => 0))), (r4, .inl (tc 0, (40 : Int).toNat, .inl (fun _ => 0))), (r5, .inl (tc 1, (40 : Int).toNat, .inr (.inl (fun _ => 0)))), (r6, .inl (tc 2, (40 : Int).toNat, .inl (fun _ => 0))), (r7, .inl (tc 0, (8 : Int).toNat, .inl (fun _ => 0))), (r8, .inl (tc 0, (32 : Int).toNat, .inl (fun _ => 0))), (r9, .inl (tc 0, (32 : Int).toNat, .inl (fun _ => 0))), (r10, .inl (tc 0, (32 : Int).toNat, .inl (fun _ => 0))), (r11, .inl (tc 1, (32 : Int).toNat, .inr (.inl (fun _ => 0)))), (r12, .inl (tc 0, (30 : Int).toNat, .inl (fun _ => 0))), (r13, .inl (tc 1, (150 : Int).toNat, .inr (.inl (fun _ => 0)))), (r14, .inl (tc 0, (400 : Int).toNat, .inl (fun _ => 0))), (r15, .inl (tc 0, (400 : Int).toNat, .inl (fun _ => 0))), (r16, .inl (tc 1, (4800 : Int).toNat, .inr (.inl (fun _ => 0)))), (r17, .inl (tc 2, (400 : Int).toNat, .inl (fun _ => 0))), (r18, .inl (tc 0, (4 : Int).toNat, .inl (fun _ => 0))), (r19, .inl (tc 0, (80 : Int).toNat, .inl (fun _ => 0))), (r20, .inl (tc 0, (80 : Int).toNat, .inl (fun _ => 0))), (r21, .inl (tc 0, (80 : Int).toNat, .inl (fun _ => 0))), (r22, .inl (tc 0, (80 : Int).toNat, .inl (fun _ => 0))), (r23, .inl (tc 1, (80 : Int).toNat, .inr (.inl (fun _ => 0)))), (r24, .inl (tc 0, (5 : Int).toNat, .inl (fun _ => 0))), (r25, .inl (tc 0, (150 : Int).toNat, .inl (fun _ => 0))), (r26, .inl (tc 0, (150 : Int).toNat, .inl (fun _ => 0))), (r27, .inl (tc 0, (750 : Int).toNat, .inl (fun _ => 0))), (r28, .inl (tc 0, (750 : Int).toNat, .inl (fun _ => 0))), (r29, .inl (tc 1, (750 : Int).toNat, .inr (.inl (fun _ => 0)))), (r30, .inl (tc 0, (5 : Int).toNat, .inl (fun _ => 0))), (r31, .inl (tc 0, (750 : Int).toNat, .inl (fun _ => 0))), (r32, .inl (tc 0, (750 : Int).toNat, .inl (fun _ => 0))), (r33, .inl (tc 1, (9000 : Int).toNat, .inr (.inl (fun _ => 0)))), (r34, .inl (tc 0, (30 : Int).toNat, .inl (fun _ => 0))), (r35, .inl (tc 0, (150 : Int).toNat, .inl (fun _ => 0))), (r36, .inl (tc 0, (450 : Int).toNat, .inl (fun _ => 0))), (r37, .inl (tc 0, (30 : Int).toNat, .inl (fun _ => 0))), (r38, .inl (tc 0, (30 : Int).toNat, .inl (fun _ => 0))), (r39, .inl (tc 0, (400 : Int).toNat, .inl (fun _ => 0))), (r40, .inl (tc 0, (400 : Int).toNat, .inl (fun _ => 0))), (r41, .inl (tc 0, (30 : Int).toNat, .inl (fun _ => 0)))]) H := hw
  refine g_newa (t := 1) (z := 1) (a0 := ((1 : Int).toNat, .inr (.inl (fun _ => 0)))) (atype := .long) hx hb (hts0 (.arrayClass .long) (by first | exact gt_1 _ (gp_64 (gp_4 (gp_4 (gp_1 (gp_1 gp_h))))) | decide +kernel)) rfl hK.1 rfl hw hS (Nat.le_refl _) (fun _ => rfl) (by omega) (by omega) (by decide) (show 0 + 1 + 228 + 1 + 41 + 1 ≤ 601024 by omega) (show 0 + 12 + 16184 + 51 + 21484 + (1 : Int).toNat ≤ 7293034 by decide) dL_law_17 (fun h2 H hw hS => ?_)
  refine lv_astore_n (lv' := [(3, .ref h2), (2, .ref h1), (1, .ref q0), (0, .ref b)]) hx hb dL_law_19 rfl hl (by decide) rfl (fun ls hl => ?_)
  refine lv_iconst (v := jI 0) hx hb dL_law_20 rfl ?_
  refine lv_istore (lv' := [(4, .int (jI 0)), (3, .ref h2), (2, .ref h1), (1, .ref q0), (0, .ref b)]) hx hb dL_law_21 hl (by decide) rfl (fun ls hl => ?_)
  obtain ⟨ad2, hw, e1, e2, ao⟩ := born_mdl (h0 := q0) (ln := fun _ => 0) hw (fun k hk => hO.2.1.2.2.2.2.2.2 k ((show ∀ k ∈ K9, k ∉ K8 by decide +kernel) k hk)) hO.2.2.2.2.2.2.2.1 hO.2.2.2.2.2.2.2.2
  have hI := law_first hO (fun _ => by decide) hw e1 e2 ao
  have C : LK p l s m c b L xs D tc := ⟨hx, hb, hml, hown, hts, hX, hbl, hK, hT, hlT, hL⟩
  exact law_loop C hr hlocks 513 0 400 40000 (by omega) (by omega) (by omega) (by omega) ad2 _ _ _ _ H locs ls _ _ hI hw hS (lv_sub hl [4, 3, 2, 1, 0] rfl) (show 0 + 1 + 228 + 1 + 41 + 1 ≤ 400 by omega) (show 0 + 12 + 16184 + 51 + 21484 + (1 : Int).toNat ≤ 40000 by decide)
end
