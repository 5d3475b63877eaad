set_option maxHeartbeats 4000000 in
set_option maxRecDepth 100000 in
theorem law_c7 {p : Program} {l : Launch} {e : Env} {s : State} {m : MethodId} {below : List Frame} {meth : Method} {c : Code} {b L : Nat} {xs : Nat → Int32} {D : va_G} {tc : Nat → ClassId} {Q : State → Prop} {q0 q1 q2 cB sB : Nat} {i : Int} (C : LK p l s m c b L xs D tc) (hi : 0 ≤ i ∧ i + 7 ≤ L) (hcB : cB + 310 ≤ 601024) (hsB : sB + 2110 ≤ 7293034) (hg : LAt p l e s m below meth c b D tc q0 q1 q2 i Q 1370 (cB + 310) (sB + 2110)) : LAt p l e s m below meth c b D tc q0 q1 q2 i Q 557 cB sB := by
  obtain ⟨hx, hb, hml, hown, hts, hX, hbl, hK, hT, hlT, hL⟩ := id C
  intro ad cnt X Y ln H locs ls cl sl hI hw hS hl hcl hsl
  obtain ⟨hI0, hRC0⟩ := id hI
  obtain ⟨i0, i40, i100, iFx, iOw, iN, iLn, iR, iCI, iRv, iMI⟩ := id hI0
  refine lv_aload_n hx hb dL_law_557 rfl (lv_at hl 1 rfl) ?_
  obtain ⟨a1, ea1, ga1⟩ := sc_at xs i 1
  refine l_arg (k := 1) (pc2 := 562) C hS hl hi (by omega) ea1 dL_law_558 dL_law_559 (fun h => lv_iconst (v := jI 1) hx hb dL_law_561 rfl h) dL_law_562 dL_law_563 ?_
  obtain ⟨h0, h40, h100, hFx, hOw, hN, hLn, hR, hCI, hRv, hMI⟩ := id hI0
  have hc0 : cnt 0 = 1 := hFx.at 0 1 (by decide)
  refine gos_i (run_V (k := 0) (i := 0) (As := [.int (jI a1)]) (rest := []) hx hb hml hown hts (c_X8_thing l D tc s.heap.size ad cnt X Y ln hR hFx hLn hCI a1 ga1) (cwV 1 hts gT_X8_thing rfl rfl rfl (by first | exact hd_X8_thing | decide +kernel) ⟨Nat.le_of_ble_eq_true rfl, Nat.le_of_ble_eq_true rfl⟩) hK hw (by first | exact Int.le_refl 0 | omega) (by first | exact zlt hc0 | omega) sl_0_0 rfl rfl hl.1 (by rw [h0]; rfl) (Nat.le_of_ble_eq_true rfl) dL_law_564 ⟨by show _ ≤ (601024 : Nat); omega, by show _ ≤ (7293034 : Nat); omega⟩) hS (fun z1 u2 H locs p3 hw hS => ?_)
  obtain ⟨X4, Y6, rfl, hRX4, hFX4, hHX4, hCX4, hzX4, pX4⟩ := p3
  have hI5 : LI0 q0 q1 q2 ad cnt X4 Y6 ln := LI0.cls hI0 hRX4 hFX4 hCX4 (by decide)
  refine lv_pop hx hb dL_law_567 rfl ?_
  refine lv_aload_n hx hb dL_law_568 rfl (lv_at hl 2 rfl) ?_
  refine l_arg (k := 1) (pc2 := 573) C hS hl hi (by omega) ea1 dL_law_569 dL_law_570 (fun h => lv_iconst (v := jI 1) hx hb dL_law_572 rfl h) dL_law_573 dL_law_574 ?_
  obtain ⟨h0, h40, h100, hFx, hOw, hN, hLn, hR, hCI, hRv, hMI⟩ := id hI5
  have hc40 : cnt 40 = 1 := hFx.at 40 1 (by decide)
  refine gos_i (run_V (k := 40) (i := 0) (As := [.int (jI a1)]) (rest := []) hx hb hml hown hts (c_X9_thing l D tc s.heap.size ad cnt X4 Y6 ln hR hFx hMI a1 ga1) (cwV 1 hts gT_X9_thing rfl rfl rfl (by first | exact hd_X9_thing | decide +kernel) ⟨Nat.le_of_ble_eq_true rfl, Nat.le_of_ble_eq_true rfl⟩) hK hw (by first | exact Int.le_refl 0 | omega) (by first | exact zlt hc40 | omega) sl_40_0 rfl rfl hl.1 (by rw [h40]; rfl) (Nat.le_of_ble_eq_true rfl) dL_law_575 ⟨by show _ ≤ (601024 : Nat); omega, by show _ ≤ (7293034 : Nat); omega⟩) hS (fun z7 u8 H locs p9 hw hS => ?_)
  obtain ⟨X10, rfl, hRX10, hFX10, hMX10, hzX10, pX10⟩ := p9
  have hI11 : LI0 q0 q1 q2 ad cnt X10 Y6 ln := LI0.mdl hI5 hRX10 hFX10 hMX10 (by decide)
  refine lv_pop hx hb dL_law_578 rfl ?_
  obtain ⟨hRC, hq9⟩ := J_thing hRC0 iMI iR hRX4 iLn iN hFX4 hHX4 pX4 hFX10 hMX10 pX10
  refine lv_goto (tgt := 1370) hx hb dL_law_579 (by decide) ?_
  exact hg _ _ _ _ _ H locs ls _ _ ⟨hI11, hRC⟩ hw hS hl (by omega) (by omega)

set_option maxHeartbeats 4000000 in
set_option maxRecDepth 100000 in
theorem law_c8 {p : Program} {l : Launch} {e : Env} {s : State} {m : MethodId} {below : List Frame} {meth : Method} {c : Code} {b L : Nat} {xs : Nat → Int32} {D : va_G} {tc : Nat → ClassId} {Q : State → Prop} {q0 q1 q2 cB sB : Nat} {i : Int} (C : LK p l s m c b L xs D tc) (hi : 0 ≤ i ∧ i + 7 ≤ L) (hcB : cB + 310 ≤ 601024) (hsB : sB + 2110 ≤ 7293034) (hg : LAt p l e s m below meth c b D tc q0 q1 q2 i Q 1370 (cB + 310) (sB + 2110)) : LAt p l e s m below meth c b D tc q0 q1 q2 i Q 582 cB sB := by
  obtain ⟨hx, hb, hml, hown, hts, hX, hbl, hK, hT, hlT, hL⟩ := id C
  intro ad cnt X Y ln H locs ls cl sl hI hw hS hl hcl hsl
  obtain ⟨hI0, hRC0⟩ := id hI
  obtain ⟨i0, i40, i100, iFx, iOw, iN, iLn, iR, iCI, iRv, iMI⟩ := id hI0
  refine lv_aload_n hx hb dL_law_582 rfl (lv_at hl 1 rfl) ?_
  obtain ⟨a1, ea1, ga1⟩ := sc_at xs i 1
  refine l_arg (k := 1) (pc2 := 587) C hS hl hi (by omega) ea1 dL_law_583 dL_law_584 (fun h => lv_iconst (v := jI 1) hx hb dL_law_586 rfl h) dL_law_587 dL_law_588 ?_
  obtain ⟨a2, ea2, ga2⟩ := sc_at xs i 2
  refine l_arg (k := 2) (pc2 := 593) C hS hl hi (by omega) ea2 dL_law_589 dL_law_590 (fun h => lv_iconst (v := jI 2) hx hb dL_law_592 rfl h) dL_law_593 dL_law_594 ?_
  obtain ⟨a3, ea3, ga3⟩ := sc_at xs i 3
  refine l_arg (k := 3) (pc2 := 599) C hS hl hi (by omega) ea3 dL_law_595 dL_law_596 (fun h => lv_iconst (v := jI 3) hx hb dL_law_598 rfl h) dL_law_599 dL_law_600 ?_
  refine lv_i2l hx hb dL_law_601 rfl ?_
  refine lv_bipush (v := jI 32) hx hb dL_law_602 (by decide) ?_
  refine lv_lshl hx hb dL_law_604 rfl ?_
  obtain ⟨a4, ea4, ga4⟩ := sc_at xs i 4
  refine l_arg (k := 4) (pc2 := 609) C hS hl hi (by omega) ea4 dL_law_605 dL_law_606 (fun h => lv_iconst (v := jI 4) hx hb dL_law_608 rfl h) dL_law_609 dL_law_610 ?_
  refine lv_i2l hx hb dL_law_611 rfl ?_
  refine lv_ldc2 hx hb hown C.c32 dL_law_612 ?_
  refine lv_land hx hb dL_law_615 ?_
  refine lv_lor hx hb dL_law_616 ?_
  refine l_topl (fun v3 gv3 ev3 => ?_)
  obtain ⟨h0, h40, h100, hFx, hOw, hN, hLn, hR, hCI, hRv, hMI⟩ := id hI0
  have hc0 : cnt 0 = 1 := hFx.at 0 1 (by decide)
  refine gos_i (run_V (k := 0) (i := 0) (As := [.int (jI a1), .int (jI a2), .long (jL v3)]) (rest := []) hx hb hml hown hts (c_X8_put l D tc s.heap.size ad cnt X Y ln hR hFx hLn hCI a1 a2 v3 ga1 ga2 gv3) (cwV 3 hts gT_X8_put rfl rfl rfl (by first | exact hd_X8_put | decide +kernel) ⟨Nat.le_of_ble_eq_true rfl, Nat.le_of_ble_eq_true rfl⟩) hK hw (by first | exact Int.le_refl 0 | omega) (by first | exact zlt hc0 | omega) sl_0_0 rfl rfl hl.1 (by rw [h0]; rfl) (Nat.le_of_ble_eq_true rfl) dL_law_617 ⟨by show _ ≤ (601024 : Nat); omega, by show _ ≤ (7293034 : Nat); omega⟩) hS (fun z1 u2 H locs p3 hw hS => ?_)
  obtain ⟨X4, Y6, rfl, hRX4, hFX4, hHX4, hCX4, hzX4, pX4⟩ := p3
  have hI5 : LI0 q0 q1 q2 ad cnt X4 Y6 ln := LI0.cls hI0 hRX4 hFX4 hCX4 (by decide)
  refine lv_pop hx hb dL_law_620 rfl ?_
  refine lv_aload_n hx hb dL_law_621 rfl (lv_at hl 2 rfl) ?_
  refine l_arg (k := 1) (pc2 := 626) C hS hl hi (by omega) ea1 dL_law_622 dL_law_623 (fun h => lv_iconst (v := jI 1) hx hb dL_law_625 rfl h) dL_law_626 dL_law_627 ?_
  refine l_arg (k := 2) (pc2 := 632) C hS hl hi (by omega) ea2 dL_law_628 dL_law_629 (fun h => lv_iconst (v := jI 2) hx hb dL_law_631 rfl h) dL_law_632 dL_law_633 ?_
  refine l_arg (k := 3) (pc2 := 638) C hS hl hi (by omega) ea3 dL_law_634 dL_law_635 (fun h => lv_iconst (v := jI 3) hx hb dL_law_637 rfl h) dL_law_638 dL_law_639 ?_
  refine lv_i2l hx hb dL_law_640 rfl ?_
  refine lv_bipush (v := jI 32) hx hb dL_law_641 (by decide) ?_
  refine lv_lshl hx hb dL_law_643 rfl ?_
  refine l_arg (k := 4) (pc2 := 648) C hS hl hi (by omega) ea4 dL_law_644 dL_law_645 (fun h => lv_iconst (v := jI 4) hx hb dL_law_647 rfl h) dL_law_648 dL_law_649 ?_
  refine lv_i2l hx hb dL_law_650 rfl ?_
  refine lv_ldc2 hx hb hown C.c32 dL_law_651 ?_
  refine lv_land hx hb dL_law_654 ?_
  refine lv_lor hx hb dL_law_655 ?_
  refine l_topt ev3 ?_
  obtain ⟨h0, h40, h100, hFx, hOw, hN, hLn, hR, hCI, hRv, hMI⟩ := id hI5
  have hc40 : cnt 40 = 1 := hFx.at 40 1 (by decide)
  refine gos_i (run_V (k := 40) (i := 0) (As := [.int (jI a1), .int (jI a2), .long (jL v3)]) (rest := []) hx hb hml hown hts (c_X9_put l D tc s.heap.size ad cnt X4 Y6 ln hR hFx hMI a1 a2 v3 ga1 ga2 gv3) (cwV 3 hts gT_X9_put rfl rfl rfl (by first | exact hd_X9_put | decide +kernel) ⟨Nat.le_of_ble_eq_true rfl, Nat.le_of_ble_eq_true rfl⟩) hK hw (by first | exact Int.le_refl 0 | omega) (by first | exact zlt hc40 | omega) sl_40_0 rfl rfl hl.1 (by rw [h40]; rfl) (Nat.le_of_ble_eq_true rfl) dL_law_656 ⟨by show _ ≤ (601024 : Nat); omega, by show _ ≤ (7293034 : Nat); omega⟩) hS (fun z7 u8 H locs p9 hw hS => ?_)
  obtain ⟨X10, rfl, hRX10, hFX10, hMX10, hzX10, pX10⟩ := p9
  have hI11 : LI0 q0 q1 q2 ad cnt X10 Y6 ln := LI0.mdl hI5 hRX10 hFX10 hMX10 (by decide)
  refine lv_pop hx hb dL_law_659 rfl ?_
  obtain ⟨hRC, hq9⟩ := J_put hRC0 iMI iR hRX4 iLn iN hFX4 hHX4 pX4 hFX10 hMX10 pX10
  refine lv_goto (tgt := 1370) hx hb dL_law_660 (by decide) ?_
  exact hg _ _ _ _ _ H locs ls _ _ ⟨hI11, hRC⟩ hw hS hl (by omega) (by omega)

set_option maxHeartbeats 4000000 in
set_option maxRecDepth 100000 in
theorem law_c9 {p : Program} {l : Launch} {e : Env} {s : State} {m : MethodId} {below : List Frame} {meth : Method} {c : Code} {b L : Nat} {xs : Nat → Int32} {D : va_G} {tc : Nat → ClassId} {Q : State → Prop} {q0 q1 q2 cB sB : Nat} {i : Int} (C : LK p l s m c b L xs D tc) (hi : 0 ≤ i ∧ i + 7 ≤ L) (hcB : cB + 310 ≤ 601024) (hsB : sB + 2110 ≤ 7293034) (hg : LAt p l e s m below meth c b D tc q0 q1 q2 i Q 1370 (cB + 310) (sB + 2110)) : LAt p l e s m below meth c b D tc q0 q1 q2 i Q 663 cB sB := by
  obtain ⟨hx, hb, hml, hown, hts, hX, hbl, hK, hT, hlT, hL⟩ := id C
  intro ad cnt X Y ln H locs ls cl sl hI hw hS hl hcl hsl
  obtain ⟨hI0, hRC0⟩ := id hI
  obtain ⟨i0, i40, i100, iFx, iOw, iN, iLn, iR, iCI, iRv, iMI⟩ := id hI0
  refine lv_aload_n hx hb dL_law_663 rfl (lv_at hl 1 rfl) ?_
  obtain ⟨a1, ea1, ga1⟩ := sc_at xs i 1
  refine l_arg (k := 1) (pc2 := 668) C hS hl hi (by omega) ea1 dL_law_664 dL_law_665 (fun h => lv_iconst (v := jI 1) hx hb dL_law_667 rfl h) dL_law_668 dL_law_669 ?_
  obtain ⟨a2, ea2, ga2⟩ := sc_at xs i 2
  refine l_arg (k := 2) (pc2 := 674) C hS hl hi (by omega) ea2 dL_law_670 dL_law_671 (fun h => lv_iconst (v := jI 2) hx hb dL_law_673 rfl h) dL_law_674 dL_law_675 ?_
  obtain ⟨a3, ea3, ga3⟩ := sc_at xs i 3
  refine l_arg (k := 3) (pc2 := 680) C hS hl hi (by omega) ea3 dL_law_676 dL_law_677 (fun h => lv_iconst (v := jI 3) hx hb dL_law_679 rfl h) dL_law_680 dL_law_681 ?_
  obtain ⟨h0, h40, h100, hFx, hOw, hN, hLn, hR, hCI, hRv, hMI⟩ := id hI0
  have hc0 : cnt 0 = 1 := hFx.at 0 1 (by decide)
  refine gos_i (run_V (k := 0) (i := 0) (As := [.int (jI a1), .int (jI a2), .int (jI a3)]) (rest := []) hx hb hml hown hts (c_X8_refer l D tc s.heap.size ad cnt X Y ln hR hFx hLn hCI a1 a2 a3 ga1 ga2 ga3) (cwV 3 hts gT_X8_refer rfl rfl rfl (by first | exact hd_X8_refer | decide +kernel) ⟨Nat.le_of_ble_eq_true rfl, Nat.le_of_ble_eq_true rfl⟩) hK hw (by first | exact Int.le_refl 0 | omega) (by first | exact zlt hc0 | omega) sl_0_0 rfl rfl hl.1 (by rw [h0]; rfl) (Nat.le_of_ble_eq_true rfl) dL_law_682 ⟨by show _ ≤ (601024 : Nat); omega, by show _ ≤ (7293034 : Nat); omega⟩) hS (fun z1 u2 H locs p3 hw hS => ?_)
  obtain ⟨X4, Y6, rfl, hRX4, hFX4, hHX4, hCX4, hzX4, pX4⟩ := p3
  have hI5 : LI0 q0 q1 q2 ad cnt X4 Y6 ln := LI0.cls hI0 hRX4 hFX4 hCX4 (by decide)
  refine lv_pop hx hb dL_law_685 rfl ?_
  refine lv_aload_n hx hb dL_law_686 rfl (lv_at hl 2 rfl) ?_
  refine l_arg (k := 1) (pc2 := 691) C hS hl hi (by omega) ea1 dL_law_687 dL_law_688 (fun h => lv_iconst (v := jI 1) hx hb dL_law_690 rfl h) dL_law_691 dL_law_692 ?_
  refine l_arg (k := 2) (pc2 := 697) C hS hl hi (by omega) ea2 dL_law_693 dL_law_694 (fun h => lv_iconst (v := jI 2) hx hb dL_law_696 rfl h) dL_law_697 dL_law_698 ?_
  refine l_arg (k := 3) (pc2 := 703) C hS hl hi (by omega) ea3 dL_law_699 dL_law_700 (fun h => lv_iconst (v := jI 3) hx hb dL_law_702 rfl h) dL_law_703 dL_law_704 ?_
  obtain ⟨h0, h40, h100, hFx, hOw, hN, hLn, hR, hCI, hRv, hMI⟩ := id hI5
  have hc40 : cnt 40 = 1 := hFx.at 40 1 (by decide)
  refine gos_i (run_V (k := 40) (i := 0) (As := [.int (jI a1), .int (jI a2), .int (jI a3)]) (rest := []) hx hb hml hown hts (c_X9_refer l D tc s.heap.size ad cnt X4 Y6 ln hR hFx hMI a1 a2 a3 ga1 ga2 ga3) (cwV 3 hts gT_X9_refer rfl rfl rfl (by first | exact hd_X9_refer | decide +kernel) ⟨Nat.le_of_ble_eq_true rfl, Nat.le_of_ble_eq_true rfl⟩) hK hw (by first | exact Int.le_refl 0 | omega) (by first | exact zlt hc40 | omega) sl_40_0 rfl rfl hl.1 (by rw [h40]; rfl) (Nat.le_of_ble_eq_true rfl) dL_law_705 ⟨by show _ ≤ (601024 : Nat); omega, by show _ ≤ (7293034 : Nat); omega⟩) hS (fun z7 u8 H locs p9 hw hS => ?_)
  obtain ⟨X10, rfl, hRX10, hFX10, hMX10, hzX10, pX10⟩ := p9
  have hI11 : LI0 q0 q1 q2 ad cnt X10 Y6 ln := LI0.mdl hI5 hRX10 hFX10 hMX10 (by decide)
  refine lv_pop hx hb dL_law_708 rfl ?_
  obtain ⟨hRC, hq9⟩ := J_refer hRC0 iMI iR hRX4 iLn iN hFX4 hHX4 pX4 hFX10 hMX10 pX10
  refine lv_goto (tgt := 1370) hx hb dL_law_709 (by decide) ?_
  exact hg _ _ _ _ _ H locs ls _ _ ⟨hI11, hRC⟩ hw hS hl (by omega) (by omega)

set_option maxHeartbeats 4000000 in
set_option maxRecDepth 100000 in
theorem law_c10 {p : Program} {l : Launch} {e : Env} {s : State} {m : MethodId} {below : List Frame} {meth : Method} {c : Code} {b L : Nat} {xs : Nat → Int32} {D : va_G} {tc : Nat → ClassId} {Q : State → Prop} {q0 q1 q2 cB sB : Nat} {i : Int} (C : LK p l s m c b L xs D tc) (hi : 0 ≤ i ∧ i + 7 ≤ L) (hcB : cB + 310 ≤ 601024) (hsB : sB + 2110 ≤ 7293034) (hg : LAt p l e s m below meth c b D tc q0 q1 q2 i Q 1370 (cB + 310) (sB + 2110)) : LAt p l e s m below meth c b D tc q0 q1 q2 i Q 712 cB sB := by
  obtain ⟨hx, hb, hml, hown, hts, hX, hbl, hK, hT, hlT, hL⟩ := id C
  intro ad cnt X Y ln H locs ls cl sl hI hw hS hl hcl hsl
  obtain ⟨hI0, hRC0⟩ := id hI
  obtain ⟨i0, i40, i100, iFx, iOw, iN, iLn, iR, iCI, iRv, iMI⟩ := id hI0
  refine lv_aload_n hx hb dL_law_712 rfl (lv_at hl 1 rfl) ?_
  obtain ⟨a1, ea1, ga1⟩ := sc_at xs i 1
  refine l_arg (k := 1) (pc2 := 717) C hS hl hi (by omega) ea1 dL_law_713 dL_law_714 (fun h => lv_iconst (v := jI 1) hx hb dL_law_716 rfl h) dL_law_717 dL_law_718 ?_
  obtain ⟨a2, ea2, ga2⟩ := sc_at xs i 2
  refine l_arg (k := 2) (pc2 := 723) C hS hl hi (by omega) ea2 dL_law_719 dL_law_720 (fun h => lv_iconst (v := jI 2) hx hb dL_law_722 rfl h) dL_law_723 dL_law_724 ?_
  obtain ⟨a3, ea3, ga3⟩ := sc_at xs i 3
  refine l_arg (k := 3) (pc2 := 729) C hS hl hi (by omega) ea3 dL_law_725 dL_law_726 (fun h => lv_iconst (v := jI 3) hx hb dL_law_728 rfl h) dL_law_729 dL_law_730 ?_
  obtain ⟨h0, h40, h100, hFx, hOw, hN, hLn, hR, hCI, hRv, hMI⟩ := id hI0
  have hc0 : cnt 0 = 1 := hFx.at 0 1 (by decide)
  refine gos_i (run_V (k := 0) (i := 0) (As := [.int (jI a1), .int (jI a2), .int (jI a3)]) (rest := []) hx hb hml hown hts (c_X8_row l D tc s.heap.size ad cnt X Y ln hR hFx hLn hCI hOw hN a1 a2 a3 ga1 ga2 ga3) (cwV 3 hts gT_X8_row rfl rfl rfl (by first | exact hd_X8_row | decide +kernel) ⟨Nat.le_of_ble_eq_true rfl, Nat.le_of_ble_eq_true rfl⟩) hK hw (by first | exact Int.le_refl 0 | omega) (by first | exact zlt hc0 | omega) sl_0_0 rfl rfl hl.1 (by rw [h0]; rfl) (Nat.le_of_ble_eq_true rfl) dL_law_731 ⟨by show _ ≤ (601024 : Nat); omega, by show _ ≤ (7293034 : Nat); omega⟩) hS (fun z1 u2 H locs p3 hw hS => ?_)
  obtain ⟨ad6, cnt7, X4, Y8, ln9, rfl, hEX4, hFxX4, hOwX4, hLnX4, hRX4, hFX4, hHX4, hCX4, hzX4, pX4⟩ := p3
  have hI5 : LI0 q0 q1 q2 ad6 cnt7 X4 Y8 ln9 := LI0.grow hI0 hEX4 hFxX4 hOwX4 hLnX4 hRX4 hFX4 hCX4 (by decide)
  refine lv_pop hx hb dL_law_734 rfl ?_
  refine lv_aload_n hx hb dL_law_735 rfl (lv_at hl 2 rfl) ?_
  refine l_arg (k := 1) (pc2 := 740) C hS hl hi (by omega) ea1 dL_law_736 dL_law_737 (fun h => lv_iconst (v := jI 1) hx hb dL_law_739 rfl h) dL_law_740 dL_law_741 ?_
  refine l_arg (k := 2) (pc2 := 746) C hS hl hi (by omega) ea2 dL_law_742 dL_law_743 (fun h => lv_iconst (v := jI 2) hx hb dL_law_745 rfl h) dL_law_746 dL_law_747 ?_
  refine l_arg (k := 3) (pc2 := 752) C hS hl hi (by omega) ea3 dL_law_748 dL_law_749 (fun h => lv_iconst (v := jI 3) hx hb dL_law_751 rfl h) dL_law_752 dL_law_753 ?_
  obtain ⟨h0, h40, h100, hFx, hOw, hN, hLn, hR, hCI, hRv, hMI⟩ := id hI5
  have hc40 : cnt7 40 = 1 := hFx.at 40 1 (by decide)
  refine gos_i (run_V (k := 40) (i := 0) (As := [.int (jI a1), .int (jI a2), .int (jI a3)]) (rest := []) hx hb hml hown hts (c_X9_row l D tc s.heap.size ad6 cnt7 X4 Y8 ln9 hR hFx hMI a1 a2 a3 ga1 ga2 ga3) (cwV 3 hts gT_X9_row rfl rfl rfl (by first | exact hd_X9_row | decide +kernel) ⟨Nat.le_of_ble_eq_true rfl, Nat.le_of_ble_eq_true rfl⟩) hK hw (by first | exact Int.le_refl 0 | omega) (by first | exact zlt hc40 | omega) sl_40_0 rfl rfl hl.1 (by rw [h40]; rfl) (Nat.le_of_ble_eq_true rfl) dL_law_754 ⟨by show _ ≤ (601024 : Nat); omega, by show _ ≤ (7293034 : Nat); omega⟩) hS (fun z10 u11 H locs p12 hw hS => ?_)
  obtain ⟨X13, rfl, hRX13, hFX13, hMX13, hzX13, pX13⟩ := p12
  have hI14 : LI0 q0 q1 q2 ad6 cnt7 X13 Y8 ln9 := LI0.mdl hI5 hRX13 hFX13 hMX13 (by decide)
  refine lv_pop hx hb dL_law_757 rfl ?_
  obtain ⟨hRC, hq9⟩ := J_row hRC0 iMI iR hRX4 iLn iN hFX4 hHX4 hEX4.2.1 hEX4.2.2 hLnX4 pX4 hFX13 hMX13 pX13
  refine lv_goto (tgt := 1370) hx hb dL_law_758 (by decide) ?_
  exact hg _ _ _ _ _ H locs ls _ _ ⟨hI14, hRC⟩ hw hS hl (by omega) (by omega)

set_option maxHeartbeats 4000000 in
set_option maxRecDepth 100000 in
theorem law_c11 {p : Program} {l : Launch} {e : Env} {s : State} {m : MethodId} {below : List Frame} {meth : Method} {c : Code} {b L : Nat} {xs : Nat → Int32} {D : va_G} {tc : Nat → ClassId} {Q : State → Prop} {q0 q1 q2 cB sB : Nat} {i : Int} (C : LK p l s m c b L xs D tc) (hi : 0 ≤ i ∧ i + 7 ≤ L) (hcB : cB + 310 ≤ 601024) (hsB : sB + 2110 ≤ 7293034) (hg : LAt p l e s m below meth c b D tc q0 q1 q2 i Q 1370 (cB + 310) (sB + 2110)) : LAt p l e s m below meth c b D tc q0 q1 q2 i Q 761 cB sB := by
  obtain ⟨hx, hb, hml, hown, hts, hX, hbl, hK, hT, hlT, hL⟩ := id C
  intro ad cnt X Y ln H locs ls cl sl hI hw hS hl hcl hsl
  obtain ⟨hI0, hRC0⟩ := id hI
  obtain ⟨i0, i40, i100, iFx, iOw, iN, iLn, iR, iCI, iRv, iMI⟩ := id hI0
  refine lv_aload_n hx hb dL_law_761 rfl (lv_at hl 1 rfl) ?_
  obtain ⟨a1, ea1, ga1⟩ := sc_at xs i 1
  refine l_arg (k := 1) (pc2 := 766) C hS hl hi (by omega) ea1 dL_law_762 dL_law_763 (fun h => lv_iconst (v := jI 1) hx hb dL_law_765 rfl h) dL_law_766 dL_law_767 ?_
  obtain ⟨a2, ea2, ga2⟩ := sc_at xs i 2
  refine l_arg (k := 2) (pc2 := 772) C hS hl hi (by omega) ea2 dL_law_768 dL_law_769 (fun h => lv_iconst (v := jI 2) hx hb dL_law_771 rfl h) dL_law_772 dL_law_773 ?_
  obtain ⟨a3, ea3, ga3⟩ := sc_at xs i 3
  refine l_arg (k := 3) (pc2 := 778) C hS hl hi (by omega) ea3 dL_law_774 dL_law_775 (fun h => lv_iconst (v := jI 3) hx hb dL_law_777 rfl h) dL_law_778 dL_law_779 ?_
  obtain ⟨a4, ea4, ga4⟩ := sc_at xs i 4
  refine l_arg (k := 4) (pc2 := 784) C hS hl hi (by omega) ea4 dL_law_780 dL_law_781 (fun h => lv_iconst (v := jI 4) hx hb dL_law_783 rfl h) dL_law_784 dL_law_785 ?_
  obtain ⟨h0, h40, h100, hFx, hOw, hN, hLn, hR, hCI, hRv, hMI⟩ := id hI0
  have hc0 : cnt 0 = 1 := hFx.at 0 1 (by decide)
  refine gos_i (run_V (k := 0) (i := 0) (As := [.int (jI a1), .int (jI a2), .int (jI a3), .int (jI a4)]) (rest := []) hx hb hml hown hts (c_X8_share l D tc s.heap.size ad cnt X Y ln hR hFx hLn hCI a1 a2 a3 a4 ga1 ga2 ga3 ga4) (cwV 4 hts gT_X8_share rfl rfl rfl (by first | exact hd_X8_share | decide +kernel) ⟨Nat.le_of_ble_eq_true rfl, Nat.le_of_ble_eq_true rfl⟩) hK hw (by first | exact Int.le_refl 0 | omega) (by first | exact zlt hc0 | omega) sl_0_0 rfl rfl hl.1 (by rw [h0]; rfl) (Nat.le_of_ble_eq_true rfl) dL_law_786 ⟨by show _ ≤ (601024 : Nat); omega, by show _ ≤ (7293034 : Nat); omega⟩) hS (fun z1 u2 H locs p3 hw hS => ?_)
  obtain ⟨X4, Y6, rfl, hRX4, hFX4, hHX4, hCX4, hzX4, pX4⟩ := p3
  have hI5 : LI0 q0 q1 q2 ad cnt X4 Y6 ln := LI0.cls hI0 hRX4 hFX4 hCX4 (by decide)
  refine lv_pop hx hb dL_law_789 rfl ?_
  refine lv_aload_n hx hb dL_law_790 rfl (lv_at hl 2 rfl) ?_
  refine l_arg (k := 1) (pc2 := 795) C hS hl hi (by omega) ea1 dL_law_791 dL_law_792 (fun h => lv_iconst (v := jI 1) hx hb dL_law_794 rfl h) dL_law_795 dL_law_796 ?_
  refine l_arg (k := 2) (pc2 := 801) C hS hl hi (by omega) ea2 dL_law_797 dL_law_798 (fun h => lv_iconst (v := jI 2) hx hb dL_law_800 rfl h) dL_law_801 dL_law_802 ?_
  refine l_arg (k := 3) (pc2 := 807) C hS hl hi (by omega) ea3 dL_law_803 dL_law_804 (fun h => lv_iconst (v := jI 3) hx hb dL_law_806 rfl h) dL_law_807 dL_law_808 ?_
  refine l_arg (k := 4) (pc2 := 813) C hS hl hi (by omega) ea4 dL_law_809 dL_law_810 (fun h => lv_iconst (v := jI 4) hx hb dL_law_812 rfl h) dL_law_813 dL_law_814 ?_
  obtain ⟨h0, h40, h100, hFx, hOw, hN, hLn, hR, hCI, hRv, hMI⟩ := id hI5
  have hc40 : cnt 40 = 1 := hFx.at 40 1 (by decide)
  refine gos_i (run_V (k := 40) (i := 0) (As := [.int (jI a1), .int (jI a2), .int (jI a3), .int (jI a4)]) (rest := []) hx hb hml hown hts (c_X9_share l D tc s.heap.size ad cnt X4 Y6 ln hR hFx hMI a1 a2 a3 a4 ga1 ga2 ga3 ga4) (cwV 4 hts gT_X9_share rfl rfl rfl (by first | exact hd_X9_share | decide +kernel) ⟨Nat.le_of_ble_eq_true rfl, Nat.le_of_ble_eq_true rfl⟩) hK hw (by first | exact Int.le_refl 0 | omega) (by first | exact zlt hc40 | omega) sl_40_0 rfl rfl hl.1 (by rw [h40]; rfl) (Nat.le_of_ble_eq_true rfl) dL_law_815 ⟨by show _ ≤ (601024 : Nat); omega, by show _ ≤ (7293034 : Nat); omega⟩) hS (fun z7 u8 H locs p9 hw hS => ?_)
  obtain ⟨X10, rfl, hRX10, hFX10, hMX10, hzX10, pX10⟩ := p9
  have hI11 : LI0 q0 q1 q2 ad cnt X10 Y6 ln := LI0.mdl hI5 hRX10 hFX10 hMX10 (by decide)
  refine lv_pop hx hb dL_law_818 rfl ?_
  obtain ⟨hRC, hq9⟩ := J_share hRC0 iMI iR hRX4 iLn iN hFX4 hHX4 pX4 hFX10 hMX10 pX10
  refine lv_goto (tgt := 1370) hx hb dL_law_819 (by decide) ?_
  exact hg _ _ _ _ _ H locs ls _ _ ⟨hI11, hRC⟩ hw hS hl (by omega) (by omega)

set_option maxHeartbeats 4000000 in
set_option maxRecDepth 100000 in
theorem law_c12 {p : Program} {l : Launch} {e : Env} {s : State} {m : MethodId} {below : List Frame} {meth : Method} {c : Code} {b L : Nat} {xs : Nat → Int32} {D : va_G} {tc : Nat → ClassId} {Q : State → Prop} {q0 q1 q2 cB sB : Nat} {i : Int} (C : LK p l s m c b L xs D tc) (hi : 0 ≤ i ∧ i + 7 ≤ L) (hcB : cB + 310 ≤ 601024) (hsB : sB + 2110 ≤ 7293034) (hg : LAt p l e s m below meth c b D tc q0 q1 q2 i Q 1370 (cB + 310) (sB + 2110)) : LAt p l e s m below meth c b D tc q0 q1 q2 i Q 822 cB sB := by
  obtain ⟨hx, hb, hml, hown, hts, hX, hbl, hK, hT, hlT, hL⟩ := id C
  intro ad cnt X Y ln H locs ls cl sl hI hw hS hl hcl hsl
  obtain ⟨hI0, hRC0⟩ := id hI
  obtain ⟨i0, i40, i100, iFx, iOw, iN, iLn, iR, iCI, iRv, iMI⟩ := id hI0
  refine lv_aload_n hx hb dL_law_822 rfl (lv_at hl 1 rfl) ?_
  obtain ⟨a1, ea1, ga1⟩ := sc_at xs i 1
  refine l_arg (k := 1) (pc2 := 827) C hS hl hi (by omega) ea1 dL_law_823 dL_law_824 (fun h => lv_iconst (v := jI 1) hx hb dL_law_826 rfl h) dL_law_827 dL_law_828 ?_
  obtain ⟨a2, ea2, ga2⟩ := sc_at xs i 2
  refine l_arg (k := 2) (pc2 := 833) C hS hl hi (by omega) ea2 dL_law_829 dL_law_830 (fun h => lv_iconst (v := jI 2) hx hb dL_law_832 rfl h) dL_law_833 dL_law_834 ?_
  obtain ⟨a3, ea3, ga3⟩ := sc_at xs i 3
  refine l_arg (k := 3) (pc2 := 839) C hS hl hi (by omega) ea3 dL_law_835 dL_law_836 (fun h => lv_iconst (v := jI 3) hx hb dL_law_838 rfl h) dL_law_839 dL_law_840 ?_
  obtain ⟨a4, ea4, ga4⟩ := sc_at xs i 4
  refine l_arg (k := 4) (pc2 := 845) C hS hl hi (by omega) ea4 dL_law_841 dL_law_842 (fun h => lv_iconst (v := jI 4) hx hb dL_law_844 rfl h) dL_law_845 dL_law_846 ?_
  refine lv_i2l hx hb dL_law_847 rfl ?_
  refine lv_bipush (v := jI 32) hx hb dL_law_848 (by decide) ?_
  refine lv_lshl hx hb dL_law_850 rfl ?_
  obtain ⟨a5, ea5, ga5⟩ := sc_at xs i 5
  refine l_arg (k := 5) (pc2 := 855) C hS hl hi (by omega) ea5 dL_law_851 dL_law_852 (fun h => lv_iconst (v := jI 5) hx hb dL_law_854 rfl h) dL_law_855 dL_law_856 ?_
  refine lv_i2l hx hb dL_law_857 rfl ?_
  refine lv_ldc2 hx hb hown C.c32 dL_law_858 ?_
  refine lv_land hx hb dL_law_861 ?_
  refine lv_lor hx hb dL_law_862 ?_
  refine l_topl (fun v4 gv4 ev4 => ?_)
  obtain ⟨h0, h40, h100, hFx, hOw, hN, hLn, hR, hCI, hRv, hMI⟩ := id hI0
  have hc0 : cnt 0 = 1 := hFx.at 0 1 (by decide)
  refine gos_i (run_V (k := 0) (i := 0) (As := [.int (jI a1), .int (jI a2), .int (jI a3), .long (jL v4)]) (rest := []) hx hb hml hown hts (c_X8_item l D tc s.heap.size ad cnt X Y ln hR hFx hLn hCI a1 a2 a3 v4 ga1 ga2 ga3 gv4) (cwV 4 hts gT_X8_item rfl rfl rfl (by first | exact hd_X8_item | decide +kernel) ⟨Nat.le_of_ble_eq_true rfl, Nat.le_of_ble_eq_true rfl⟩) hK hw (by first | exact Int.le_refl 0 | omega) (by first | exact zlt hc0 | omega) sl_0_0 rfl rfl hl.1 (by rw [h0]; rfl) (Nat.le_of_ble_eq_true rfl) dL_law_863 ⟨by show _ ≤ (601024 : Nat); omega, by show _ ≤ (7293034 : Nat); omega⟩) hS (fun z1 u2 H locs p3 hw hS => ?_)
  obtain ⟨X4, Y6, rfl, hRX4, hFX4, hHX4, hCX4, hzX4, pX4⟩ := p3
  have hI5 : LI0 q0 q1 q2 ad cnt X4 Y6 ln := LI0.cls hI0 hRX4 hFX4 hCX4 (by decide)
  refine lv_pop hx hb dL_law_866 rfl ?_
  refine lv_aload_n hx hb dL_law_867 rfl (lv_at hl 2 rfl) ?_
  refine l_arg (k := 1) (pc2 := 872) C hS hl hi (by omega) ea1 dL_law_868 dL_law_869 (fun h => lv_iconst (v := jI 1) hx hb dL_law_871 rfl h) dL_law_872 dL_law_873 ?_
  refine l_arg (k := 2) (pc2 := 878) C hS hl hi (by omega) ea2 dL_law_874 dL_law_875 (fun h => lv_iconst (v := jI 2) hx hb dL_law_877 rfl h) dL_law_878 dL_law_879 ?_
  refine l_arg (k := 3) (pc2 := 884) C hS hl hi (by omega) ea3 dL_law_880 dL_law_881 (fun h => lv_iconst (v := jI 3) hx hb dL_law_883 rfl h) dL_law_884 dL_law_885 ?_
  refine l_arg (k := 4) (pc2 := 890) C hS hl hi (by omega) ea4 dL_law_886 dL_law_887 (fun h => lv_iconst (v := jI 4) hx hb dL_law_889 rfl h) dL_law_890 dL_law_891 ?_
  refine lv_i2l hx hb dL_law_892 rfl ?_
  refine lv_bipush (v := jI 32) hx hb dL_law_893 (by decide) ?_
  refine lv_lshl hx hb dL_law_895 rfl ?_
  refine l_arg (k := 5) (pc2 := 900) C hS hl hi (by omega) ea5 dL_law_896 dL_law_897 (fun h => lv_iconst (v := jI 5) hx hb dL_law_899 rfl h) dL_law_900 dL_law_901 ?_
  refine lv_i2l hx hb dL_law_902 rfl ?_
  refine lv_ldc2 hx hb hown C.c32 dL_law_903 ?_
  refine lv_land hx hb dL_law_906 ?_
  refine lv_lor hx hb dL_law_907 ?_
  refine l_topt ev4 ?_
  obtain ⟨h0, h40, h100, hFx, hOw, hN, hLn, hR, hCI, hRv, hMI⟩ := id hI5
  have hc40 : cnt 40 = 1 := hFx.at 40 1 (by decide)
  refine gos_i (run_V (k := 40) (i := 0) (As := [.int (jI a1), .int (jI a2), .int (jI a3), .long (jL v4)]) (rest := []) hx hb hml hown hts (c_X9_item l D tc s.heap.size ad cnt X4 Y6 ln hR hFx hMI a1 a2 a3 v4 ga1 ga2 ga3 gv4) (cwV 4 hts gT_X9_item rfl rfl rfl (by first | exact hd_X9_item | decide +kernel) ⟨Nat.le_of_ble_eq_true rfl, Nat.le_of_ble_eq_true rfl⟩) hK hw (by first | exact Int.le_refl 0 | omega) (by first | exact zlt hc40 | omega) sl_40_0 rfl rfl hl.1 (by rw [h40]; rfl) (Nat.le_of_ble_eq_true rfl) dL_law_908 ⟨by show _ ≤ (601024 : Nat); omega, by show _ ≤ (7293034 : Nat); omega⟩) hS (fun z7 u8 H locs p9 hw hS => ?_)
  obtain ⟨X10, rfl, hRX10, hFX10, hMX10, hzX10, pX10⟩ := p9
  have hI11 : LI0 q0 q1 q2 ad cnt X10 Y6 ln := LI0.mdl hI5 hRX10 hFX10 hMX10 (by decide)
  refine lv_pop hx hb dL_law_911 rfl ?_
  obtain ⟨hRC, hq9⟩ := J_item hRC0 iMI iR hRX4 iLn iN hFX4 hHX4 pX4 hFX10 hMX10 pX10
  refine lv_goto (tgt := 1370) hx hb dL_law_912 (by decide) ?_
  exact hg _ _ _ _ _ H locs ls _ _ ⟨hI11, hRC⟩ hw hS hl (by omega) (by omega)

set_option maxHeartbeats 4000000 in
set_option maxRecDepth 100000 in
theorem law_c13 {p : Program} {l : Launch} {e : Env} {s : State} {m : MethodId} {below : List Frame} {meth : Method} {c : Code} {b L : Nat} {xs : Nat → Int32} {D : va_G} {tc : Nat → ClassId} {Q : State → Prop} {q0 q1 q2 cB sB : Nat} {i : Int} (C : LK p l s m c b L xs D tc) (hi : 0 ≤ i ∧ i + 7 ≤ L) (hcB : cB + 310 ≤ 601024) (hsB : sB + 2110 ≤ 7293034) (hg : LAt p l e s m below meth c b D tc q0 q1 q2 i Q 1370 (cB + 310) (sB + 2110)) : LAt p l e s m below meth c b D tc q0 q1 q2 i Q 915 cB sB := by
  obtain ⟨hx, hb, hml, hown, hts, hX, hbl, hK, hT, hlT, hL⟩ := id C
  intro ad cnt X Y ln H locs ls cl sl hI hw hS hl hcl hsl
  obtain ⟨hI0, hRC0⟩ := id hI
  obtain ⟨i0, i40, i100, iFx, iOw, iN, iLn, iR, iCI, iRv, iMI⟩ := id hI0
  refine lv_aload_n hx hb dL_law_915 rfl (lv_at hl 1 rfl) ?_
  obtain ⟨a1, ea1, ga1⟩ := sc_at xs i 1
  refine l_arg (k := 1) (pc2 := 920) C hS hl hi (by omega) ea1 dL_law_916 dL_law_917 (fun h => lv_iconst (v := jI 1) hx hb dL_law_919 rfl h) dL_law_920 dL_law_921 ?_
  obtain ⟨a2, ea2, ga2⟩ := sc_at xs i 2
  refine l_arg (k := 2) (pc2 := 926) C hS hl hi (by omega) ea2 dL_law_922 dL_law_923 (fun h => lv_iconst (v := jI 2) hx hb dL_law_925 rfl h) dL_law_926 dL_law_927 ?_
  refine lv_aload_n hx hb dL_law_928 rfl (lv_at hl 3 rfl) ?_
  obtain ⟨h0, h40, h100, hFx, hOw, hN, hLn, hR, hCI, hRv, hMI⟩ := id hI0
  refine vx_calli (vx_runSX (As := [.ref (ad 0 0), .int (jI a1), .int (jI a2), .ref (ad 100 0)]) (rest := []) ⟨hx, hb, hml, hown, hts⟩ (c_L_at l hlT D tc s.heap.size ad cnt X Y ln hR hFx hLn hCI a1 a2 ga1 ga2) (vx_cwSW 4 hts gT_L_at rfl rfl rfl (by decide +kernel) ⟨Nat.le_of_ble_eq_true rfl, Nat.le_of_ble_eq_true rfl⟩) ⟨PcT.blind, fun U hU hW => ⟨rfl, by rw [hU]; exact hw, hK.warm hW, by rw [hU]; exact hT.go hS hW⟩⟩ rfl rfl hl.1 (by rw [h0, h100]; rfl) (lv_room (Nat.le_of_ble_eq_true rfl)) dL_law_929 ⟨by show _ ≤ (601024 : Nat); omega, by show _ ≤ (7293034 : Nat); omega⟩) hS (fun q _ h => h) (fun q h => h) (fun q _ h => h) (fun E ce q9 u9 t H1 locs1 ht hvm hp hB hz hk1 hS1 hcell hv hcl => absurd hp id) (fun r9 u9 t9 H locs ht9 hvm9 hp9 hB9 hz9 hk9 hS => ?_)
  obtain ⟨z2, rfl, X1, rfl, hRX1, hFX1, hzX1⟩ := hp9
  rw [ht9] at hB9
  have hw := hB9
  have hI3 : LI0 q0 q1 q2 ad cnt X1 Y ln := LI0.cls hI0 hRX1 hFX1 (cinv_frm (M := [10000]) (N := []) hCI hFX1 Frm.rf (by decide) (by decide)) (by decide)
  refine lv_istore (lv' := (5, .int (jI z2)) :: LV b q0 q1 q2 i) hx hb dL_law_932 hl (by decide) rfl (fun ls hl5 => ?_)
  have hl : lv_has ls 8 (LV b q0 q1 q2 i) := lv_sub hl5 [1, 2, 3, 4, 5] rfl
  refine lv_aload_n hx hb dL_law_934 rfl (lv_at hl 2 rfl) ?_
  refine l_arg (k := 1) (pc2 := 939) C hS hl hi (by omega) ea1 dL_law_935 dL_law_936 (fun h => lv_iconst (v := jI 1) hx hb dL_law_938 rfl h) dL_law_939 dL_law_940 ?_
  refine l_arg (k := 2) (pc2 := 945) C hS hl hi (by omega) ea2 dL_law_941 dL_law_942 (fun h => lv_iconst (v := jI 2) hx hb dL_law_944 rfl h) dL_law_945 dL_law_946 ?_
  obtain ⟨h0, h40, h100, hFx, hOw, hN, hLn, hR, hCI, hRv, hMI⟩ := id hI3
  have hc40 : cnt 40 = 1 := hFx.at 40 1 (by decide)
  refine gos_l (run_V (k := 40) (i := 0) (As := [.int (jI a1), .int (jI a2)]) (rest := []) hx hb hml hown hts (c_X9_at l D tc s.heap.size ad cnt X1 Y ln hR hFx hMI a1 a2 ga1 ga2) (cwV 2 hts gT_X9_at rfl rfl rfl (by first | exact hd_X9_at | decide +kernel) ⟨Nat.le_of_ble_eq_true rfl, Nat.le_of_ble_eq_true rfl⟩) hK hw (by first | exact Int.le_refl 0 | omega) (by first | exact zlt hc40 | omega) sl_40_0 rfl rfl hl.1 (by rw [h40]; rfl) (Nat.le_of_ble_eq_true rfl) dL_law_947 ⟨by show _ ≤ (601024 : Nat); omega, by show _ ≤ (7293034 : Nat); omega⟩) hS (fun z4 u5 H locs p6 hw hS => ?_)
  obtain ⟨X7, rfl, hRX7, hFX7, hMX7, hzX7, pX7⟩ := p6
  have hI8 : LI0 q0 q1 q2 ad cnt X7 Y ln := LI0.mdl hI3 hRX7 hFX7 hMX7 (by decide)
  refine lv_lstore (lv' := (6, .long (jL z4)) :: (5, .int (jI z2)) :: LV b q0 q1 q2 i) hx hb dL_law_950 hl5 (by decide) rfl (fun ls hl6 => ?_)
  have hl : lv_has ls 8 (LV b q0 q1 q2 i) := lv_sub hl6 [2, 3, 4, 5, 6] rfl
  have hRC : RC cnt X7 Y ln := RC.two hRC0 hFX1 hFX7 (by decide) (by decide) (by decide) (by decide)
  refine lv_goto (tgt := 1370) hx hb dL_law_952 (by decide) ?_
  exact hg _ _ _ _ _ H locs ls _ _ ⟨hI8, hRC⟩ hw hS hl (by omega) (by omega)

