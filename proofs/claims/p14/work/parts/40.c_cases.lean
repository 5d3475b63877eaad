set_option maxHeartbeats 4000000 in
set_option maxRecDepth 100000 in
theorem law_c14 {p : Program} {l : Launch} {e : Env} {s : State} {m : MethodId} {below : List Frame} {meth : Method} {c : Code} {b L : Nat} {xs : Nat → Int32} {D : va_G} {tc : Nat → ClassId} {Q : State → Prop} {q0 q1 q2 cB sB : Nat} {i : Int} (C : LK p l s m c b L xs D tc) (hi : 0 ≤ i ∧ i + 7 ≤ L) (hcB : cB + 310 ≤ 601024) (hsB : sB + 2110 ≤ 7293034) (hg : LAt p l e s m below meth c b D tc q0 q1 q2 i Q 1343 (cB + 310) (sB + 2110)) : LAt p l e s m below meth c b D tc q0 q1 q2 i Q 955 cB sB := by
  obtain ⟨hx, hb, hml, hown, hts, hX, hbl, hK, hT, hlT, hL⟩ := id C
  intro ad cnt X Y ln H locs ls cl sl hI hw hS hl hcl hsl
  obtain ⟨hI0, hRC0⟩ := id hI
  obtain ⟨i0, i40, i100, iFx, iOw, iN, iLn, iR, iCI, iRv, iMI⟩ := id hI0
  refine lv_aload_n hx hb dL_law_955 rfl (lv_at hl 1 rfl) ?_
  obtain ⟨a1, ea1, ga1⟩ := sc_at xs i 1
  refine l_arg (k := 1) (pc2 := 960) C hS hl hi (by omega) ea1 dL_law_956 dL_law_957 (fun h => lv_iconst (v := jI 1) hx hb dL_law_959 rfl h) dL_law_960 dL_law_961 ?_
  obtain ⟨a2, ea2, ga2⟩ := sc_at xs i 2
  refine l_arg (k := 2) (pc2 := 966) C hS hl hi (by omega) ea2 dL_law_962 dL_law_963 (fun h => lv_iconst (v := jI 2) hx hb dL_law_965 rfl h) dL_law_966 dL_law_967 ?_
  obtain ⟨a3, ea3, ga3⟩ := sc_at xs i 3
  refine l_arg (k := 3) (pc2 := 972) C hS hl hi (by omega) ea3 dL_law_968 dL_law_969 (fun h => lv_iconst (v := jI 3) hx hb dL_law_971 rfl h) dL_law_972 dL_law_973 ?_
  refine lv_aload_n hx hb dL_law_974 rfl (lv_at hl 3 rfl) ?_
  obtain ⟨h0, h40, h100, hFx, hOw, hN, hLn, hR, hCI, hRv, hMI⟩ := id hI0
  refine vx_calli (vx_runSX (As := [.ref (ad 0 0), .int (jI a1), .int (jI a2), .int (jI a3), .ref (ad 100 0)]) (rest := []) ⟨hx, hb, hml, hown, hts⟩ (c_L_itemAt l hlT D tc s.heap.size ad cnt X Y ln hR hFx hLn hCI a1 a2 a3 ga1 ga2 ga3) (vx_cwSW 5 hts gT_L_itemAt rfl rfl rfl (by decide +kernel) ⟨Nat.le_of_ble_eq_true rfl, Nat.le_of_ble_eq_true rfl⟩) ⟨PcT.blind, fun U hU hW => ⟨rfl, by rw [hU]; exact hw, hK.warm hW, by rw [hU]; exact hT.go hS hW⟩⟩ rfl rfl hl.1 (by rw [h0, h100]; rfl) (lv_room (Nat.le_of_ble_eq_true rfl)) dL_law_975 ⟨by show _ ≤ (601024 : Nat); omega, by show _ ≤ (7293034 : Nat); omega⟩) hS (fun q _ h => h) (fun q h => h) (fun q _ h => h) (fun E ce q9 u9 t H1 locs1 ht hvm hp hB hz hk1 hS1 hcell hv hcl => absurd hp id) (fun r9 u9 t9 H locs ht9 hvm9 hp9 hB9 hz9 hk9 hS => ?_)
  obtain ⟨z2, rfl, X1, rfl, hRX1, hFX1, hzX1⟩ := hp9
  rw [ht9] at hB9
  have hw := hB9
  have hI3 : LI0 q0 q1 q2 ad cnt X1 Y ln := LI0.cls hI0 hRX1 hFX1 (cinv_frm (M := [10000]) (N := []) hCI hFX1 Frm.rf (by decide) (by decide)) (by decide)
  refine lv_istore (lv' := (5, .int (jI z2)) :: LV b q0 q1 q2 i) hx hb dL_law_978 hl (by decide) rfl (fun ls hl => ?_)
  have hl : lv_has ls 8 (LV b q0 q1 q2 i) := lv_sub hl [1, 2, 3, 4, 5] rfl
  refine lv_aload_n hx hb dL_law_980 rfl (lv_at hl 2 rfl) ?_
  refine l_arg (k := 1) (pc2 := 985) C hS hl hi (by omega) ea1 dL_law_981 dL_law_982 (fun h => lv_iconst (v := jI 1) hx hb dL_law_984 rfl h) dL_law_985 dL_law_986 ?_
  refine l_arg (k := 2) (pc2 := 991) C hS hl hi (by omega) ea2 dL_law_987 dL_law_988 (fun h => lv_iconst (v := jI 2) hx hb dL_law_990 rfl h) dL_law_991 dL_law_992 ?_
  refine l_arg (k := 3) (pc2 := 997) C hS hl hi (by omega) ea3 dL_law_993 dL_law_994 (fun h => lv_iconst (v := jI 3) hx hb dL_law_996 rfl h) dL_law_997 dL_law_998 ?_
  obtain ⟨h0, h40, h100, hFx, hOw, hN, hLn, hR, hCI, hRv, hMI⟩ := id hI3
  have hc40 : cnt 40 = 1 := hFx.at 40 1 (by decide)
  refine gos_l (run_V (k := 40) (i := 0) (As := [.int (jI a1), .int (jI a2), .int (jI a3)]) (rest := []) hx hb hml hown hts (c_X9_itemAt l D tc s.heap.size ad cnt X1 Y ln hR hFx hMI a1 a2 a3 ga1 ga2 ga3) (cwV 3 hts gT_X9_itemAt rfl rfl rfl (by decide +kernel) ⟨Nat.le_of_ble_eq_true rfl, Nat.le_of_ble_eq_true rfl⟩) hK hw (by omega) (by omega) sl_40_0 rfl rfl hl.1 (by rw [h40]; rfl) (Nat.le_of_ble_eq_true rfl) dL_law_999 ⟨by show _ ≤ (601024 : Nat); omega, by show _ ≤ (7293034 : Nat); omega⟩) hS (fun z4 u5 H locs p6 hw hS => ?_)
  obtain ⟨X7, rfl, hRX7, hFX7, hMX7, hzX7, pX7⟩ := p6
  have hI8 : LI0 q0 q1 q2 ad cnt X7 Y ln := LI0.mdl hI3 hRX7 hFX7 hMX7 (by decide)
  refine lv_lstore (lv' := (6, .long (jL z4)) :: LV b q0 q1 q2 i) hx hb dL_law_1002 hl (by decide) rfl (fun ls hl => ?_)
  have hl : lv_has ls 8 (LV b q0 q1 q2 i) := lv_sub hl [1, 2, 3, 4, 5] rfl
  have hRC : RC cnt X7 Y ln := RC.two hRC0 hFX1 hFX7 (by decide) (by decide) (by decide) (by decide)
  refine lv_goto (tgt := 1343) hx hb dL_law_1004 (by decide) ?_
  exact hg _ _ _ _ _ H locs ls _ _ ⟨hI8, hRC⟩ hw hS hl (by omega) (by omega)

set_option maxHeartbeats 4000000 in
set_option maxRecDepth 100000 in
theorem law_c15 {p : Program} {l : Launch} {e : Env} {s : State} {m : MethodId} {below : List Frame} {meth : Method} {c : Code} {b L : Nat} {xs : Nat → Int32} {D : va_G} {tc : Nat → ClassId} {Q : State → Prop} {q0 q1 q2 cB sB : Nat} {i : Int} (C : LK p l s m c b L xs D tc) (hi : 0 ≤ i ∧ i + 7 ≤ L) (hcB : cB + 310 ≤ 601024) (hsB : sB + 2110 ≤ 7293034) (hg : LAt p l e s m below meth c b D tc q0 q1 q2 i Q 1343 (cB + 310) (sB + 2110)) : LAt p l e s m below meth c b D tc q0 q1 q2 i Q 1007 cB sB := by
  obtain ⟨hx, hb, hml, hown, hts, hX, hbl, hK, hT, hlT, hL⟩ := id C
  intro ad cnt X Y ln H locs ls cl sl hI hw hS hl hcl hsl
  obtain ⟨hI0, hRC0⟩ := id hI
  obtain ⟨i0, i40, i100, iFx, iOw, iN, iLn, iR, iCI, iRv, iMI⟩ := id hI0
  refine lv_aload_n hx hb dL_law_1007 rfl (lv_at hl 1 rfl) ?_
  obtain ⟨h0, h40, h100, hFx, hOw, hN, hLn, hR, hCI, hRv, hMI⟩ := id hI0
  have hc0 : cnt 0 = 1 := hFx.at 0 1 (by decide)
  refine gos_i (run_V (k := 0) (i := 0) (As := []) (rest := []) hx hb hml hown hts (c_X8_forget l D tc s.heap.size ad cnt X Y ln hR hFx hLn hCI) (cwV 0 hts gT_X8_forget rfl rfl rfl (by decide +kernel) ⟨Nat.le_of_ble_eq_true rfl, Nat.le_of_ble_eq_true rfl⟩) hK hw (by omega) (by omega) sl_0_0 rfl rfl hl.1 (by rw [h0]; rfl) (Nat.le_of_ble_eq_true rfl) dL_law_1008 ⟨by show _ ≤ (601024 : Nat); omega, by show _ ≤ (7293034 : Nat); omega⟩) hS (fun z1 u2 H locs p3 hw hS => ?_)
  obtain ⟨X4, rfl, hRX4, hFX4, hCX4, hzX4, pX4⟩ := p3
  have hI5 : LI0 q0 q1 q2 ad cnt X4 Y ln := LI0.cls hI0 hRX4 hFX4 hCX4 (by decide)
  refine lv_pop hx hb dL_law_1011 rfl ?_
  refine lv_aload_n hx hb dL_law_1012 rfl (lv_at hl 2 rfl) ?_
  obtain ⟨h0, h40, h100, hFx, hOw, hN, hLn, hR, hCI, hRv, hMI⟩ := id hI5
  have hc40 : cnt 40 = 1 := hFx.at 40 1 (by decide)
  refine gos_i (run_V (k := 40) (i := 0) (As := []) (rest := []) hx hb hml hown hts (c_X9_forget l D tc s.heap.size ad cnt X4 Y ln hR hFx hMI) (cwV 0 hts gT_X9_forget rfl rfl rfl (by decide +kernel) ⟨Nat.le_of_ble_eq_true rfl, Nat.le_of_ble_eq_true rfl⟩) hK hw (by omega) (by omega) sl_40_0 rfl rfl hl.1 (by rw [h40]; rfl) (Nat.le_of_ble_eq_true rfl) dL_law_1013 ⟨by show _ ≤ (601024 : Nat); omega, by show _ ≤ (7293034 : Nat); omega⟩) hS (fun z6 u7 H locs p8 hw hS => ?_)
  obtain ⟨X9, rfl, hRX9, hFX9, hMX9, hzX9, pX9⟩ := p8
  have hI10 : LI0 q0 q1 q2 ad cnt X9 Y ln := LI0.mdl hI5 hRX9 hFX9 hMX9 (by decide)
  refine lv_pop hx hb dL_law_1016 rfl ?_
  obtain ⟨hRC, hq9⟩ := J_forget hRC0 iMI iR hRX4 iLn iN hFX4 pX4 hFX9 hMX9 pX9
  refine lv_goto (tgt := 1343) hx hb dL_law_1017 (by decide) ?_
  exact hg _ _ _ _ _ H locs ls _ _ ⟨hI10, hRC⟩ hw hS hl (by omega) (by omega)

set_option maxHeartbeats 4000000 in
set_option maxRecDepth 100000 in
theorem law_c16 {p : Program} {l : Launch} {e : Env} {s : State} {m : MethodId} {below : List Frame} {meth : Method} {c : Code} {b L : Nat} {xs : Nat → Int32} {D : va_G} {tc : Nat → ClassId} {Q : State → Prop} {q0 q1 q2 cB sB : Nat} {i : Int} (C : LK p l s m c b L xs D tc) (hi : 0 ≤ i ∧ i + 7 ≤ L) (hcB : cB + 310 ≤ 601024) (hsB : sB + 2110 ≤ 7293034) (hg : LAt p l e s m below meth c b D tc q0 q1 q2 i Q 1343 (cB + 310) (sB + 2110)) : LAt p l e s m below meth c b D tc q0 q1 q2 i Q 1020 cB sB := by
  obtain ⟨hx, hb, hml, hown, hts, hX, hbl, hK, hT, hlT, hL⟩ := id C
  intro ad cnt X Y ln H locs ls cl sl hI hw hS hl hcl hsl
  obtain ⟨hI0, hRC0⟩ := id hI
  obtain ⟨i0, i40, i100, iFx, iOw, iN, iLn, iR, iCI, iRv, iMI⟩ := id hI0
  refine lv_aload_n hx hb dL_law_1020 rfl (lv_at hl 1 rfl) ?_
  obtain ⟨a1, ea1, ga1⟩ := sc_at xs i 1
  refine l_arg (k := 1) (pc2 := 1025) C hS hl hi (by omega) ea1 dL_law_1021 dL_law_1022 (fun h => lv_iconst (v := jI 1) hx hb dL_law_1024 rfl h) dL_law_1025 dL_law_1026 ?_
  obtain ⟨a2, ea2, ga2⟩ := sc_at xs i 2
  refine l_arg (k := 2) (pc2 := 1031) C hS hl hi (by omega) ea2 dL_law_1027 dL_law_1028 (fun h => lv_iconst (v := jI 2) hx hb dL_law_1030 rfl h) dL_law_1031 dL_law_1032 ?_
  obtain ⟨h0, h40, h100, hFx, hOw, hN, hLn, hR, hCI, hRv, hMI⟩ := id hI0
  have hc0 : cnt 0 = 1 := hFx.at 0 1 (by decide)
  refine gos_i (run_V (k := 0) (i := 0) (As := [.int (jI a1), .int (jI a2)]) (rest := []) hx hb hml hown hts (c_X8_told l D tc s.heap.size ad cnt X Y ln hR hFx hLn hCI a1 a2 ga1 ga2) (cwV 2 hts gT_X8_told rfl rfl rfl (by decide +kernel) ⟨Nat.le_of_ble_eq_true rfl, Nat.le_of_ble_eq_true rfl⟩) hK hw (by omega) (by omega) sl_0_0 rfl rfl hl.1 (by rw [h0]; rfl) (Nat.le_of_ble_eq_true rfl) dL_law_1033 ⟨by show _ ≤ (601024 : Nat); omega, by show _ ≤ (7293034 : Nat); omega⟩) hS (fun z1 u2 H locs p3 hw hS => ?_)
  obtain ⟨X4, rfl, hRX4, hFX4, hCX4, hzX4, pX4⟩ := p3
  have hI5 : LI0 q0 q1 q2 ad cnt X4 Y ln := LI0.cls hI0 hRX4 hFX4 hCX4 (by decide)
  refine lv_pop hx hb dL_law_1036 rfl ?_
  refine lv_aload_n hx hb dL_law_1037 rfl (lv_at hl 2 rfl) ?_
  refine l_arg (k := 1) (pc2 := 1042) C hS hl hi (by omega) ea1 dL_law_1038 dL_law_1039 (fun h => lv_iconst (v := jI 1) hx hb dL_law_1041 rfl h) dL_law_1042 dL_law_1043 ?_
  refine l_arg (k := 2) (pc2 := 1048) C hS hl hi (by omega) ea2 dL_law_1044 dL_law_1045 (fun h => lv_iconst (v := jI 2) hx hb dL_law_1047 rfl h) dL_law_1048 dL_law_1049 ?_
  obtain ⟨h0, h40, h100, hFx, hOw, hN, hLn, hR, hCI, hRv, hMI⟩ := id hI5
  have hc40 : cnt 40 = 1 := hFx.at 40 1 (by decide)
  refine gos_i (run_V (k := 40) (i := 0) (As := [.int (jI a1), .int (jI a2)]) (rest := []) hx hb hml hown hts (c_X9_told l D tc s.heap.size ad cnt X4 Y ln hR hFx hMI a1 a2 ga1 ga2) (cwV 2 hts gT_X9_told rfl rfl rfl (by decide +kernel) ⟨Nat.le_of_ble_eq_true rfl, Nat.le_of_ble_eq_true rfl⟩) hK hw (by omega) (by omega) sl_40_0 rfl rfl hl.1 (by rw [h40]; rfl) (Nat.le_of_ble_eq_true rfl) dL_law_1050 ⟨by show _ ≤ (601024 : Nat); omega, by show _ ≤ (7293034 : Nat); omega⟩) hS (fun z6 u7 H locs p8 hw hS => ?_)
  obtain ⟨X9, rfl, hRX9, hFX9, hMX9, hzX9, pX9⟩ := p8
  have hI10 : LI0 q0 q1 q2 ad cnt X9 Y ln := LI0.mdl hI5 hRX9 hFX9 hMX9 (by decide)
  refine lv_pop hx hb dL_law_1053 rfl ?_
  obtain ⟨hRC, hq9⟩ := J_told hRC0 iMI iR hRX4 iLn iN hFX4 pX4 hFX9 hMX9 pX9
  refine lv_goto (tgt := 1343) hx hb dL_law_1054 (by decide) ?_
  exact hg _ _ _ _ _ H locs ls _ _ ⟨hI10, hRC⟩ hw hS hl (by omega) (by omega)

set_option maxHeartbeats 4000000 in
set_option maxRecDepth 100000 in
theorem law_c17 {p : Program} {l : Launch} {e : Env} {s : State} {m : MethodId} {below : List Frame} {meth : Method} {c : Code} {b L : Nat} {xs : Nat → Int32} {D : va_G} {tc : Nat → ClassId} {Q : State → Prop} {q0 q1 q2 cB sB : Nat} {i : Int} (C : LK p l s m c b L xs D tc) (hi : 0 ≤ i ∧ i + 7 ≤ L) (hcB : cB + 310 ≤ 601024) (hsB : sB + 2110 ≤ 7293034) (hg : LAt p l e s m below meth c b D tc q0 q1 q2 i Q 1343 (cB + 310) (sB + 2110)) : LAt p l e s m below meth c b D tc q0 q1 q2 i Q 1057 cB sB := by
  obtain ⟨hx, hb, hml, hown, hts, hX, hbl, hK, hT, hlT, hL⟩ := id C
  intro ad cnt X Y ln H locs ls cl sl hI hw hS hl hcl hsl
  obtain ⟨hI0, hRC0⟩ := id hI
  obtain ⟨i0, i40, i100, iFx, iOw, iN, iLn, iR, iCI, iRv, iMI⟩ := id hI0
  refine lv_aload_n hx hb dL_law_1057 rfl (lv_at hl 1 rfl) ?_
  obtain ⟨a1, ea1, ga1⟩ := sc_at xs i 1
  refine l_arg (k := 1) (pc2 := 1062) C hS hl hi (by omega) ea1 dL_law_1058 dL_law_1059 (fun h => lv_iconst (v := jI 1) hx hb dL_law_1061 rfl h) dL_law_1062 dL_law_1063 ?_
  obtain ⟨h0, h40, h100, hFx, hOw, hN, hLn, hR, hCI, hRv, hMI⟩ := id hI0
  have hc0 : cnt 0 = 1 := hFx.at 0 1 (by decide)
  refine gos_i (run_V (k := 0) (i := 0) (As := [.int (jI a1)]) (rest := []) hx hb hml hown hts (c_X8_judge l D tc s.heap.size ad cnt X Y ln hR hFx hLn hCI a1 ga1) (cwV 1 hts gT_X8_judge rfl rfl rfl (by decide +kernel) ⟨Nat.le_of_ble_eq_true rfl, Nat.le_of_ble_eq_true rfl⟩) hK hw (by omega) (by omega) sl_0_0 rfl rfl hl.1 (by rw [h0]; rfl) (Nat.le_of_ble_eq_true rfl) dL_law_1064 ⟨by show _ ≤ (601024 : Nat); omega, by show _ ≤ (7293034 : Nat); omega⟩) hS (fun z1 u2 H locs p3 hw hS => ?_)
  obtain ⟨X4, rfl, hRX4, hFX4, hCX4, hzX4, pX4⟩ := p3
  have hI5 : LI0 q0 q1 q2 ad cnt X4 Y ln := LI0.cls hI0 hRX4 hFX4 hCX4 (by decide)
  refine lv_pop hx hb dL_law_1067 rfl ?_
  refine lv_aload_n hx hb dL_law_1068 rfl (lv_at hl 2 rfl) ?_
  refine l_arg (k := 1) (pc2 := 1073) C hS hl hi (by omega) ea1 dL_law_1069 dL_law_1070 (fun h => lv_iconst (v := jI 1) hx hb dL_law_1072 rfl h) dL_law_1073 dL_law_1074 ?_
  obtain ⟨h0, h40, h100, hFx, hOw, hN, hLn, hR, hCI, hRv, hMI⟩ := id hI5
  have hc40 : cnt 40 = 1 := hFx.at 40 1 (by decide)
  refine gos_i (run_V (k := 40) (i := 0) (As := [.int (jI a1)]) (rest := []) hx hb hml hown hts (c_X9_judge l D tc s.heap.size ad cnt X4 Y ln hR hFx hMI a1 ga1) (cwV 1 hts gT_X9_judge rfl rfl rfl (by decide +kernel) ⟨Nat.le_of_ble_eq_true rfl, Nat.le_of_ble_eq_true rfl⟩) hK hw (by omega) (by omega) sl_40_0 rfl rfl hl.1 (by rw [h40]; rfl) (Nat.le_of_ble_eq_true rfl) dL_law_1075 ⟨by show _ ≤ (601024 : Nat); omega, by show _ ≤ (7293034 : Nat); omega⟩) hS (fun z6 u7 H locs p8 hw hS => ?_)
  obtain ⟨X9, rfl, hRX9, hFX9, hMX9, hzX9, pX9⟩ := p8
  have hI10 : LI0 q0 q1 q2 ad cnt X9 Y ln := LI0.mdl hI5 hRX9 hFX9 hMX9 (by decide)
  refine lv_pop hx hb dL_law_1078 rfl ?_
  obtain ⟨hRC, hq9⟩ := J_judge hRC0 iMI iR hRX4 iLn iN hFX4 pX4 hFX9 hMX9 pX9 iCI
  refine lv_goto (tgt := 1343) hx hb dL_law_1079 (by decide) ?_
  exact hg _ _ _ _ _ H locs ls _ _ ⟨hI10, hRC⟩ hw hS hl (by omega) (by omega)

set_option maxHeartbeats 4000000 in
set_option maxRecDepth 100000 in
theorem law_c18 {p : Program} {l : Launch} {e : Env} {s : State} {m : MethodId} {below : List Frame} {meth : Method} {c : Code} {b L : Nat} {xs : Nat → Int32} {D : va_G} {tc : Nat → ClassId} {Q : State → Prop} {q0 q1 q2 cB sB : Nat} {i : Int} (C : LK p l s m c b L xs D tc) (hi : 0 ≤ i ∧ i + 7 ≤ L) (hcB : cB + 310 ≤ 601024) (hsB : sB + 2110 ≤ 7293034) (hg : LAt p l e s m below meth c b D tc q0 q1 q2 i Q 1343 (cB + 310) (sB + 2110)) : LAt p l e s m below meth c b D tc q0 q1 q2 i Q 1082 cB sB := by
  obtain ⟨hx, hb, hml, hown, hts, hX, hbl, hK, hT, hlT, hL⟩ := id C
  intro ad cnt X Y ln H locs ls cl sl hI hw hS hl hcl hsl
  obtain ⟨hI0, hRC0⟩ := id hI
  obtain ⟨i0, i40, i100, iFx, iOw, iN, iLn, iR, iCI, iRv, iMI⟩ := id hI0
  refine lv_aload_n hx hb dL_law_1082 rfl (lv_at hl 1 rfl) ?_
  obtain ⟨a1, ea1, ga1⟩ := sc_at xs i 1
  refine l_arg (k := 1) (pc2 := 1087) C hS hl hi (by omega) ea1 dL_law_1083 dL_law_1084 (fun h => lv_iconst (v := jI 1) hx hb dL_law_1086 rfl h) dL_law_1087 dL_law_1088 ?_
  obtain ⟨a2, ea2, ga2⟩ := sc_at xs i 2
  refine l_arg (k := 2) (pc2 := 1093) C hS hl hi (by omega) ea2 dL_law_1089 dL_law_1090 (fun h => lv_iconst (v := jI 2) hx hb dL_law_1092 rfl h) dL_law_1093 dL_law_1094 ?_
  obtain ⟨h0, h40, h100, hFx, hOw, hN, hLn, hR, hCI, hRv, hMI⟩ := id hI0
  have hc0 : cnt 0 = 1 := hFx.at 0 1 (by decide)
  refine gos_i (run_V (k := 0) (i := 0) (As := [.int (jI a1), .int (jI a2)]) (rest := []) hx hb hml hown hts (c_X8_save l D tc s.heap.size ad cnt X Y ln hR hFx hLn hCI hRv a1 a2 ga1 ga2) (cwV 2 hts gT_X8_save rfl rfl rfl (by decide +kernel) ⟨Nat.le_of_ble_eq_true rfl, Nat.le_of_ble_eq_true rfl⟩) hK hw (by omega) (by omega) sl_0_0 rfl rfl hl.1 (by rw [h0]; rfl) (Nat.le_of_ble_eq_true rfl) dL_law_1095 ⟨by show _ ≤ (601024 : Nat); omega, by show _ ≤ (7293034 : Nat); omega⟩) hS (fun z1 u2 H locs p3 hw hS => ?_)
  obtain ⟨X4, Y6, rfl, hRX4, hFX4, hHX4, hCX4, hzX4, pX4⟩ := p3
  have hVX4 := pX4.1
  have hI5 : LI0 q0 q1 q2 ad cnt X4 Y6 ln := LI0.clsR hI0 hRX4 hFX4 hCX4 hVX4 (by decide)
  refine lv_pop hx hb dL_law_1098 rfl ?_
  refine lv_aload_n hx hb dL_law_1099 rfl (lv_at hl 2 rfl) ?_
  refine l_arg (k := 1) (pc2 := 1104) C hS hl hi (by omega) ea1 dL_law_1100 dL_law_1101 (fun h => lv_iconst (v := jI 1) hx hb dL_law_1103 rfl h) dL_law_1104 dL_law_1105 ?_
  refine l_arg (k := 2) (pc2 := 1110) C hS hl hi (by omega) ea2 dL_law_1106 dL_law_1107 (fun h => lv_iconst (v := jI 2) hx hb dL_law_1109 rfl h) dL_law_1110 dL_law_1111 ?_
  obtain ⟨h0, h40, h100, hFx, hOw, hN, hLn, hR, hCI, hRv, hMI⟩ := id hI5
  have hc40 : cnt 40 = 1 := hFx.at 40 1 (by decide)
  refine gos_i (run_V (k := 40) (i := 0) (As := [.int (jI a1), .int (jI a2)]) (rest := []) hx hb hml hown hts (c_X9_save l D tc s.heap.size ad cnt X4 Y6 ln hR hFx hMI a1 a2 ga1 ga2) (cwV 2 hts gT_X9_save rfl rfl rfl (by decide +kernel) ⟨Nat.le_of_ble_eq_true rfl, Nat.le_of_ble_eq_true rfl⟩) hK hw (by omega) (by omega) sl_40_0 rfl rfl hl.1 (by rw [h40]; rfl) (Nat.le_of_ble_eq_true rfl) dL_law_1112 ⟨by show _ ≤ (601024 : Nat); omega, by show _ ≤ (7293034 : Nat); omega⟩) hS (fun z7 u8 H locs p9 hw hS => ?_)
  obtain ⟨X10, rfl, hRX10, hFX10, hMX10, hzX10, pX10⟩ := p9
  have hI11 : LI0 q0 q1 q2 ad cnt X10 Y6 ln := LI0.mdl hI5 hRX10 hFX10 hMX10 (by decide)
  refine lv_pop hx hb dL_law_1115 rfl ?_
  obtain ⟨hRC, hq9⟩ := J_save hRC0 iMI iR hRX4 iLn iN hFX4 hHX4 pX4 hFX10 hMX10 pX10 hRX10
  refine lv_goto (tgt := 1343) hx hb dL_law_1116 (by decide) ?_
  exact hg _ _ _ _ _ H locs ls _ _ ⟨hI11, hRC⟩ hw hS hl (by omega) (by omega)

set_option maxHeartbeats 4000000 in
set_option maxRecDepth 100000 in
theorem law_c19 {p : Program} {l : Launch} {e : Env} {s : State} {m : MethodId} {below : List Frame} {meth : Method} {c : Code} {b L : Nat} {xs : Nat → Int32} {D : va_G} {tc : Nat → ClassId} {Q : State → Prop} {q0 q1 q2 cB sB : Nat} {i : Int} (C : LK p l s m c b L xs D tc) (hi : 0 ≤ i ∧ i + 7 ≤ L) (hcB : cB + 310 ≤ 601024) (hsB : sB + 2110 ≤ 7293034) (hg : LAt p l e s m below meth c b D tc q0 q1 q2 i Q 1343 (cB + 310) (sB + 2110)) : LAt p l e s m below meth c b D tc q0 q1 q2 i Q 1119 cB sB := by
  obtain ⟨hx, hb, hml, hown, hts, hX, hbl, hK, hT, hlT, hL⟩ := id C
  intro ad cnt X Y ln H locs ls cl sl hI hw hS hl hcl hsl
  obtain ⟨hI0, hRC0⟩ := id hI
  obtain ⟨i0, i40, i100, iFx, iOw, iN, iLn, iR, iCI, iRv, iMI⟩ := id hI0
  refine lv_aload_n hx hb dL_law_1119 rfl (lv_at hl 1 rfl) ?_
  obtain ⟨a1, ea1, ga1⟩ := sc_at xs i 1
  refine l_arg (k := 1) (pc2 := 1124) C hS hl hi (by omega) ea1 dL_law_1120 dL_law_1121 (fun h => lv_iconst (v := jI 1) hx hb dL_law_1123 rfl h) dL_law_1124 dL_law_1125 ?_
  obtain ⟨a2, ea2, ga2⟩ := sc_at xs i 2
  refine l_arg (k := 2) (pc2 := 1130) C hS hl hi (by omega) ea2 dL_law_1126 dL_law_1127 (fun h => lv_iconst (v := jI 2) hx hb dL_law_1129 rfl h) dL_law_1130 dL_law_1131 ?_
  obtain ⟨h0, h40, h100, hFx, hOw, hN, hLn, hR, hCI, hRv, hMI⟩ := id hI0
  have hc0 : cnt 0 = 1 := hFx.at 0 1 (by decide)
  refine gos_i (run_V (k := 0) (i := 0) (As := [.int (jI a1), .int (jI a2)]) (rest := []) hx hb hml hown hts (c_X8_saved l D tc s.heap.size ad cnt X Y ln hR hFx hLn hCI a1 a2 ga1 ga2) (cwV 2 hts gT_X8_saved rfl rfl rfl (by decide +kernel) ⟨Nat.le_of_ble_eq_true rfl, Nat.le_of_ble_eq_true rfl⟩) hK hw (by omega) (by omega) sl_0_0 rfl rfl hl.1 (by rw [h0]; rfl) (Nat.le_of_ble_eq_true rfl) dL_law_1132 ⟨by show _ ≤ (601024 : Nat); omega, by show _ ≤ (7293034 : Nat); omega⟩) hS (fun z1 u2 H locs p3 hw hS => ?_)
  obtain ⟨X4, rfl, hRX4, hFX4, hCX4, hzX4, pX4⟩ := p3
  have hI5 : LI0 q0 q1 q2 ad cnt X4 Y ln := LI0.cls hI0 hRX4 hFX4 hCX4 (by decide)
  refine lv_pop hx hb dL_law_1135 rfl ?_
  refine lv_aload_n hx hb dL_law_1136 rfl (lv_at hl 2 rfl) ?_
  refine l_arg (k := 1) (pc2 := 1141) C hS hl hi (by omega) ea1 dL_law_1137 dL_law_1138 (fun h => lv_iconst (v := jI 1) hx hb dL_law_1140 rfl h) dL_law_1141 dL_law_1142 ?_
  refine l_arg (k := 2) (pc2 := 1147) C hS hl hi (by omega) ea2 dL_law_1143 dL_law_1144 (fun h => lv_iconst (v := jI 2) hx hb dL_law_1146 rfl h) dL_law_1147 dL_law_1148 ?_
  obtain ⟨h0, h40, h100, hFx, hOw, hN, hLn, hR, hCI, hRv, hMI⟩ := id hI5
  have hc40 : cnt 40 = 1 := hFx.at 40 1 (by decide)
  refine gos_i (run_V (k := 40) (i := 0) (As := [.int (jI a1), .int (jI a2)]) (rest := []) hx hb hml hown hts (c_X9_saved l D tc s.heap.size ad cnt X4 Y ln hR hFx hMI a1 a2 ga1 ga2) (cwV 2 hts gT_X9_saved rfl rfl rfl (by decide +kernel) ⟨Nat.le_of_ble_eq_true rfl, Nat.le_of_ble_eq_true rfl⟩) hK hw (by omega) (by omega) sl_40_0 rfl rfl hl.1 (by rw [h40]; rfl) (Nat.le_of_ble_eq_true rfl) dL_law_1149 ⟨by show _ ≤ (601024 : Nat); omega, by show _ ≤ (7293034 : Nat); omega⟩) hS (fun z6 u7 H locs p8 hw hS => ?_)
  obtain ⟨X9, rfl, hRX9, hFX9, hMX9, hzX9, pX9⟩ := p8
  have hI10 : LI0 q0 q1 q2 ad cnt X9 Y ln := LI0.mdl hI5 hRX9 hFX9 hMX9 (by decide)
  refine lv_pop hx hb dL_law_1152 rfl ?_
  obtain ⟨hRC, hq9⟩ := J_saved hRC0 iMI iR hRX4 iLn iN hFX4 pX4 hFX9 hMX9 pX9
  refine lv_goto (tgt := 1343) hx hb dL_law_1153 (by decide) ?_
  exact hg _ _ _ _ _ H locs ls _ _ ⟨hI10, hRC⟩ hw hS hl (by omega) (by omega)

set_option maxHeartbeats 4000000 in
set_option maxRecDepth 100000 in
theorem law_c20 {p : Program} {l : Launch} {e : Env} {s : State} {m : MethodId} {below : List Frame} {meth : Method} {c : Code} {b L : Nat} {xs : Nat → Int32} {D : va_G} {tc : Nat → ClassId} {Q : State → Prop} {q0 q1 q2 cB sB : Nat} {i : Int} (C : LK p l s m c b L xs D tc) (hi : 0 ≤ i ∧ i + 7 ≤ L) (hcB : cB + 310 ≤ 601024) (hsB : sB + 2110 ≤ 7293034) (hg : LAt p l e s m below meth c b D tc q0 q1 q2 i Q 1343 (cB + 310) (sB + 2110)) : LAt p l e s m below meth c b D tc q0 q1 q2 i Q 1156 cB sB := by
  obtain ⟨hx, hb, hml, hown, hts, hX, hbl, hK, hT, hlT, hL⟩ := id C
  intro ad cnt X Y ln H locs ls cl sl hI hw hS hl hcl hsl
  obtain ⟨hI0, hRC0⟩ := id hI
  obtain ⟨i0, i40, i100, iFx, iOw, iN, iLn, iR, iCI, iRv, iMI⟩ := id hI0
  refine lv_aload_n hx hb dL_law_1156 rfl (lv_at hl 1 rfl) ?_
  obtain ⟨a1, ea1, ga1⟩ := sc_at xs i 1
  refine l_arg (k := 1) (pc2 := 1161) C hS hl hi (by omega) ea1 dL_law_1157 dL_law_1158 (fun h => lv_iconst (v := jI 1) hx hb dL_law_1160 rfl h) dL_law_1161 dL_law_1162 ?_
  obtain ⟨a2, ea2, ga2⟩ := sc_at xs i 2
  refine l_arg (k := 2) (pc2 := 1167) C hS hl hi (by omega) ea2 dL_law_1163 dL_law_1164 (fun h => lv_iconst (v := jI 2) hx hb dL_law_1166 rfl h) dL_law_1167 dL_law_1168 ?_
  obtain ⟨h0, h40, h100, hFx, hOw, hN, hLn, hR, hCI, hRv, hMI⟩ := id hI0
  have hc0 : cnt 0 = 1 := hFx.at 0 1 (by decide)
  refine gos_i (run_V (k := 0) (i := 0) (As := [.int (jI a1), .int (jI a2)]) (rest := []) hx hb hml hown hts (c_X8_restore l D tc s.heap.size ad cnt X Y ln hR hFx hLn hCI hOw hN a1 a2 ga1 ga2 hRv) (cwV 2 hts gT_X8_restore rfl rfl rfl (by decide +kernel) ⟨Nat.le_of_ble_eq_true rfl, Nat.le_of_ble_eq_true rfl⟩) hK hw (by omega) (by omega) sl_0_0 rfl rfl hl.1 (by rw [h0]; rfl) (Nat.le_of_ble_eq_true rfl) dL_law_1169 ⟨by show _ ≤ (601024 : Nat); omega, by show _ ≤ (7293034 : Nat); omega⟩) hS (fun z1 u2 H locs p3 hw hS => ?_)
  obtain ⟨ad6, cnt7, X4, Y8, ln9, rfl, hEX4, hFxX4, hOwX4, hLnX4, hRX4, hFX4, hHX4, hCX4, hzX4, pX4⟩ := p3
  have hI5 : LI0 q0 q1 q2 ad6 cnt7 X4 Y8 ln9 := LI0.grow hI0 hEX4 hFxX4 hOwX4 hLnX4 hRX4 hFX4 hCX4 (by decide)
  refine lv_pop hx hb dL_law_1172 rfl ?_
  refine lv_aload_n hx hb dL_law_1173 rfl (lv_at hl 2 rfl) ?_
  refine l_arg (k := 1) (pc2 := 1178) C hS hl hi (by omega) ea1 dL_law_1174 dL_law_1175 (fun h => lv_iconst (v := jI 1) hx hb dL_law_1177 rfl h) dL_law_1178 dL_law_1179 ?_
  refine l_arg (k := 2) (pc2 := 1184) C hS hl hi (by omega) ea2 dL_law_1180 dL_law_1181 (fun h => lv_iconst (v := jI 2) hx hb dL_law_1183 rfl h) dL_law_1184 dL_law_1185 ?_
  obtain ⟨h0, h40, h100, hFx, hOw, hN, hLn, hR, hCI, hRv, hMI⟩ := id hI5
  have hc40 : cnt7 40 = 1 := hFx.at 40 1 (by decide)
  refine gos_i (run_V (k := 40) (i := 0) (As := [.int (jI a1), .int (jI a2)]) (rest := []) hx hb hml hown hts (c_X9_restore l D tc s.heap.size ad6 cnt7 X4 Y8 ln9 hR hFx hMI a1 a2 ga1 ga2) (cwV 2 hts gT_X9_restore rfl rfl rfl (by decide +kernel) ⟨Nat.le_of_ble_eq_true rfl, Nat.le_of_ble_eq_true rfl⟩) hK hw (by omega) (by omega) sl_40_0 rfl rfl hl.1 (by rw [h40]; rfl) (Nat.le_of_ble_eq_true rfl) dL_law_1186 ⟨by show _ ≤ (601024 : Nat); omega, by show _ ≤ (7293034 : Nat); omega⟩) hS (fun z10 u11 H locs p12 hw hS => ?_)
  obtain ⟨X13, rfl, hRX13, hFX13, hMX13, hzX13, pX13⟩ := p12
  have hI14 : LI0 q0 q1 q2 ad6 cnt7 X13 Y8 ln9 := LI0.mdl hI5 hRX13 hFX13 hMX13 (by decide)
  refine lv_pop hx hb dL_law_1189 rfl ?_
  obtain ⟨hRC, hq9⟩ := J_restore hRC0 iMI iR hRX4 iLn iN hFX4 hHX4 hEX4.2.1 hEX4.2.2 hLnX4 pX4 hFX13 hMX13 pX13 hRX13 iCI
  refine lv_goto (tgt := 1343) hx hb dL_law_1190 (by decide) ?_
  exact hg _ _ _ _ _ H locs ls _ _ ⟨hI14, hRC⟩ hw hS hl (by omega) (by omega)

