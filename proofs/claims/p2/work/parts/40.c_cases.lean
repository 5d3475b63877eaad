set_option maxHeartbeats 4000000 in
set_option maxRecDepth 100000 in
theorem law_c14 {p : Program} {l : Launch} {e : Env} {s : State} {m : MethodId} {below : List Frame} {meth : Method} {c : Code} {b L : Nat} {xs : Nat → Int32} {D : va_G} {tc : Nat → ClassId} {Q : State → Prop} {q0 q1 q2 cB sB : Nat} {i : Int} (C : LK p l s m c b L xs D tc) (hi : 0 ≤ i ∧ i + 7 ≤ L) (hcB : cB + 310 ≤ 601024) (hsB : sB + 2110 ≤ 7293034) (hg : LAt p l e s m below meth c b D tc q0 q1 q2 i Q 1343 (cB + 310) (sB + 2110)) : LAt p l e s m below meth c b D tc q0 q1 q2 i Q 955 cB sB := by
  obtain ⟨hx, hb, hml, hown, hts, hX, hbl, hK, hT, hlT, hL⟩ := id C
  intro ad cnt X Y ln H locs ls cl sl hI hw hS hl hcl hsl
  refine lv_aload_n hx hb dL_law_955 rfl (lv_at hl 1 rfl) ?_
  refine l_arg (k := 1) (pc2 := 960) C hS hl hi (by omega) dL_law_956 dL_law_957 (fun h => lv_iconst (v := jI 1) hx hb dL_law_959 rfl h) dL_law_960 dL_law_961 (fun a1 ga1 => ?_)
  refine l_arg (k := 2) (pc2 := 966) C hS hl hi (by omega) dL_law_962 dL_law_963 (fun h => lv_iconst (v := jI 2) hx hb dL_law_965 rfl h) dL_law_966 dL_law_967 (fun a2 ga2 => ?_)
  refine l_arg (k := 3) (pc2 := 972) C hS hl hi (by omega) dL_law_968 dL_law_969 (fun h => lv_iconst (v := jI 3) hx hb dL_law_971 rfl h) dL_law_972 dL_law_973 (fun a3 ga3 => ?_)
  refine lv_aload_n hx hb dL_law_974 rfl (lv_at hl 3 rfl) ?_
  obtain ⟨h0, h40, h100, hFx, hOw, hN, hLn, hR, hCI, hRv, hMI⟩ := id hI.1
  refine vx_calli (vx_runSX (As := [.ref (ad 0 0), .int (jI a1), .int (jI a2), .int (jI a3), .ref (ad 100 0)]) (rest := []) ⟨hx, hb, hml, hown, hts⟩ (c_L_itemAt l hlT D tc s.heap.size ad cnt X Y ln hR hFx hLn hCI a1 a2 a3 ga1 ga2 ga3) (vx_cwSW 5 hts gT_L_itemAt rfl rfl rfl (by decide +kernel) ⟨Nat.le_of_ble_eq_true rfl, Nat.le_of_ble_eq_true rfl⟩) ⟨PcT.blind, fun U hU hW => ⟨rfl, by rw [hU]; exact hw, hK.warm hW, by rw [hU]; exact hT.go hS hW⟩⟩ rfl rfl hl.1 (by rw [h0, h100]; rfl) (lv_room (Nat.le_of_ble_eq_true rfl)) dL_law_975 ⟨by show _ ≤ (601024 : Nat); omega, by show _ ≤ (7293034 : Nat); omega⟩) hS (fun q _ h => h) (fun q h => h) (fun q _ h => h) (fun E ce q9 u9 t H1 locs1 ht hvm hp hB hz hk1 hS1 hcell hv hcl => absurd hp id) (fun r9 u9 t9 H locs ht9 hvm9 hp9 hB9 hz9 hk9 hS => ?_)
  obtain ⟨z9, rfl, X4, rfl, hRX4, hFX4, hzX4⟩ := hp9
  rw [ht9] at hB9
  have hw := hB9
  have hI5 : LI q0 q1 q2 ad cnt X4 Y ln := ⟨LI0.cls hI.1 hRX4 hFX4 (cinv_frm (M := [10000]) (N := []) hCI hFX4 Frm.rf (by decide) (by decide)) (by decide), ty_c hI.2 hFX4 (by decide)⟩
  refine lv_istore (lv' := (5, .int (jI z9)) :: LV b q0 q1 q2 i) hx hb dL_law_978 hl (by decide) rfl (fun ls hl => ?_)
  have hl : lv_has ls 8 (LV b q0 q1 q2 i) := lv_sub hl [1, 2, 3, 4, 5] rfl
  refine lv_aload_n hx hb dL_law_980 rfl (lv_at hl 2 rfl) ?_
  refine l_arg (k := 1) (pc2 := 985) C hS hl hi (by omega) dL_law_981 dL_law_982 (fun h => lv_iconst (v := jI 1) hx hb dL_law_984 rfl h) dL_law_985 dL_law_986 (fun a6 ga6 => ?_)
  refine l_arg (k := 2) (pc2 := 991) C hS hl hi (by omega) dL_law_987 dL_law_988 (fun h => lv_iconst (v := jI 2) hx hb dL_law_990 rfl h) dL_law_991 dL_law_992 (fun a7 ga7 => ?_)
  refine l_arg (k := 3) (pc2 := 997) C hS hl hi (by omega) dL_law_993 dL_law_994 (fun h => lv_iconst (v := jI 3) hx hb dL_law_996 rfl h) dL_law_997 dL_law_998 (fun a8 ga8 => ?_)
  obtain ⟨h0, h40, h100, hFx, hOw, hN, hLn, hR, hCI, hRv, hMI⟩ := id hI5.1
  have hc40 : cnt 40 = 1 := hFx.at 40 1 (by decide)
  refine gos_l (run_V (k := 40) (i := 0) (As := [.int (jI a6), .int (jI a7), .int (jI a8)]) (rest := []) hx hb hml hown hts (c_X9_itemAt l D tc s.heap.size ad cnt X4 Y ln hR hFx hMI a6 a7 a8 ga6 ga7 ga8) (cwV 3 hts gT_X9_itemAt rfl rfl rfl (by decide +kernel) ⟨Nat.le_of_ble_eq_true rfl, Nat.le_of_ble_eq_true rfl⟩) hK hw (by omega) (by omega) sl_40_0 rfl rfl hl.1 (by rw [h40]; rfl) (Nat.le_of_ble_eq_true rfl) dL_law_999 ⟨by show _ ≤ (601024 : Nat); omega, by show _ ≤ (7293034 : Nat); omega⟩) hS (fun z9 u10 H locs p11 hw hS => ?_)
  obtain ⟨X12, rfl, hRX12, hFX12, hMX12, hzX12⟩ := p11
  have hI13 : LI0 q0 q1 q2 ad cnt X12 Y ln := LI0.mdl hI5.1 hRX12 hFX12 hMX12 (by decide)
  have hI14 : LI q0 q1 q2 ad cnt X12 Y ln := ⟨hI13, ty_c hI5.2 hFX12 (by decide)⟩
  refine lv_lstore (lv' := (6, .long (jL z9)) :: LV b q0 q1 q2 i) hx hb dL_law_1002 hl (by decide) rfl (fun ls hl => ?_)
  have hl : lv_has ls 8 (LV b q0 q1 q2 i) := lv_sub hl [1, 2, 3, 4, 5] rfl
  refine lv_goto (tgt := 1343) hx hb dL_law_1004 (by decide) ?_
  exact hg _ _ _ _ _ H locs ls _ _ hI14 hw hS hl (by omega) (by omega)

set_option maxHeartbeats 4000000 in
set_option maxRecDepth 100000 in
theorem law_c15 {p : Program} {l : Launch} {e : Env} {s : State} {m : MethodId} {below : List Frame} {meth : Method} {c : Code} {b L : Nat} {xs : Nat → Int32} {D : va_G} {tc : Nat → ClassId} {Q : State → Prop} {q0 q1 q2 cB sB : Nat} {i : Int} (C : LK p l s m c b L xs D tc) (hi : 0 ≤ i ∧ i + 7 ≤ L) (hcB : cB + 310 ≤ 601024) (hsB : sB + 2110 ≤ 7293034) (hg : LAt p l e s m below meth c b D tc q0 q1 q2 i Q 1343 (cB + 310) (sB + 2110)) : LAt p l e s m below meth c b D tc q0 q1 q2 i Q 1007 cB sB := by
  obtain ⟨hx, hb, hml, hown, hts, hX, hbl, hK, hT, hlT, hL⟩ := id C
  intro ad cnt X Y ln H locs ls cl sl hI hw hS hl hcl hsl
  refine lv_aload_n hx hb dL_law_1007 rfl (lv_at hl 1 rfl) ?_
  obtain ⟨h0, h40, h100, hFx, hOw, hN, hLn, hR, hCI, hRv, hMI⟩ := id hI.1
  have hc0 : cnt 0 = 1 := hFx.at 0 1 (by decide)
  refine gos_i (run_V (k := 0) (i := 0) (As := []) (rest := []) hx hb hml hown hts (c_X8_forget l D tc s.heap.size ad cnt X Y ln hR hFx hLn hCI) (cwV 0 hts gT_X8_forget rfl rfl rfl (by decide +kernel) ⟨Nat.le_of_ble_eq_true rfl, Nat.le_of_ble_eq_true rfl⟩) hK hw (by omega) (by omega) sl_0_0 rfl rfl hl.1 (by rw [h0]; rfl) (Nat.le_of_ble_eq_true rfl) dL_law_1008 ⟨by show _ ≤ (601024 : Nat); omega, by show _ ≤ (7293034 : Nat); omega⟩) hS (fun z1 u2 H locs p3 hw hS => ?_)
  obtain ⟨X4, rfl, hRX4, hFX4, hCX4, hzX4⟩ := p3
  have hI5 : LI0 q0 q1 q2 ad cnt X4 Y ln := LI0.cls hI.1 hRX4 hFX4 hCX4 (by decide)
  have hI6 : LI q0 q1 q2 ad cnt X4 Y ln := ⟨hI5, ty_c hI.2 hFX4 (by decide)⟩
  refine lv_pop hx hb dL_law_1011 rfl ?_
  refine lv_aload_n hx hb dL_law_1012 rfl (lv_at hl 2 rfl) ?_
  obtain ⟨h0, h40, h100, hFx, hOw, hN, hLn, hR, hCI, hRv, hMI⟩ := id hI6.1
  have hc40 : cnt 40 = 1 := hFx.at 40 1 (by decide)
  refine gos_i (run_V (k := 40) (i := 0) (As := []) (rest := []) hx hb hml hown hts (c_X9_forget l D tc s.heap.size ad cnt X4 Y ln hR hFx hMI) (cwV 0 hts gT_X9_forget rfl rfl rfl (by decide +kernel) ⟨Nat.le_of_ble_eq_true rfl, Nat.le_of_ble_eq_true rfl⟩) hK hw (by omega) (by omega) sl_40_0 rfl rfl hl.1 (by rw [h40]; rfl) (Nat.le_of_ble_eq_true rfl) dL_law_1013 ⟨by show _ ≤ (601024 : Nat); omega, by show _ ≤ (7293034 : Nat); omega⟩) hS (fun z7 u8 H locs p9 hw hS => ?_)
  obtain ⟨X10, rfl, hRX10, hFX10, hMX10, hzX10⟩ := p9
  have hI11 : LI0 q0 q1 q2 ad cnt X10 Y ln := LI0.mdl hI6.1 hRX10 hFX10 hMX10 (by decide)
  have hI12 : LI q0 q1 q2 ad cnt X10 Y ln := ⟨hI11, ty_c hI6.2 hFX10 (by decide)⟩
  refine lv_pop hx hb dL_law_1016 rfl ?_
  refine lv_goto (tgt := 1343) hx hb dL_law_1017 (by decide) ?_
  exact hg _ _ _ _ _ H locs ls _ _ hI12 hw hS hl (by omega) (by omega)

set_option maxHeartbeats 4000000 in
set_option maxRecDepth 100000 in
theorem law_c16 {p : Program} {l : Launch} {e : Env} {s : State} {m : MethodId} {below : List Frame} {meth : Method} {c : Code} {b L : Nat} {xs : Nat → Int32} {D : va_G} {tc : Nat → ClassId} {Q : State → Prop} {q0 q1 q2 cB sB : Nat} {i : Int} (C : LK p l s m c b L xs D tc) (hi : 0 ≤ i ∧ i + 7 ≤ L) (hcB : cB + 310 ≤ 601024) (hsB : sB + 2110 ≤ 7293034) (hg : LAt p l e s m below meth c b D tc q0 q1 q2 i Q 1343 (cB + 310) (sB + 2110)) : LAt p l e s m below meth c b D tc q0 q1 q2 i Q 1020 cB sB := by
  obtain ⟨hx, hb, hml, hown, hts, hX, hbl, hK, hT, hlT, hL⟩ := id C
  intro ad cnt X Y ln H locs ls cl sl hI hw hS hl hcl hsl
  refine lv_aload_n hx hb dL_law_1020 rfl (lv_at hl 1 rfl) ?_
  refine l_arg (k := 1) (pc2 := 1025) C hS hl hi (by omega) dL_law_1021 dL_law_1022 (fun h => lv_iconst (v := jI 1) hx hb dL_law_1024 rfl h) dL_law_1025 dL_law_1026 (fun a1 ga1 => ?_)
  refine l_arg (k := 2) (pc2 := 1031) C hS hl hi (by omega) dL_law_1027 dL_law_1028 (fun h => lv_iconst (v := jI 2) hx hb dL_law_1030 rfl h) dL_law_1031 dL_law_1032 (fun a2 ga2 => ?_)
  obtain ⟨h0, h40, h100, hFx, hOw, hN, hLn, hR, hCI, hRv, hMI⟩ := id hI.1
  have hc0 : cnt 0 = 1 := hFx.at 0 1 (by decide)
  refine gos_i (run_V (k := 0) (i := 0) (As := [.int (jI a1), .int (jI a2)]) (rest := []) hx hb hml hown hts (c_X8_told l D tc s.heap.size ad cnt X Y ln hR hFx hLn hCI a1 a2 ga1 ga2) (cwV 2 hts gT_X8_told rfl rfl rfl (by decide +kernel) ⟨Nat.le_of_ble_eq_true rfl, Nat.le_of_ble_eq_true rfl⟩) hK hw (by omega) (by omega) sl_0_0 rfl rfl hl.1 (by rw [h0]; rfl) (Nat.le_of_ble_eq_true rfl) dL_law_1033 ⟨by show _ ≤ (601024 : Nat); omega, by show _ ≤ (7293034 : Nat); omega⟩) hS (fun z3 u4 H locs p5 hw hS => ?_)
  obtain ⟨X6, rfl, hRX6, hFX6, hCX6, hzX6⟩ := p5
  have hI7 : LI0 q0 q1 q2 ad cnt X6 Y ln := LI0.cls hI.1 hRX6 hFX6 hCX6 (by decide)
  have hI8 : LI q0 q1 q2 ad cnt X6 Y ln := ⟨hI7, ty_c hI.2 hFX6 (by decide)⟩
  refine lv_pop hx hb dL_law_1036 rfl ?_
  refine lv_aload_n hx hb dL_law_1037 rfl (lv_at hl 2 rfl) ?_
  refine l_arg (k := 1) (pc2 := 1042) C hS hl hi (by omega) dL_law_1038 dL_law_1039 (fun h => lv_iconst (v := jI 1) hx hb dL_law_1041 rfl h) dL_law_1042 dL_law_1043 (fun a9 ga9 => ?_)
  refine l_arg (k := 2) (pc2 := 1048) C hS hl hi (by omega) dL_law_1044 dL_law_1045 (fun h => lv_iconst (v := jI 2) hx hb dL_law_1047 rfl h) dL_law_1048 dL_law_1049 (fun a10 ga10 => ?_)
  obtain ⟨h0, h40, h100, hFx, hOw, hN, hLn, hR, hCI, hRv, hMI⟩ := id hI8.1
  have hc40 : cnt 40 = 1 := hFx.at 40 1 (by decide)
  refine gos_i (run_V (k := 40) (i := 0) (As := [.int (jI a9), .int (jI a10)]) (rest := []) hx hb hml hown hts (c_X9_told l D tc s.heap.size ad cnt X6 Y ln hR hFx hMI a9 a10 ga9 ga10) (cwV 2 hts gT_X9_told rfl rfl rfl (by decide +kernel) ⟨Nat.le_of_ble_eq_true rfl, Nat.le_of_ble_eq_true rfl⟩) hK hw (by omega) (by omega) sl_40_0 rfl rfl hl.1 (by rw [h40]; rfl) (Nat.le_of_ble_eq_true rfl) dL_law_1050 ⟨by show _ ≤ (601024 : Nat); omega, by show _ ≤ (7293034 : Nat); omega⟩) hS (fun z11 u12 H locs p13 hw hS => ?_)
  obtain ⟨X14, rfl, hRX14, hFX14, hMX14, hzX14⟩ := p13
  have hI15 : LI0 q0 q1 q2 ad cnt X14 Y ln := LI0.mdl hI8.1 hRX14 hFX14 hMX14 (by decide)
  have hI16 : LI q0 q1 q2 ad cnt X14 Y ln := ⟨hI15, ty_c hI8.2 hFX14 (by decide)⟩
  refine lv_pop hx hb dL_law_1053 rfl ?_
  refine lv_goto (tgt := 1343) hx hb dL_law_1054 (by decide) ?_
  exact hg _ _ _ _ _ H locs ls _ _ hI16 hw hS hl (by omega) (by omega)

set_option maxHeartbeats 4000000 in
set_option maxRecDepth 100000 in
theorem law_c17 {p : Program} {l : Launch} {e : Env} {s : State} {m : MethodId} {below : List Frame} {meth : Method} {c : Code} {b L : Nat} {xs : Nat → Int32} {D : va_G} {tc : Nat → ClassId} {Q : State → Prop} {q0 q1 q2 cB sB : Nat} {i : Int} (C : LK p l s m c b L xs D tc) (hi : 0 ≤ i ∧ i + 7 ≤ L) (hcB : cB + 310 ≤ 601024) (hsB : sB + 2110 ≤ 7293034) (hg : LAt p l e s m below meth c b D tc q0 q1 q2 i Q 1343 (cB + 310) (sB + 2110)) : LAt p l e s m below meth c b D tc q0 q1 q2 i Q 1057 cB sB := by
  obtain ⟨hx, hb, hml, hown, hts, hX, hbl, hK, hT, hlT, hL⟩ := id C
  intro ad cnt X Y ln H locs ls cl sl hI hw hS hl hcl hsl
  refine lv_aload_n hx hb dL_law_1057 rfl (lv_at hl 1 rfl) ?_
  refine l_arg (k := 1) (pc2 := 1062) C hS hl hi (by omega) dL_law_1058 dL_law_1059 (fun h => lv_iconst (v := jI 1) hx hb dL_law_1061 rfl h) dL_law_1062 dL_law_1063 (fun a1 ga1 => ?_)
  obtain ⟨h0, h40, h100, hFx, hOw, hN, hLn, hR, hCI, hRv, hMI⟩ := id hI.1
  have hc0 : cnt 0 = 1 := hFx.at 0 1 (by decide)
  refine gos_i (run_V (k := 0) (i := 0) (As := [.int (jI a1)]) (rest := []) hx hb hml hown hts (c_X8_judge l D tc s.heap.size ad cnt X Y ln hR hFx hLn hCI a1 ga1) (cwV 1 hts gT_X8_judge rfl rfl rfl (by decide +kernel) ⟨Nat.le_of_ble_eq_true rfl, Nat.le_of_ble_eq_true rfl⟩) hK hw (by omega) (by omega) sl_0_0 rfl rfl hl.1 (by rw [h0]; rfl) (Nat.le_of_ble_eq_true rfl) dL_law_1064 ⟨by show _ ≤ (601024 : Nat); omega, by show _ ≤ (7293034 : Nat); omega⟩) hS (fun z2 u3 H locs p4 hw hS => ?_)
  obtain ⟨X5, rfl, hRX5, hFX5, hCX5, hzX5⟩ := p4
  have hI6 : LI0 q0 q1 q2 ad cnt X5 Y ln := LI0.cls hI.1 hRX5 hFX5 hCX5 (by decide)
  have hI7 : LI q0 q1 q2 ad cnt X5 Y ln := ⟨hI6, ty_c hI.2 hFX5 (by decide)⟩
  refine lv_pop hx hb dL_law_1067 rfl ?_
  refine lv_aload_n hx hb dL_law_1068 rfl (lv_at hl 2 rfl) ?_
  refine l_arg (k := 1) (pc2 := 1073) C hS hl hi (by omega) dL_law_1069 dL_law_1070 (fun h => lv_iconst (v := jI 1) hx hb dL_law_1072 rfl h) dL_law_1073 dL_law_1074 (fun a8 ga8 => ?_)
  obtain ⟨h0, h40, h100, hFx, hOw, hN, hLn, hR, hCI, hRv, hMI⟩ := id hI7.1
  have hc40 : cnt 40 = 1 := hFx.at 40 1 (by decide)
  refine gos_i (run_V (k := 40) (i := 0) (As := [.int (jI a8)]) (rest := []) hx hb hml hown hts (c_X9_judge l D tc s.heap.size ad cnt X5 Y ln hR hFx hMI a8 ga8) (cwV 1 hts gT_X9_judge rfl rfl rfl (by decide +kernel) ⟨Nat.le_of_ble_eq_true rfl, Nat.le_of_ble_eq_true rfl⟩) hK hw (by omega) (by omega) sl_40_0 rfl rfl hl.1 (by rw [h40]; rfl) (Nat.le_of_ble_eq_true rfl) dL_law_1075 ⟨by show _ ≤ (601024 : Nat); omega, by show _ ≤ (7293034 : Nat); omega⟩) hS (fun z9 u10 H locs p11 hw hS => ?_)
  obtain ⟨X12, rfl, hRX12, hFX12, hMX12, hzX12⟩ := p11
  have hI13 : LI0 q0 q1 q2 ad cnt X12 Y ln := LI0.mdl hI7.1 hRX12 hFX12 hMX12 (by decide)
  have hI14 : LI q0 q1 q2 ad cnt X12 Y ln := ⟨hI13, ty_c hI7.2 hFX12 (by decide)⟩
  refine lv_pop hx hb dL_law_1078 rfl ?_
  refine lv_goto (tgt := 1343) hx hb dL_law_1079 (by decide) ?_
  exact hg _ _ _ _ _ H locs ls _ _ hI14 hw hS hl (by omega) (by omega)

set_option maxHeartbeats 4000000 in
set_option maxRecDepth 100000 in
theorem law_c18 {p : Program} {l : Launch} {e : Env} {s : State} {m : MethodId} {below : List Frame} {meth : Method} {c : Code} {b L : Nat} {xs : Nat → Int32} {D : va_G} {tc : Nat → ClassId} {Q : State → Prop} {q0 q1 q2 cB sB : Nat} {i : Int} (C : LK p l s m c b L xs D tc) (hi : 0 ≤ i ∧ i + 7 ≤ L) (hcB : cB + 310 ≤ 601024) (hsB : sB + 2110 ≤ 7293034) (hg : LAt p l e s m below meth c b D tc q0 q1 q2 i Q 1343 (cB + 310) (sB + 2110)) : LAt p l e s m below meth c b D tc q0 q1 q2 i Q 1082 cB sB := by
  obtain ⟨hx, hb, hml, hown, hts, hX, hbl, hK, hT, hlT, hL⟩ := id C
  intro ad cnt X Y ln H locs ls cl sl hI hw hS hl hcl hsl
  refine lv_aload_n hx hb dL_law_1082 rfl (lv_at hl 1 rfl) ?_
  refine l_arg (k := 1) (pc2 := 1087) C hS hl hi (by omega) dL_law_1083 dL_law_1084 (fun h => lv_iconst (v := jI 1) hx hb dL_law_1086 rfl h) dL_law_1087 dL_law_1088 (fun a1 ga1 => ?_)
  refine l_arg (k := 2) (pc2 := 1093) C hS hl hi (by omega) dL_law_1089 dL_law_1090 (fun h => lv_iconst (v := jI 2) hx hb dL_law_1092 rfl h) dL_law_1093 dL_law_1094 (fun a2 ga2 => ?_)
  obtain ⟨h0, h40, h100, hFx, hOw, hN, hLn, hR, hCI, hRv, hMI⟩ := id hI.1
  have hc0 : cnt 0 = 1 := hFx.at 0 1 (by decide)
  refine gos_i (run_V (k := 0) (i := 0) (As := [.int (jI a1), .int (jI a2)]) (rest := []) hx hb hml hown hts (c_X8_save l D tc s.heap.size ad cnt X Y ln hR hFx hLn hCI hRv a1 a2 ga1 ga2) (cwV 2 hts gT_X8_save rfl rfl rfl (by decide +kernel) ⟨Nat.le_of_ble_eq_true rfl, Nat.le_of_ble_eq_true rfl⟩) hK hw (by omega) (by omega) sl_0_0 rfl rfl hl.1 (by rw [h0]; rfl) (Nat.le_of_ble_eq_true rfl) dL_law_1095 ⟨by show _ ≤ (601024 : Nat); omega, by show _ ≤ (7293034 : Nat); omega⟩) hS (fun z3 u4 H locs p5 hw hS => ?_)
  obtain ⟨X6, Y8, rfl, hRX6, hFX6, hHX6, hCX6, hzX6, hVX6⟩ := p5
  have hI7 : LI0 q0 q1 q2 ad cnt X6 Y8 ln := LI0.clsR hI.1 hRX6 hFX6 hCX6 hVX6 (by decide)
  have hI9 : LI q0 q1 q2 ad cnt X6 Y8 ln := ⟨hI7, ty_c hI.2 hFX6 (by decide)⟩
  refine lv_pop hx hb dL_law_1098 rfl ?_
  refine lv_aload_n hx hb dL_law_1099 rfl (lv_at hl 2 rfl) ?_
  refine l_arg (k := 1) (pc2 := 1104) C hS hl hi (by omega) dL_law_1100 dL_law_1101 (fun h => lv_iconst (v := jI 1) hx hb dL_law_1103 rfl h) dL_law_1104 dL_law_1105 (fun a10 ga10 => ?_)
  refine l_arg (k := 2) (pc2 := 1110) C hS hl hi (by omega) dL_law_1106 dL_law_1107 (fun h => lv_iconst (v := jI 2) hx hb dL_law_1109 rfl h) dL_law_1110 dL_law_1111 (fun a11 ga11 => ?_)
  obtain ⟨h0, h40, h100, hFx, hOw, hN, hLn, hR, hCI, hRv, hMI⟩ := id hI9.1
  have hc40 : cnt 40 = 1 := hFx.at 40 1 (by decide)
  refine gos_i (run_V (k := 40) (i := 0) (As := [.int (jI a10), .int (jI a11)]) (rest := []) hx hb hml hown hts (c_X9_save l D tc s.heap.size ad cnt X6 Y8 ln hR hFx hMI a10 a11 ga10 ga11) (cwV 2 hts gT_X9_save rfl rfl rfl (by decide +kernel) ⟨Nat.le_of_ble_eq_true rfl, Nat.le_of_ble_eq_true rfl⟩) hK hw (by omega) (by omega) sl_40_0 rfl rfl hl.1 (by rw [h40]; rfl) (Nat.le_of_ble_eq_true rfl) dL_law_1112 ⟨by show _ ≤ (601024 : Nat); omega, by show _ ≤ (7293034 : Nat); omega⟩) hS (fun z12 u13 H locs p14 hw hS => ?_)
  obtain ⟨X15, rfl, hRX15, hFX15, hMX15, hzX15⟩ := p14
  have hI16 : LI0 q0 q1 q2 ad cnt X15 Y8 ln := LI0.mdl hI9.1 hRX15 hFX15 hMX15 (by decide)
  have hI17 : LI q0 q1 q2 ad cnt X15 Y8 ln := ⟨hI16, ty_c hI9.2 hFX15 (by decide)⟩
  refine lv_pop hx hb dL_law_1115 rfl ?_
  refine lv_goto (tgt := 1343) hx hb dL_law_1116 (by decide) ?_
  exact hg _ _ _ _ _ H locs ls _ _ hI17 hw hS hl (by omega) (by omega)

set_option maxHeartbeats 4000000 in
set_option maxRecDepth 100000 in
theorem law_c19 {p : Program} {l : Launch} {e : Env} {s : State} {m : MethodId} {below : List Frame} {meth : Method} {c : Code} {b L : Nat} {xs : Nat → Int32} {D : va_G} {tc : Nat → ClassId} {Q : State → Prop} {q0 q1 q2 cB sB : Nat} {i : Int} (C : LK p l s m c b L xs D tc) (hi : 0 ≤ i ∧ i + 7 ≤ L) (hcB : cB + 310 ≤ 601024) (hsB : sB + 2110 ≤ 7293034) (hg : LAt p l e s m below meth c b D tc q0 q1 q2 i Q 1343 (cB + 310) (sB + 2110)) : LAt p l e s m below meth c b D tc q0 q1 q2 i Q 1119 cB sB := by
  obtain ⟨hx, hb, hml, hown, hts, hX, hbl, hK, hT, hlT, hL⟩ := id C
  intro ad cnt X Y ln H locs ls cl sl hI hw hS hl hcl hsl
  refine lv_aload_n hx hb dL_law_1119 rfl (lv_at hl 1 rfl) ?_
  refine l_arg (k := 1) (pc2 := 1124) C hS hl hi (by omega) dL_law_1120 dL_law_1121 (fun h => lv_iconst (v := jI 1) hx hb dL_law_1123 rfl h) dL_law_1124 dL_law_1125 (fun a1 ga1 => ?_)
  refine l_arg (k := 2) (pc2 := 1130) C hS hl hi (by omega) dL_law_1126 dL_law_1127 (fun h => lv_iconst (v := jI 2) hx hb dL_law_1129 rfl h) dL_law_1130 dL_law_1131 (fun a2 ga2 => ?_)
  obtain ⟨h0, h40, h100, hFx, hOw, hN, hLn, hR, hCI, hRv, hMI⟩ := id hI.1
  have hc0 : cnt 0 = 1 := hFx.at 0 1 (by decide)
  refine gos_i (run_V (k := 0) (i := 0) (As := [.int (jI a1), .int (jI a2)]) (rest := []) hx hb hml hown hts (c_X8_saved l D tc s.heap.size ad cnt X Y ln hR hFx hLn hCI a1 a2 ga1 ga2) (cwV 2 hts gT_X8_saved rfl rfl rfl (by decide +kernel) ⟨Nat.le_of_ble_eq_true rfl, Nat.le_of_ble_eq_true rfl⟩) hK hw (by omega) (by omega) sl_0_0 rfl rfl hl.1 (by rw [h0]; rfl) (Nat.le_of_ble_eq_true rfl) dL_law_1132 ⟨by show _ ≤ (601024 : Nat); omega, by show _ ≤ (7293034 : Nat); omega⟩) hS (fun z3 u4 H locs p5 hw hS => ?_)
  obtain ⟨X6, rfl, hRX6, hFX6, hCX6, hzX6⟩ := p5
  have hI7 : LI0 q0 q1 q2 ad cnt X6 Y ln := LI0.cls hI.1 hRX6 hFX6 hCX6 (by decide)
  have hI8 : LI q0 q1 q2 ad cnt X6 Y ln := ⟨hI7, ty_c hI.2 hFX6 (by decide)⟩
  refine lv_pop hx hb dL_law_1135 rfl ?_
  refine lv_aload_n hx hb dL_law_1136 rfl (lv_at hl 2 rfl) ?_
  refine l_arg (k := 1) (pc2 := 1141) C hS hl hi (by omega) dL_law_1137 dL_law_1138 (fun h => lv_iconst (v := jI 1) hx hb dL_law_1140 rfl h) dL_law_1141 dL_law_1142 (fun a9 ga9 => ?_)
  refine l_arg (k := 2) (pc2 := 1147) C hS hl hi (by omega) dL_law_1143 dL_law_1144 (fun h => lv_iconst (v := jI 2) hx hb dL_law_1146 rfl h) dL_law_1147 dL_law_1148 (fun a10 ga10 => ?_)
  obtain ⟨h0, h40, h100, hFx, hOw, hN, hLn, hR, hCI, hRv, hMI⟩ := id hI8.1
  have hc40 : cnt 40 = 1 := hFx.at 40 1 (by decide)
  refine gos_i (run_V (k := 40) (i := 0) (As := [.int (jI a9), .int (jI a10)]) (rest := []) hx hb hml hown hts (c_X9_saved l D tc s.heap.size ad cnt X6 Y ln hR hFx hMI a9 a10 ga9 ga10) (cwV 2 hts gT_X9_saved rfl rfl rfl (by decide +kernel) ⟨Nat.le_of_ble_eq_true rfl, Nat.le_of_ble_eq_true rfl⟩) hK hw (by omega) (by omega) sl_40_0 rfl rfl hl.1 (by rw [h40]; rfl) (Nat.le_of_ble_eq_true rfl) dL_law_1149 ⟨by show _ ≤ (601024 : Nat); omega, by show _ ≤ (7293034 : Nat); omega⟩) hS (fun z11 u12 H locs p13 hw hS => ?_)
  obtain ⟨X14, rfl, hRX14, hFX14, hMX14, hzX14⟩ := p13
  have hI15 : LI0 q0 q1 q2 ad cnt X14 Y ln := LI0.mdl hI8.1 hRX14 hFX14 hMX14 (by decide)
  have hI16 : LI q0 q1 q2 ad cnt X14 Y ln := ⟨hI15, ty_c hI8.2 hFX14 (by decide)⟩
  refine lv_pop hx hb dL_law_1152 rfl ?_
  refine lv_goto (tgt := 1343) hx hb dL_law_1153 (by decide) ?_
  exact hg _ _ _ _ _ H locs ls _ _ hI16 hw hS hl (by omega) (by omega)

set_option maxHeartbeats 4000000 in
set_option maxRecDepth 100000 in
theorem law_c20 {p : Program} {l : Launch} {e : Env} {s : State} {m : MethodId} {below : List Frame} {meth : Method} {c : Code} {b L : Nat} {xs : Nat → Int32} {D : va_G} {tc : Nat → ClassId} {Q : State → Prop} {q0 q1 q2 cB sB : Nat} {i : Int} (C : LK p l s m c b L xs D tc) (hi : 0 ≤ i ∧ i + 7 ≤ L) (hcB : cB + 310 ≤ 601024) (hsB : sB + 2110 ≤ 7293034) (hg : LAt p l e s m below meth c b D tc q0 q1 q2 i Q 1343 (cB + 310) (sB + 2110)) : LAt p l e s m below meth c b D tc q0 q1 q2 i Q 1156 cB sB := by
  obtain ⟨hx, hb, hml, hown, hts, hX, hbl, hK, hT, hlT, hL⟩ := id C
  intro ad cnt X Y ln H locs ls cl sl hI hw hS hl hcl hsl
  refine lv_aload_n hx hb dL_law_1156 rfl (lv_at hl 1 rfl) ?_
  refine l_arg (k := 1) (pc2 := 1161) C hS hl hi (by omega) dL_law_1157 dL_law_1158 (fun h => lv_iconst (v := jI 1) hx hb dL_law_1160 rfl h) dL_law_1161 dL_law_1162 (fun a1 ga1 => ?_)
  refine l_arg (k := 2) (pc2 := 1167) C hS hl hi (by omega) dL_law_1163 dL_law_1164 (fun h => lv_iconst (v := jI 2) hx hb dL_law_1166 rfl h) dL_law_1167 dL_law_1168 (fun a2 ga2 => ?_)
  obtain ⟨h0, h40, h100, hFx, hOw, hN, hLn, hR, hCI, hRv, hMI⟩ := id hI.1
  have hc0 : cnt 0 = 1 := hFx.at 0 1 (by decide)
  refine gos_i (run_V (k := 0) (i := 0) (As := [.int (jI a1), .int (jI a2)]) (rest := []) hx hb hml hown hts (c_X8_restore l D tc s.heap.size ad cnt X Y ln hR hFx hLn hCI hOw hN a1 a2 ga1 ga2 hRv) (cwV 2 hts gT_X8_restore rfl rfl rfl (by decide +kernel) ⟨Nat.le_of_ble_eq_true rfl, Nat.le_of_ble_eq_true rfl⟩) hK hw (by omega) (by omega) sl_0_0 rfl rfl hl.1 (by rw [h0]; rfl) (Nat.le_of_ble_eq_true rfl) dL_law_1169 ⟨by show _ ≤ (601024 : Nat); omega, by show _ ≤ (7293034 : Nat); omega⟩) hS (fun z3 u4 H locs p5 hw hS => ?_)
  obtain ⟨ad8, cnt9, X6, Y10, ln11, rfl, hEX6, hFxX6, hOwX6, hLnX6, hRX6, hFX6, hHX6, hCX6, hzX6⟩ := p5
  have hI7 : LI0 q0 q1 q2 ad8 cnt9 X6 Y10 ln11 := LI0.grow hI.1 hEX6 hFxX6 hOwX6 hLnX6 hRX6 hFX6 hCX6 (by decide)
  have hI12 : LI q0 q1 q2 ad8 cnt9 X6 Y10 ln11 := ⟨hI7, ty_c hI.2 hFX6 (by decide)⟩
  refine lv_pop hx hb dL_law_1172 rfl ?_
  refine lv_aload_n hx hb dL_law_1173 rfl (lv_at hl 2 rfl) ?_
  refine l_arg (k := 1) (pc2 := 1178) C hS hl hi (by omega) dL_law_1174 dL_law_1175 (fun h => lv_iconst (v := jI 1) hx hb dL_law_1177 rfl h) dL_law_1178 dL_law_1179 (fun a13 ga13 => ?_)
  refine l_arg (k := 2) (pc2 := 1184) C hS hl hi (by omega) dL_law_1180 dL_law_1181 (fun h => lv_iconst (v := jI 2) hx hb dL_law_1183 rfl h) dL_law_1184 dL_law_1185 (fun a14 ga14 => ?_)
  obtain ⟨h0, h40, h100, hFx, hOw, hN, hLn, hR, hCI, hRv, hMI⟩ := id hI12.1
  have hc40 : cnt9 40 = 1 := hFx.at 40 1 (by decide)
  refine gos_i (run_V (k := 40) (i := 0) (As := [.int (jI a13), .int (jI a14)]) (rest := []) hx hb hml hown hts (c_X9_restore l D tc s.heap.size ad8 cnt9 X6 Y10 ln11 hR hFx hMI a13 a14 ga13 ga14) (cwV 2 hts gT_X9_restore rfl rfl rfl (by decide +kernel) ⟨Nat.le_of_ble_eq_true rfl, Nat.le_of_ble_eq_true rfl⟩) hK hw (by omega) (by omega) sl_40_0 rfl rfl hl.1 (by rw [h40]; rfl) (Nat.le_of_ble_eq_true rfl) dL_law_1186 ⟨by show _ ≤ (601024 : Nat); omega, by show _ ≤ (7293034 : Nat); omega⟩) hS (fun z15 u16 H locs p17 hw hS => ?_)
  obtain ⟨X18, rfl, hRX18, hFX18, hMX18, hzX18⟩ := p17
  have hI19 : LI0 q0 q1 q2 ad8 cnt9 X18 Y10 ln11 := LI0.mdl hI12.1 hRX18 hFX18 hMX18 (by decide)
  have hI20 : LI q0 q1 q2 ad8 cnt9 X18 Y10 ln11 := ⟨hI19, ty_c hI12.2 hFX18 (by decide)⟩
  refine lv_pop hx hb dL_law_1189 rfl ?_
  refine lv_goto (tgt := 1343) hx hb dL_law_1190 (by decide) ?_
  exact hg _ _ _ _ _ H locs ls _ _ hI20 hw hS hl (by omega) (by omega)

