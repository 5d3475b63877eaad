set_option maxHeartbeats 4000000 in
set_option maxRecDepth 100000 in
theorem law_c21 {p : Program} {l : Launch} {e : Env} {s : State} {m : MethodId} {below : List Frame} {meth : Method} {c : Code} {b L : Nat} {xs : Nat → Int32} {D : va_G} {tc : Nat → ClassId} {Q : State → Prop} {q0 q1 q2 cB sB : Nat} {i : Int} (C : LK p l s m c b L xs D tc) (hi : 0 ≤ i ∧ i + 7 ≤ L) (hcB : cB + 310 ≤ 601024) (hsB : sB + 2110 ≤ 7293034) (hg : LAt p l e s m below meth c b D tc q0 q1 q2 i Q 1343 (cB + 310) (sB + 2110)) : LAt p l e s m below meth c b D tc q0 q1 q2 i Q 1193 cB sB := by
  obtain ⟨hx, hb, hml, hown, hts, hX, hbl, hK, hT, hlT, hL⟩ := id C
  intro ad cnt X Y ln H locs ls cl sl hI hw hS hl hcl hsl
  refine lv_aload_n hx hb dL_law_1193 rfl (lv_at hl 1 rfl) ?_
  refine l_arg (k := 1) (pc2 := 1198) C hS hl hi (by omega) dL_law_1194 dL_law_1195 (fun h => lv_iconst (v := jI 1) hx hb dL_law_1197 rfl h) dL_law_1198 dL_law_1199 (fun a1 ga1 => ?_)
  obtain ⟨h0, h40, h100, hFx, hOw, hN, hLn, hR, hCI, hRv, hMI⟩ := id hI.1
  have hc0 : cnt 0 = 1 := hFx.at 0 1 (by decide)
  refine gos_i (run_V (k := 0) (i := 0) (As := [.int (jI a1)]) (rest := []) hx hb hml hown hts (c_X8_fault l D tc s.heap.size ad cnt X Y ln hR hFx hLn hCI a1 ga1) (cwV 1 hts gT_X8_fault rfl rfl rfl (by decide +kernel) ⟨Nat.le_of_ble_eq_true rfl, Nat.le_of_ble_eq_true rfl⟩) hK hw (by omega) (by omega) sl_0_0 rfl rfl hl.1 (by rw [h0]; rfl) (Nat.le_of_ble_eq_true rfl) dL_law_1200 ⟨by show _ ≤ (601024 : Nat); omega, by show _ ≤ (7293034 : Nat); omega⟩) hS (fun z2 u3 H locs p4 hw hS => ?_)
  obtain ⟨X5, rfl, hRX5, hFX5, hCX5, hzX5⟩ := p4
  have hI6 : LI0 q0 q1 q2 ad cnt X5 Y ln := LI0.cls hI.1 hRX5 hFX5 hCX5 (by decide)
  have hI7 : LI q0 q1 q2 ad cnt X5 Y ln := ⟨hI6, ty_c hI.2 hFX5 (by decide)⟩
  refine lv_pop hx hb dL_law_1203 rfl ?_
  refine lv_aload_n hx hb dL_law_1204 rfl (lv_at hl 2 rfl) ?_
  refine l_arg (k := 1) (pc2 := 1209) C hS hl hi (by omega) dL_law_1205 dL_law_1206 (fun h => lv_iconst (v := jI 1) hx hb dL_law_1208 rfl h) dL_law_1209 dL_law_1210 (fun a8 ga8 => ?_)
  obtain ⟨h0, h40, h100, hFx, hOw, hN, hLn, hR, hCI, hRv, hMI⟩ := id hI7.1
  have hc40 : cnt 40 = 1 := hFx.at 40 1 (by decide)
  refine gos_i (run_V (k := 40) (i := 0) (As := [.int (jI a8)]) (rest := []) hx hb hml hown hts (c_X9_fault l D tc s.heap.size ad cnt X5 Y ln hR hFx hMI a8 ga8) (cwV 1 hts gT_X9_fault rfl rfl rfl (by decide +kernel) ⟨Nat.le_of_ble_eq_true rfl, Nat.le_of_ble_eq_true rfl⟩) hK hw (by omega) (by omega) sl_40_0 rfl rfl hl.1 (by rw [h40]; rfl) (Nat.le_of_ble_eq_true rfl) dL_law_1211 ⟨by show _ ≤ (601024 : Nat); omega, by show _ ≤ (7293034 : Nat); omega⟩) hS (fun z9 u10 H locs p11 hw hS => ?_)
  obtain ⟨X12, rfl, hRX12, hFX12, hMX12, hzX12⟩ := p11
  have hI13 : LI0 q0 q1 q2 ad cnt X12 Y ln := LI0.mdl hI7.1 hRX12 hFX12 hMX12 (by decide)
  have hI14 : LI q0 q1 q2 ad cnt X12 Y ln := ⟨hI13, ty_c hI7.2 hFX12 (by decide)⟩
  refine lv_pop hx hb dL_law_1214 rfl ?_
  refine lv_goto (tgt := 1343) hx hb dL_law_1215 (by decide) ?_
  exact hg _ _ _ _ _ H locs ls _ _ hI14 hw hS hl (by omega) (by omega)

set_option maxHeartbeats 4000000 in
set_option maxRecDepth 100000 in
theorem law_c22 {p : Program} {l : Launch} {e : Env} {s : State} {m : MethodId} {below : List Frame} {meth : Method} {c : Code} {b L : Nat} {xs : Nat → Int32} {D : va_G} {tc : Nat → ClassId} {Q : State → Prop} {q0 q1 q2 cB sB : Nat} {i : Int} (C : LK p l s m c b L xs D tc) (hi : 0 ≤ i ∧ i + 7 ≤ L) (hcB : cB + 310 ≤ 601024) (hsB : sB + 2110 ≤ 7293034) (hg : LAt p l e s m below meth c b D tc q0 q1 q2 i Q 1343 (cB + 310) (sB + 2110)) : LAt p l e s m below meth c b D tc q0 q1 q2 i Q 1218 cB sB := by
  obtain ⟨hx, hb, hml, hown, hts, hX, hbl, hK, hT, hlT, hL⟩ := id C
  intro ad cnt X Y ln H locs ls cl sl hI hw hS hl hcl hsl
  refine lv_aload_n hx hb dL_law_1218 rfl (lv_at hl 1 rfl) ?_
  refine l_arg (k := 1) (pc2 := 1223) C hS hl hi (by omega) dL_law_1219 dL_law_1220 (fun h => lv_iconst (v := jI 1) hx hb dL_law_1222 rfl h) dL_law_1223 dL_law_1224 (fun a1 ga1 => ?_)
  refine l_arg (k := 2) (pc2 := 1229) C hS hl hi (by omega) dL_law_1225 dL_law_1226 (fun h => lv_iconst (v := jI 2) hx hb dL_law_1228 rfl h) dL_law_1229 dL_law_1230 (fun a2 ga2 => ?_)
  obtain ⟨h0, h40, h100, hFx, hOw, hN, hLn, hR, hCI, hRv, hMI⟩ := id hI.1
  have hc0 : cnt 0 = 1 := hFx.at 0 1 (by decide)
  refine gos_i (run_V (k := 0) (i := 0) (As := [.int (jI a1), .int (jI a2)]) (rest := []) hx hb hml hown hts (c_X8_like l D tc s.heap.size ad cnt X Y ln hR hFx hLn hCI hRv a1 a2 ga1 ga2) (cwV 2 hts gT_X8_like rfl rfl rfl (by decide +kernel) ⟨Nat.le_of_ble_eq_true rfl, Nat.le_of_ble_eq_true rfl⟩) hK hw (by omega) (by omega) sl_0_0 rfl rfl hl.1 (by rw [h0]; rfl) (Nat.le_of_ble_eq_true rfl) dL_law_1231 ⟨by show _ ≤ (601024 : Nat); omega, by show _ ≤ (7293034 : Nat); omega⟩) hS (fun z3 u4 H locs p5 hw hS => ?_)
  obtain ⟨X6, Y8, rfl, hRX6, hFX6, hHX6, hCX6, hzX6, hVX6⟩ := p5
  have hI7 : LI0 q0 q1 q2 ad cnt X6 Y8 ln := LI0.clsR hI.1 hRX6 hFX6 hCX6 hVX6 (by decide)
  have hI9 : LI q0 q1 q2 ad cnt X6 Y8 ln := ⟨hI7, ty_c hI.2 hFX6 (by decide)⟩
  refine lv_pop hx hb dL_law_1234 rfl ?_
  refine lv_aload_n hx hb dL_law_1235 rfl (lv_at hl 2 rfl) ?_
  refine l_arg (k := 1) (pc2 := 1240) C hS hl hi (by omega) dL_law_1236 dL_law_1237 (fun h => lv_iconst (v := jI 1) hx hb dL_law_1239 rfl h) dL_law_1240 dL_law_1241 (fun a10 ga10 => ?_)
  refine l_arg (k := 2) (pc2 := 1246) C hS hl hi (by omega) dL_law_1242 dL_law_1243 (fun h => lv_iconst (v := jI 2) hx hb dL_law_1245 rfl h) dL_law_1246 dL_law_1247 (fun a11 ga11 => ?_)
  obtain ⟨h0, h40, h100, hFx, hOw, hN, hLn, hR, hCI, hRv, hMI⟩ := id hI9.1
  have hc40 : cnt 40 = 1 := hFx.at 40 1 (by decide)
  refine gos_i (run_V (k := 40) (i := 0) (As := [.int (jI a10), .int (jI a11)]) (rest := []) hx hb hml hown hts (c_X9_like l D tc s.heap.size ad cnt X6 Y8 ln hR hFx hMI a10 a11 ga10 ga11) (cwV 2 hts gT_X9_like rfl rfl rfl (by decide +kernel) ⟨Nat.le_of_ble_eq_true rfl, Nat.le_of_ble_eq_true rfl⟩) hK hw (by omega) (by omega) sl_40_0 rfl rfl hl.1 (by rw [h40]; rfl) (Nat.le_of_ble_eq_true rfl) dL_law_1248 ⟨by show _ ≤ (601024 : Nat); omega, by show _ ≤ (7293034 : Nat); omega⟩) hS (fun z12 u13 H locs p14 hw hS => ?_)
  obtain ⟨X15, rfl, hRX15, hFX15, hMX15, hzX15⟩ := p14
  have hI16 : LI0 q0 q1 q2 ad cnt X15 Y8 ln := LI0.mdl hI9.1 hRX15 hFX15 hMX15 (by decide)
  have hI17 : LI q0 q1 q2 ad cnt X15 Y8 ln := ⟨hI16, ty_c hI9.2 hFX15 (by decide)⟩
  refine lv_pop hx hb dL_law_1251 rfl ?_
  refine lv_goto (tgt := 1343) hx hb dL_law_1252 (by decide) ?_
  exact hg _ _ _ _ _ H locs ls _ _ hI17 hw hS hl (by omega) (by omega)

set_option maxHeartbeats 4000000 in
set_option maxRecDepth 100000 in
theorem law_c23 {p : Program} {l : Launch} {e : Env} {s : State} {m : MethodId} {below : List Frame} {meth : Method} {c : Code} {b L : Nat} {xs : Nat → Int32} {D : va_G} {tc : Nat → ClassId} {Q : State → Prop} {q0 q1 q2 cB sB : Nat} {i : Int} (C : LK p l s m c b L xs D tc) (hi : 0 ≤ i ∧ i + 7 ≤ L) (hcB : cB + 310 ≤ 601024) (hsB : sB + 2110 ≤ 7293034) (hg : LAt p l e s m below meth c b D tc q0 q1 q2 i Q 1343 (cB + 310) (sB + 2110)) : LAt p l e s m below meth c b D tc q0 q1 q2 i Q 1255 cB sB := by
  obtain ⟨hx, hb, hml, hown, hts, hX, hbl, hK, hT, hlT, hL⟩ := id C
  intro ad cnt X Y ln H locs ls cl sl hI hw hS hl hcl hsl
  refine lv_aload_n hx hb dL_law_1255 rfl (lv_at hl 1 rfl) ?_
  refine l_arg (k := 1) (pc2 := 1260) C hS hl hi (by omega) dL_law_1256 dL_law_1257 (fun h => lv_iconst (v := jI 1) hx hb dL_law_1259 rfl h) dL_law_1260 dL_law_1261 (fun a1 ga1 => ?_)
  refine l_arg (k := 2) (pc2 := 1266) C hS hl hi (by omega) dL_law_1262 dL_law_1263 (fun h => lv_iconst (v := jI 2) hx hb dL_law_1265 rfl h) dL_law_1266 dL_law_1267 (fun a2 ga2 => ?_)
  obtain ⟨h0, h40, h100, hFx, hOw, hN, hLn, hR, hCI, hRv, hMI⟩ := id hI.1
  have hc0 : cnt 0 = 1 := hFx.at 0 1 (by decide)
  refine gos_i (run_V (k := 0) (i := 0) (As := [.int (jI a1), .int (jI a2)]) (rest := []) hx hb hml hown hts (c_X8_differs l D tc s.heap.size ad cnt X Y ln hR hFx hLn hCI hRv a1 a2 ga1 ga2) (cwV 2 hts gT_X8_differs rfl rfl rfl (by decide +kernel) ⟨Nat.le_of_ble_eq_true rfl, Nat.le_of_ble_eq_true rfl⟩) hK hw (by omega) (by omega) sl_0_0 rfl rfl hl.1 (by rw [h0]; rfl) (Nat.le_of_ble_eq_true rfl) dL_law_1268 ⟨by show _ ≤ (601024 : Nat); omega, by show _ ≤ (7293034 : Nat); omega⟩) hS (fun z3 u4 H locs p5 hw hS => ?_)
  obtain ⟨X6, Y8, rfl, hRX6, hFX6, hHX6, hCX6, hzX6, hVX6⟩ := p5
  have hI7 : LI0 q0 q1 q2 ad cnt X6 Y8 ln := LI0.clsR hI.1 hRX6 hFX6 hCX6 hVX6 (by decide)
  have hI9 : LI q0 q1 q2 ad cnt X6 Y8 ln := ⟨hI7, ty_c hI.2 hFX6 (by decide)⟩
  refine lv_pop hx hb dL_law_1271 rfl ?_
  refine lv_aload_n hx hb dL_law_1272 rfl (lv_at hl 2 rfl) ?_
  refine l_arg (k := 1) (pc2 := 1277) C hS hl hi (by omega) dL_law_1273 dL_law_1274 (fun h => lv_iconst (v := jI 1) hx hb dL_law_1276 rfl h) dL_law_1277 dL_law_1278 (fun a10 ga10 => ?_)
  refine l_arg (k := 2) (pc2 := 1283) C hS hl hi (by omega) dL_law_1279 dL_law_1280 (fun h => lv_iconst (v := jI 2) hx hb dL_law_1282 rfl h) dL_law_1283 dL_law_1284 (fun a11 ga11 => ?_)
  obtain ⟨h0, h40, h100, hFx, hOw, hN, hLn, hR, hCI, hRv, hMI⟩ := id hI9.1
  have hc40 : cnt 40 = 1 := hFx.at 40 1 (by decide)
  refine gos_i (run_V (k := 40) (i := 0) (As := [.int (jI a10), .int (jI a11)]) (rest := []) hx hb hml hown hts (c_X9_differs l D tc s.heap.size ad cnt X6 Y8 ln hR hFx hMI a10 a11 ga10 ga11) (cwV 2 hts gT_X9_differs rfl rfl rfl (by decide +kernel) ⟨Nat.le_of_ble_eq_true rfl, Nat.le_of_ble_eq_true rfl⟩) hK hw (by omega) (by omega) sl_40_0 rfl rfl hl.1 (by rw [h40]; rfl) (Nat.le_of_ble_eq_true rfl) dL_law_1285 ⟨by show _ ≤ (601024 : Nat); omega, by show _ ≤ (7293034 : Nat); omega⟩) hS (fun z12 u13 H locs p14 hw hS => ?_)
  obtain ⟨X15, rfl, hRX15, hFX15, hMX15, hzX15⟩ := p14
  have hI16 : LI0 q0 q1 q2 ad cnt X15 Y8 ln := LI0.mdl hI9.1 hRX15 hFX15 hMX15 (by decide)
  have hI17 : LI q0 q1 q2 ad cnt X15 Y8 ln := ⟨hI16, ty_c hI9.2 hFX15 (by decide)⟩
  refine lv_pop hx hb dL_law_1288 rfl ?_
  refine lv_goto (tgt := 1343) hx hb dL_law_1289 (by decide) ?_
  exact hg _ _ _ _ _ H locs ls _ _ hI17 hw hS hl (by omega) (by omega)

set_option maxHeartbeats 4000000 in
set_option maxRecDepth 100000 in
theorem law_c24 {p : Program} {l : Launch} {e : Env} {s : State} {m : MethodId} {below : List Frame} {meth : Method} {c : Code} {b L : Nat} {xs : Nat → Int32} {D : va_G} {tc : Nat → ClassId} {Q : State → Prop} {q0 q1 q2 cB sB : Nat} {i : Int} (C : LK p l s m c b L xs D tc) (hi : 0 ≤ i ∧ i + 7 ≤ L) (hcB : cB + 310 ≤ 601024) (hsB : sB + 2110 ≤ 7293034) (hg : LAt p l e s m below meth c b D tc q0 q1 q2 i Q 1343 (cB + 310) (sB + 2110)) : LAt p l e s m below meth c b D tc q0 q1 q2 i Q 1292 cB sB := by
  obtain ⟨hx, hb, hml, hown, hts, hX, hbl, hK, hT, hlT, hL⟩ := id C
  intro ad cnt X Y ln H locs ls cl sl hI hw hS hl hcl hsl
  refine lv_aload_n hx hb dL_law_1292 rfl (lv_at hl 1 rfl) ?_
  obtain ⟨h0, h40, h100, hFx, hOw, hN, hLn, hR, hCI, hRv, hMI⟩ := id hI.1
  have hc0 : cnt 0 = 1 := hFx.at 0 1 (by decide)
  refine gos_i (run_V (k := 0) (i := 0) (As := []) (rest := []) hx hb hml hown hts (c_X8_mark l D tc s.heap.size ad cnt X Y ln hR hFx hLn hCI) (cwV 0 hts gT_X8_mark rfl rfl rfl (by decide +kernel) ⟨Nat.le_of_ble_eq_true rfl, Nat.le_of_ble_eq_true rfl⟩) hK hw (by omega) (by omega) sl_0_0 rfl rfl hl.1 (by rw [h0]; rfl) (Nat.le_of_ble_eq_true rfl) dL_law_1293 ⟨by show _ ≤ (601024 : Nat); omega, by show _ ≤ (7293034 : Nat); omega⟩) hS (fun z1 u2 H locs p3 hw hS => ?_)
  obtain ⟨X4, rfl, hRX4, hFX4, hCX4, hzX4⟩ := p3
  have hI5 : LI0 q0 q1 q2 ad cnt X4 Y ln := LI0.cls hI.1 hRX4 hFX4 hCX4 (by decide)
  have hI6 : LI q0 q1 q2 ad cnt X4 Y ln := ⟨hI5, ty_c hI.2 hFX4 (by decide)⟩
  refine lv_pop hx hb dL_law_1296 rfl ?_
  refine lv_aload_n hx hb dL_law_1297 rfl (lv_at hl 2 rfl) ?_
  obtain ⟨h0, h40, h100, hFx, hOw, hN, hLn, hR, hCI, hRv, hMI⟩ := id hI6.1
  have hc40 : cnt 40 = 1 := hFx.at 40 1 (by decide)
  refine gos_i (run_V (k := 40) (i := 0) (As := []) (rest := []) hx hb hml hown hts (c_X9_mark l D tc s.heap.size ad cnt X4 Y ln hR hFx hMI) (cwV 0 hts gT_X9_mark rfl rfl rfl (by decide +kernel) ⟨Nat.le_of_ble_eq_true rfl, Nat.le_of_ble_eq_true rfl⟩) hK hw (by omega) (by omega) sl_40_0 rfl rfl hl.1 (by rw [h40]; rfl) (Nat.le_of_ble_eq_true rfl) dL_law_1298 ⟨by show _ ≤ (601024 : Nat); omega, by show _ ≤ (7293034 : Nat); omega⟩) hS (fun z7 u8 H locs p9 hw hS => ?_)
  obtain ⟨X10, rfl, hRX10, hFX10, hMX10, hzX10⟩ := p9
  have hI11 : LI0 q0 q1 q2 ad cnt X10 Y ln := LI0.mdl hI6.1 hRX10 hFX10 hMX10 (by decide)
  have hI12 : LI q0 q1 q2 ad cnt X10 Y ln := ⟨hI11, ty_c hI6.2 hFX10 (by decide)⟩
  refine lv_pop hx hb dL_law_1301 rfl ?_
  refine lv_goto (tgt := 1343) hx hb dL_law_1302 (by decide) ?_
  exact hg _ _ _ _ _ H locs ls _ _ hI12 hw hS hl (by omega) (by omega)

set_option maxHeartbeats 4000000 in
set_option maxRecDepth 100000 in
theorem law_c25 {p : Program} {l : Launch} {e : Env} {s : State} {m : MethodId} {below : List Frame} {meth : Method} {c : Code} {b L : Nat} {xs : Nat → Int32} {D : va_G} {tc : Nat → ClassId} {Q : State → Prop} {q0 q1 q2 cB sB : Nat} {i : Int} (C : LK p l s m c b L xs D tc) (hi : 0 ≤ i ∧ i + 7 ≤ L) (hcB : cB + 310 ≤ 601024) (hsB : sB + 2110 ≤ 7293034) (hg : LAt p l e s m below meth c b D tc q0 q1 q2 i Q 1343 (cB + 310) (sB + 2110)) : LAt p l e s m below meth c b D tc q0 q1 q2 i Q 1305 cB sB := by
  obtain ⟨hx, hb, hml, hown, hts, hX, hbl, hK, hT, hlT, hL⟩ := id C
  intro ad cnt X Y ln H locs ls cl sl hI hw hS hl hcl hsl
  refine lv_aload_n hx hb dL_law_1305 rfl (lv_at hl 1 rfl) ?_
  obtain ⟨h0, h40, h100, hFx, hOw, hN, hLn, hR, hCI, hRv, hMI⟩ := id hI.1
  have hc0 : cnt 0 = 1 := hFx.at 0 1 (by decide)
  refine gos_i (run_V (k := 0) (i := 0) (As := []) (rest := []) hx hb hml hown hts (c_X8_undo l D tc s.heap.size ad cnt X Y ln hR hFx hLn hCI) (cwV 0 hts gT_X8_undo rfl rfl rfl (by decide +kernel) ⟨Nat.le_of_ble_eq_true rfl, Nat.le_of_ble_eq_true rfl⟩) hK hw (by omega) (by omega) sl_0_0 rfl rfl hl.1 (by rw [h0]; rfl) (Nat.le_of_ble_eq_true rfl) dL_law_1306 ⟨by show _ ≤ (601024 : Nat); omega, by show _ ≤ (7293034 : Nat); omega⟩) hS (fun z1 u2 H locs p3 hw hS => ?_)
  obtain ⟨X4, Y6, rfl, hRX4, hFX4, hHX4, hCX4, hzX4⟩ := p3
  have hI5 : LI0 q0 q1 q2 ad cnt X4 Y6 ln := LI0.cls hI.1 hRX4 hFX4 hCX4 (by decide)
  have hI7 : LI q0 q1 q2 ad cnt X4 Y6 ln := ⟨hI5, ty_c hI.2 hFX4 (by decide)⟩
  refine lv_pop hx hb dL_law_1309 rfl ?_
  refine lv_aload_n hx hb dL_law_1310 rfl (lv_at hl 2 rfl) ?_
  obtain ⟨h0, h40, h100, hFx, hOw, hN, hLn, hR, hCI, hRv, hMI⟩ := id hI7.1
  have hc40 : cnt 40 = 1 := hFx.at 40 1 (by decide)
  refine gos_i (run_V (k := 40) (i := 0) (As := []) (rest := []) hx hb hml hown hts (c_X9_undo l D tc s.heap.size ad cnt X4 Y6 ln hR hFx hMI) (cwV 0 hts gT_X9_undo rfl rfl rfl (by decide +kernel) ⟨Nat.le_of_ble_eq_true rfl, Nat.le_of_ble_eq_true rfl⟩) hK hw (by omega) (by omega) sl_40_0 rfl rfl hl.1 (by rw [h40]; rfl) (Nat.le_of_ble_eq_true rfl) dL_law_1311 ⟨by show _ ≤ (601024 : Nat); omega, by show _ ≤ (7293034 : Nat); omega⟩) hS (fun z8 u9 H locs p10 hw hS => ?_)
  obtain ⟨X11, rfl, hRX11, hFX11, hMX11, hzX11⟩ := p10
  have hI12 : LI0 q0 q1 q2 ad cnt X11 Y6 ln := LI0.mdl hI7.1 hRX11 hFX11 hMX11 (by decide)
  have hI13 : LI q0 q1 q2 ad cnt X11 Y6 ln := ⟨hI12, ty_c hI7.2 hFX11 (by decide)⟩
  refine lv_pop hx hb dL_law_1314 rfl ?_
  refine lv_goto (tgt := 1343) hx hb dL_law_1315 (by decide) ?_
  exact hg _ _ _ _ _ H locs ls _ _ hI13 hw hS hl (by omega) (by omega)

set_option maxHeartbeats 4000000 in
set_option maxRecDepth 100000 in
theorem law_c26 {p : Program} {l : Launch} {e : Env} {s : State} {m : MethodId} {below : List Frame} {meth : Method} {c : Code} {b L : Nat} {xs : Nat → Int32} {D : va_G} {tc : Nat → ClassId} {Q : State → Prop} {q0 q1 q2 cB sB : Nat} {i : Int} (C : LK p l s m c b L xs D tc) (hi : 0 ≤ i ∧ i + 7 ≤ L) (hcB : cB + 310 ≤ 601024) (hsB : sB + 2110 ≤ 7293034) (hg : LAt p l e s m below meth c b D tc q0 q1 q2 i Q 1343 (cB + 310) (sB + 2110)) : LAt p l e s m below meth c b D tc q0 q1 q2 i Q 1318 cB sB := by
  obtain ⟨hx, hb, hml, hown, hts, hX, hbl, hK, hT, hlT, hL⟩ := id C
  intro ad cnt X Y ln H locs ls cl sl hI hw hS hl hcl hsl
  refine lv_aload_n hx hb dL_law_1318 rfl (lv_at hl 1 rfl) ?_
  refine l_arg (k := 1) (pc2 := 1323) C hS hl hi (by omega) dL_law_1319 dL_law_1320 (fun h => lv_iconst (v := jI 1) hx hb dL_law_1322 rfl h) dL_law_1323 dL_law_1324 (fun a1 ga1 => ?_)
  obtain ⟨h0, h40, h100, hFx, hOw, hN, hLn, hR, hCI, hRv, hMI⟩ := id hI.1
  have hc0 : cnt 0 = 1 := hFx.at 0 1 (by decide)
  refine gos_i (run_V (k := 0) (i := 0) (As := [.int (jI a1)]) (rest := []) hx hb hml hown hts (c_X8_count l D tc s.heap.size ad cnt X Y ln hR hFx hLn hCI a1 ga1) (cwV 1 hts gT_X8_count rfl rfl rfl (by decide +kernel) ⟨Nat.le_of_ble_eq_true rfl, Nat.le_of_ble_eq_true rfl⟩) hK hw (by omega) (by omega) sl_0_0 rfl rfl hl.1 (by rw [h0]; rfl) (Nat.le_of_ble_eq_true rfl) dL_law_1325 ⟨by show _ ≤ (601024 : Nat); omega, by show _ ≤ (7293034 : Nat); omega⟩) hS (fun z2 u3 H locs p4 hw hS => ?_)
  obtain ⟨X5, rfl, hRX5, hFX5, hCX5, hzX5⟩ := p4
  have hI6 : LI0 q0 q1 q2 ad cnt X5 Y ln := LI0.cls hI.1 hRX5 hFX5 hCX5 (by decide)
  have hI7 : LI q0 q1 q2 ad cnt X5 Y ln := ⟨hI6, ty_c hI.2 hFX5 (by decide)⟩
  refine lv_pop hx hb dL_law_1328 rfl ?_
  refine lv_aload_n hx hb dL_law_1329 rfl (lv_at hl 2 rfl) ?_
  refine l_arg (k := 1) (pc2 := 1334) C hS hl hi (by omega) dL_law_1330 dL_law_1331 (fun h => lv_iconst (v := jI 1) hx hb dL_law_1333 rfl h) dL_law_1334 dL_law_1335 (fun a8 ga8 => ?_)
  obtain ⟨h0, h40, h100, hFx, hOw, hN, hLn, hR, hCI, hRv, hMI⟩ := id hI7.1
  have hc40 : cnt 40 = 1 := hFx.at 40 1 (by decide)
  refine gos_i (run_V (k := 40) (i := 0) (As := [.int (jI a8)]) (rest := []) hx hb hml hown hts (c_X9_count l D tc s.heap.size ad cnt X5 Y ln hR hFx hMI a8 ga8) (cwV 1 hts gT_X9_count rfl rfl rfl (by decide +kernel) ⟨Nat.le_of_ble_eq_true rfl, Nat.le_of_ble_eq_true rfl⟩) hK hw (by omega) (by omega) sl_40_0 rfl rfl hl.1 (by rw [h40]; rfl) (Nat.le_of_ble_eq_true rfl) dL_law_1336 ⟨by show _ ≤ (601024 : Nat); omega, by show _ ≤ (7293034 : Nat); omega⟩) hS (fun z9 u10 H locs p11 hw hS => ?_)
  obtain ⟨X12, rfl, hRX12, hFX12, hMX12, hzX12⟩ := p11
  have hI13 : LI0 q0 q1 q2 ad cnt X12 Y ln := LI0.mdl hI7.1 hRX12 hFX12 hMX12 (by decide)
  have hI14 : LI q0 q1 q2 ad cnt X12 Y ln := ⟨hI13, ty_c hI7.2 hFX12 (by decide)⟩
  refine lv_pop hx hb dL_law_1339 rfl ?_
  refine lv_goto (tgt := 1343) hx hb dL_law_1340 (by decide) ?_
  exact hg _ _ _ _ _ H locs ls _ _ hI14 hw hS hl (by omega) (by omega)

