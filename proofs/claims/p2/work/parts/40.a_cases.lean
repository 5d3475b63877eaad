set_option maxHeartbeats 4000000 in
set_option maxRecDepth 100000 in
theorem law_c0 {p : Program} {l : Launch} {e : Env} {s : State} {m : MethodId} {below : List Frame} {meth : Method} {c : Code} {b L : Nat} {xs : Nat → Int32} {D : va_G} {tc : Nat → ClassId} {Q : State → Prop} {q0 q1 q2 cB sB : Nat} {i : Int} (C : LK p l s m c b L xs D tc) (hi : 0 ≤ i ∧ i + 7 ≤ L) (hcB : cB + 310 ≤ 601024) (hsB : sB + 2110 ≤ 7293034) (hg : LAt p l e s m below meth c b D tc q0 q1 q2 i Q 1343 (cB + 310) (sB + 2110)) : LAt p l e s m below meth c b D tc q0 q1 q2 i Q 164 cB sB := by
  obtain ⟨hx, hb, hml, hown, hts, hX, hbl, hK, hT, hlT, hL⟩ := id C
  intro ad cnt X Y ln H locs ls cl sl hI hw hS hl hcl hsl
  refine lv_aload_n hx hb dL_law_164 rfl (lv_at hl 1 rfl) ?_
  obtain ⟨h0, h40, h100, hFx, hOw, hN, hLn, hR, hCI, hRv, hMI⟩ := id hI.1
  have hc0 : cnt 0 = 1 := hFx.at 0 1 (by decide)
  refine gos_i (run_V (k := 0) (i := 0) (As := []) (rest := []) hx hb hml hown hts (c_X8_type l D tc s.heap.size ad cnt X Y ln hR hFx hLn hCI hOw hN) (cwV 0 hts gT_X8_type rfl rfl rfl (by decide +kernel) ⟨Nat.le_of_ble_eq_true rfl, Nat.le_of_ble_eq_true rfl⟩) hK hw (by omega) (by omega) sl_0_0 rfl rfl hl.1 (by rw [h0]; rfl) (Nat.le_of_ble_eq_true rfl) dL_law_165 ⟨by show _ ≤ (601024 : Nat); omega, by show _ ≤ (7293034 : Nat); omega⟩) hS (fun z1 u2 H locs p3 hw hS => ?_)
  obtain ⟨ad6, cnt7, X4, Y8, ln9, rfl, hEX4, hFxX4, hOwX4, hLnX4, hRX4, hFX4, hHX4, hCX4, hzX4, ht1X4, ht2X4⟩ := p3
  have hI5 : LI0 q0 q1 q2 ad6 cnt7 X4 Y8 ln9 := LI0.grow hI.1 hEX4 hFxX4 hOwX4 hLnX4 hRX4 hFX4 hCX4 (by decide)
  refine lv_aload_n hx hb dL_law_168 rfl (lv_at hl 2 rfl) ?_
  obtain ⟨h0, h40, h100, hFx, hOw, hN, hLn, hR, hCI, hRv, hMI⟩ := id hI5
  have hc40 : cnt7 40 = 1 := hFx.at 40 1 (by decide)
  refine gos_i (run_V (k := 40) (i := 0) (As := []) (rest := [.int (jI z1)]) hx hb hml hown hts (c_X9_type l D tc s.heap.size ad6 cnt7 X4 Y8 ln9 hR hFx hMI) (cwV 0 hts gT_X9_type rfl rfl rfl (by decide +kernel) ⟨Nat.le_of_ble_eq_true rfl, Nat.le_of_ble_eq_true rfl⟩) hK hw (by omega) (by omega) sl_40_0 rfl rfl hl.1 (by rw [h40]; rfl) (Nat.le_of_ble_eq_true rfl) dL_law_169 ⟨by show _ ≤ (601024 : Nat); omega, by show _ ≤ (7293034 : Nat); omega⟩) hS (fun z10 u11 H locs p12 hw hS => ?_)
  obtain ⟨X13, rfl, hRX13, hFX13, hMX13, hzX13, htX13⟩ := p12
  have hI14 : LI0 q0 q1 q2 ad6 cnt7 X13 Y8 ln9 := LI0.mdl hI5 hRX13 hFX13 hMX13 (by decide)
  have ey : X4 40 0 2 = X 40 0 2 := hFX4 40 0 2 (show 4003 ∉ _ by decide)
  have ez : X13 0 0 1 = X4 0 0 1 := hFX13 0 0 1 (show 2 ∉ _ by decide)
  have ew := hI.2
  have ft : 0 ≤ X 0 0 1 ∧ X 0 0 1 ≤ 8 := hI.1.2.2.2.2.2.2.2.1 0 0 1
  refine x_icmp_eq (tgt := 1343) hx hb (by omega) (by omega) dL_law_172 (by decide) (fun _ => ?_) (fun c9 => ?_)
  · exact hg _ _ _ _ _ H locs ls _ _ ⟨hI14, by omega⟩ hw hS hl (by omega) (by omega)
  · exact absurd (show z1 = z10 by omega) c9

set_option maxHeartbeats 4000000 in
set_option maxRecDepth 100000 in
theorem law_c1 {p : Program} {l : Launch} {e : Env} {s : State} {m : MethodId} {below : List Frame} {meth : Method} {c : Code} {b L : Nat} {xs : Nat → Int32} {D : va_G} {tc : Nat → ClassId} {Q : State → Prop} {q0 q1 q2 cB sB : Nat} {i : Int} (C : LK p l s m c b L xs D tc) (hi : 0 ≤ i ∧ i + 7 ≤ L) (hcB : cB + 310 ≤ 601024) (hsB : sB + 2110 ≤ 7293034) (hg : LAt p l e s m below meth c b D tc q0 q1 q2 i Q 1343 (cB + 310) (sB + 2110)) : LAt p l e s m below meth c b D tc q0 q1 q2 i Q 177 cB sB := by
  obtain ⟨hx, hb, hml, hown, hts, hX, hbl, hK, hT, hlT, hL⟩ := id C
  intro ad cnt X Y ln H locs ls cl sl hI hw hS hl hcl hsl
  refine lv_aload_n hx hb dL_law_177 rfl (lv_at hl 1 rfl) ?_
  refine l_arg (k := 1) (pc2 := 182) C hS hl hi (by omega) dL_law_178 dL_law_179 (fun h => lv_iconst (v := jI 1) hx hb dL_law_181 rfl h) dL_law_182 dL_law_183 (fun a1 ga1 => ?_)
  refine l_arg (k := 2) (pc2 := 188) C hS hl hi (by omega) dL_law_184 dL_law_185 (fun h => lv_iconst (v := jI 2) hx hb dL_law_187 rfl h) dL_law_188 dL_law_189 (fun a2 ga2 => ?_)
  refine l_arg (k := 3) (pc2 := 194) C hS hl hi (by omega) dL_law_190 dL_law_191 (fun h => lv_iconst (v := jI 3) hx hb dL_law_193 rfl h) dL_law_194 dL_law_195 (fun a3 ga3 => ?_)
  refine l_arg (k := 4) (pc2 := 200) C hS hl hi (by omega) dL_law_196 dL_law_197 (fun h => lv_iconst (v := jI 4) hx hb dL_law_199 rfl h) dL_law_200 dL_law_201 (fun a4 ga4 => ?_)
  refine lv_i2l hx hb dL_law_202 rfl ?_
  refine lv_bipush (v := jI 32) hx hb dL_law_203 (by decide) ?_
  refine lv_lshl hx hb dL_law_205 rfl ?_
  refine l_arg (k := 5) (pc2 := 210) C hS hl hi (by omega) dL_law_206 dL_law_207 (fun h => lv_iconst (v := jI 5) hx hb dL_law_209 rfl h) dL_law_210 dL_law_211 (fun a5 ga5 => ?_)
  refine lv_i2l hx hb dL_law_212 rfl ?_
  refine lv_ldc2 hx hb hown C.c32 dL_law_213 ?_
  refine lv_land hx hb dL_law_216 ?_
  refine lv_lor hx hb dL_law_217 ?_
  refine l_topl (fun v6 gv6 => ?_)
  obtain ⟨h0, h40, h100, hFx, hOw, hN, hLn, hR, hCI, hRv, hMI⟩ := id hI.1
  have hc0 : cnt 0 = 1 := hFx.at 0 1 (by decide)
  refine gos_i (run_V (k := 0) (i := 0) (As := [.int (jI a1), .int (jI a2), .int (jI a3), .long (jL v6)]) (rest := []) hx hb hml hown hts (c_X8_field l D tc s.heap.size ad cnt X Y ln hR hFx hLn hCI a1 a2 a3 v6 ga1 ga2 ga3 gv6) (cwV 4 hts gT_X8_field rfl rfl rfl (by decide +kernel) ⟨Nat.le_of_ble_eq_true rfl, Nat.le_of_ble_eq_true rfl⟩) hK hw (by omega) (by omega) sl_0_0 rfl rfl hl.1 (by rw [h0]; rfl) (Nat.le_of_ble_eq_true rfl) dL_law_218 ⟨by show _ ≤ (601024 : Nat); omega, by show _ ≤ (7293034 : Nat); omega⟩) hS (fun z7 u8 H locs p9 hw hS => ?_)
  obtain ⟨X10, Y12, rfl, hRX10, hFX10, hHX10, hCX10, hzX10⟩ := p9
  have hI11 : LI0 q0 q1 q2 ad cnt X10 Y12 ln := LI0.cls hI.1 hRX10 hFX10 hCX10 (by decide)
  have hI13 : LI q0 q1 q2 ad cnt X10 Y12 ln := ⟨hI11, ty_c hI.2 hFX10 (by decide)⟩
  refine lv_pop hx hb dL_law_221 rfl ?_
  refine lv_aload_n hx hb dL_law_222 rfl (lv_at hl 2 rfl) ?_
  refine l_arg (k := 1) (pc2 := 227) C hS hl hi (by omega) dL_law_223 dL_law_224 (fun h => lv_iconst (v := jI 1) hx hb dL_law_226 rfl h) dL_law_227 dL_law_228 (fun a14 ga14 => ?_)
  refine l_arg (k := 2) (pc2 := 233) C hS hl hi (by omega) dL_law_229 dL_law_230 (fun h => lv_iconst (v := jI 2) hx hb dL_law_232 rfl h) dL_law_233 dL_law_234 (fun a15 ga15 => ?_)
  refine l_arg (k := 3) (pc2 := 239) C hS hl hi (by omega) dL_law_235 dL_law_236 (fun h => lv_iconst (v := jI 3) hx hb dL_law_238 rfl h) dL_law_239 dL_law_240 (fun a16 ga16 => ?_)
  refine l_arg (k := 4) (pc2 := 245) C hS hl hi (by omega) dL_law_241 dL_law_242 (fun h => lv_iconst (v := jI 4) hx hb dL_law_244 rfl h) dL_law_245 dL_law_246 (fun a17 ga17 => ?_)
  refine lv_i2l hx hb dL_law_247 rfl ?_
  refine lv_bipush (v := jI 32) hx hb dL_law_248 (by decide) ?_
  refine lv_lshl hx hb dL_law_250 rfl ?_
  refine l_arg (k := 5) (pc2 := 255) C hS hl hi (by omega) dL_law_251 dL_law_252 (fun h => lv_iconst (v := jI 5) hx hb dL_law_254 rfl h) dL_law_255 dL_law_256 (fun a18 ga18 => ?_)
  refine lv_i2l hx hb dL_law_257 rfl ?_
  refine lv_ldc2 hx hb hown C.c32 dL_law_258 ?_
  refine lv_land hx hb dL_law_261 ?_
  refine lv_lor hx hb dL_law_262 ?_
  refine l_topl (fun v19 gv19 => ?_)
  obtain ⟨h0, h40, h100, hFx, hOw, hN, hLn, hR, hCI, hRv, hMI⟩ := id hI13.1
  have hc40 : cnt 40 = 1 := hFx.at 40 1 (by decide)
  refine gos_i (run_V (k := 40) (i := 0) (As := [.int (jI a14), .int (jI a15), .int (jI a16), .long (jL v19)]) (rest := []) hx hb hml hown hts (c_X9_field l D tc s.heap.size ad cnt X10 Y12 ln hR hFx hMI a14 a15 a16 v19 ga14 ga15 ga16 gv19) (cwV 4 hts gT_X9_field rfl rfl rfl (by decide +kernel) ⟨Nat.le_of_ble_eq_true rfl, Nat.le_of_ble_eq_true rfl⟩) hK hw (by omega) (by omega) sl_40_0 rfl rfl hl.1 (by rw [h40]; rfl) (Nat.le_of_ble_eq_true rfl) dL_law_263 ⟨by show _ ≤ (601024 : Nat); omega, by show _ ≤ (7293034 : Nat); omega⟩) hS (fun z20 u21 H locs p22 hw hS => ?_)
  obtain ⟨X23, rfl, hRX23, hFX23, hMX23, hzX23⟩ := p22
  have hI24 : LI0 q0 q1 q2 ad cnt X23 Y12 ln := LI0.mdl hI13.1 hRX23 hFX23 hMX23 (by decide)
  have hI25 : LI q0 q1 q2 ad cnt X23 Y12 ln := ⟨hI24, ty_c hI13.2 hFX23 (by decide)⟩
  refine lv_pop hx hb dL_law_266 rfl ?_
  refine lv_goto (tgt := 1343) hx hb dL_law_267 (by decide) ?_
  exact hg _ _ _ _ _ H locs ls _ _ hI25 hw hS hl (by omega) (by omega)

set_option maxHeartbeats 4000000 in
set_option maxRecDepth 100000 in
theorem law_c2 {p : Program} {l : Launch} {e : Env} {s : State} {m : MethodId} {below : List Frame} {meth : Method} {c : Code} {b L : Nat} {xs : Nat → Int32} {D : va_G} {tc : Nat → ClassId} {Q : State → Prop} {q0 q1 q2 cB sB : Nat} {i : Int} (C : LK p l s m c b L xs D tc) (hi : 0 ≤ i ∧ i + 7 ≤ L) (hcB : cB + 310 ≤ 601024) (hsB : sB + 2110 ≤ 7293034) (hg : LAt p l e s m below meth c b D tc q0 q1 q2 i Q 1343 (cB + 310) (sB + 2110)) : LAt p l e s m below meth c b D tc q0 q1 q2 i Q 270 cB sB := by
  obtain ⟨hx, hb, hml, hown, hts, hX, hbl, hK, hT, hlT, hL⟩ := id C
  intro ad cnt X Y ln H locs ls cl sl hI hw hS hl hcl hsl
  refine lv_aload_n hx hb dL_law_270 rfl (lv_at hl 1 rfl) ?_
  refine l_arg (k := 1) (pc2 := 275) C hS hl hi (by omega) dL_law_271 dL_law_272 (fun h => lv_iconst (v := jI 1) hx hb dL_law_274 rfl h) dL_law_275 dL_law_276 (fun a1 ga1 => ?_)
  refine l_arg (k := 2) (pc2 := 281) C hS hl hi (by omega) dL_law_277 dL_law_278 (fun h => lv_iconst (v := jI 2) hx hb dL_law_280 rfl h) dL_law_281 dL_law_282 (fun a2 ga2 => ?_)
  obtain ⟨h0, h40, h100, hFx, hOw, hN, hLn, hR, hCI, hRv, hMI⟩ := id hI.1
  have hc0 : cnt 0 = 1 := hFx.at 0 1 (by decide)
  refine gos_i (run_V (k := 0) (i := 0) (As := [.int (jI a1), .int (jI a2)]) (rest := []) hx hb hml hown hts (c_X8_drop l D tc s.heap.size ad cnt X Y ln hR hFx hLn hCI a1 a2 ga1 ga2) (cwV 2 hts gT_X8_drop rfl rfl rfl (by decide +kernel) ⟨Nat.le_of_ble_eq_true rfl, Nat.le_of_ble_eq_true rfl⟩) hK hw (by omega) (by omega) sl_0_0 rfl rfl hl.1 (by rw [h0]; rfl) (Nat.le_of_ble_eq_true rfl) dL_law_283 ⟨by show _ ≤ (601024 : Nat); omega, by show _ ≤ (7293034 : Nat); omega⟩) hS (fun z3 u4 H locs p5 hw hS => ?_)
  obtain ⟨X6, Y8, rfl, hRX6, hFX6, hHX6, hCX6, hzX6⟩ := p5
  have hI7 : LI0 q0 q1 q2 ad cnt X6 Y8 ln := LI0.cls hI.1 hRX6 hFX6 hCX6 (by decide)
  have hI9 : LI q0 q1 q2 ad cnt X6 Y8 ln := ⟨hI7, ty_c hI.2 hFX6 (by decide)⟩
  refine lv_pop hx hb dL_law_286 rfl ?_
  refine lv_aload_n hx hb dL_law_287 rfl (lv_at hl 2 rfl) ?_
  refine l_arg (k := 1) (pc2 := 292) C hS hl hi (by omega) dL_law_288 dL_law_289 (fun h => lv_iconst (v := jI 1) hx hb dL_law_291 rfl h) dL_law_292 dL_law_293 (fun a10 ga10 => ?_)
  refine l_arg (k := 2) (pc2 := 298) C hS hl hi (by omega) dL_law_294 dL_law_295 (fun h => lv_iconst (v := jI 2) hx hb dL_law_297 rfl h) dL_law_298 dL_law_299 (fun a11 ga11 => ?_)
  obtain ⟨h0, h40, h100, hFx, hOw, hN, hLn, hR, hCI, hRv, hMI⟩ := id hI9.1
  have hc40 : cnt 40 = 1 := hFx.at 40 1 (by decide)
  refine gos_i (run_V (k := 40) (i := 0) (As := [.int (jI a10), .int (jI a11)]) (rest := []) hx hb hml hown hts (c_X9_drop l D tc s.heap.size ad cnt X6 Y8 ln hR hFx hMI a10 a11 ga10 ga11) (cwV 2 hts gT_X9_drop rfl rfl rfl (by decide +kernel) ⟨Nat.le_of_ble_eq_true rfl, Nat.le_of_ble_eq_true rfl⟩) hK hw (by omega) (by omega) sl_40_0 rfl rfl hl.1 (by rw [h40]; rfl) (Nat.le_of_ble_eq_true rfl) dL_law_300 ⟨by show _ ≤ (601024 : Nat); omega, by show _ ≤ (7293034 : Nat); omega⟩) hS (fun z12 u13 H locs p14 hw hS => ?_)
  obtain ⟨X15, rfl, hRX15, hFX15, hMX15, hzX15⟩ := p14
  have hI16 : LI0 q0 q1 q2 ad cnt X15 Y8 ln := LI0.mdl hI9.1 hRX15 hFX15 hMX15 (by decide)
  have hI17 : LI q0 q1 q2 ad cnt X15 Y8 ln := ⟨hI16, ty_c hI9.2 hFX15 (by decide)⟩
  refine lv_pop hx hb dL_law_303 rfl ?_
  refine lv_goto (tgt := 1343) hx hb dL_law_304 (by decide) ?_
  exact hg _ _ _ _ _ H locs ls _ _ hI17 hw hS hl (by omega) (by omega)

set_option maxHeartbeats 4000000 in
set_option maxRecDepth 100000 in
theorem law_c3 {p : Program} {l : Launch} {e : Env} {s : State} {m : MethodId} {below : List Frame} {meth : Method} {c : Code} {b L : Nat} {xs : Nat → Int32} {D : va_G} {tc : Nat → ClassId} {Q : State → Prop} {q0 q1 q2 cB sB : Nat} {i : Int} (C : LK p l s m c b L xs D tc) (hi : 0 ≤ i ∧ i + 7 ≤ L) (hcB : cB + 310 ≤ 601024) (hsB : sB + 2110 ≤ 7293034) (hg : LAt p l e s m below meth c b D tc q0 q1 q2 i Q 1343 (cB + 310) (sB + 2110)) : LAt p l e s m below meth c b D tc q0 q1 q2 i Q 307 cB sB := by
  obtain ⟨hx, hb, hml, hown, hts, hX, hbl, hK, hT, hlT, hL⟩ := id C
  intro ad cnt X Y ln H locs ls cl sl hI hw hS hl hcl hsl
  refine lv_aload_n hx hb dL_law_307 rfl (lv_at hl 1 rfl) ?_
  refine l_arg (k := 1) (pc2 := 312) C hS hl hi (by omega) dL_law_308 dL_law_309 (fun h => lv_iconst (v := jI 1) hx hb dL_law_311 rfl h) dL_law_312 dL_law_313 (fun a1 ga1 => ?_)
  refine l_arg (k := 2) (pc2 := 318) C hS hl hi (by omega) dL_law_314 dL_law_315 (fun h => lv_iconst (v := jI 2) hx hb dL_law_317 rfl h) dL_law_318 dL_law_319 (fun a2 ga2 => ?_)
  refine l_arg (k := 3) (pc2 := 324) C hS hl hi (by omega) dL_law_320 dL_law_321 (fun h => lv_iconst (v := jI 3) hx hb dL_law_323 rfl h) dL_law_324 dL_law_325 (fun a3 ga3 => ?_)
  refine l_bool C ga3 dL_law_326 dL_law_329 dL_law_330 dL_law_333 (fun z4 gz4 => ?_)
  obtain ⟨h0, h40, h100, hFx, hOw, hN, hLn, hR, hCI, hRv, hMI⟩ := id hI.1
  have hc0 : cnt 0 = 1 := hFx.at 0 1 (by decide)
  refine gos_i (run_V (k := 0) (i := 0) (As := [.int (jI a1), .int (jI a2), .int (jI z4)]) (rest := []) hx hb hml hown hts (c_X8_shut l D tc s.heap.size ad cnt X Y ln hR hFx hLn hCI a1 a2 z4 ga1 ga2 gz4) (cwV 3 hts gT_X8_shut rfl rfl rfl (by decide +kernel) ⟨Nat.le_of_ble_eq_true rfl, Nat.le_of_ble_eq_true rfl⟩) hK hw (by omega) (by omega) sl_0_0 rfl rfl hl.1 (by rw [h0]; rfl) (Nat.le_of_ble_eq_true rfl) dL_law_334 ⟨by show _ ≤ (601024 : Nat); omega, by show _ ≤ (7293034 : Nat); omega⟩) hS (fun z5 u6 H locs p7 hw hS => ?_)
  obtain ⟨X8, rfl, hRX8, hFX8, hCX8, hzX8⟩ := p7
  have hI9 : LI0 q0 q1 q2 ad cnt X8 Y ln := LI0.cls hI.1 hRX8 hFX8 hCX8 (by decide)
  have hI10 : LI q0 q1 q2 ad cnt X8 Y ln := ⟨hI9, ty_c hI.2 hFX8 (by decide)⟩
  refine lv_pop hx hb dL_law_337 rfl ?_
  refine lv_aload_n hx hb dL_law_338 rfl (lv_at hl 2 rfl) ?_
  refine l_arg (k := 1) (pc2 := 343) C hS hl hi (by omega) dL_law_339 dL_law_340 (fun h => lv_iconst (v := jI 1) hx hb dL_law_342 rfl h) dL_law_343 dL_law_344 (fun a11 ga11 => ?_)
  refine l_arg (k := 2) (pc2 := 349) C hS hl hi (by omega) dL_law_345 dL_law_346 (fun h => lv_iconst (v := jI 2) hx hb dL_law_348 rfl h) dL_law_349 dL_law_350 (fun a12 ga12 => ?_)
  refine l_arg (k := 3) (pc2 := 355) C hS hl hi (by omega) dL_law_351 dL_law_352 (fun h => lv_iconst (v := jI 3) hx hb dL_law_354 rfl h) dL_law_355 dL_law_356 (fun a13 ga13 => ?_)
  refine l_bool C ga13 dL_law_357 dL_law_360 dL_law_361 dL_law_364 (fun z14 gz14 => ?_)
  obtain ⟨h0, h40, h100, hFx, hOw, hN, hLn, hR, hCI, hRv, hMI⟩ := id hI10.1
  have hc40 : cnt 40 = 1 := hFx.at 40 1 (by decide)
  refine gos_i (run_V (k := 40) (i := 0) (As := [.int (jI a11), .int (jI a12), .int (jI z14)]) (rest := []) hx hb hml hown hts (c_X9_shut l D tc s.heap.size ad cnt X8 Y ln hR hFx hMI a11 a12 z14 ga11 ga12 gz14) (cwV 3 hts gT_X9_shut rfl rfl rfl (by decide +kernel) ⟨Nat.le_of_ble_eq_true rfl, Nat.le_of_ble_eq_true rfl⟩) hK hw (by omega) (by omega) sl_40_0 rfl rfl hl.1 (by rw [h40]; rfl) (Nat.le_of_ble_eq_true rfl) dL_law_365 ⟨by show _ ≤ (601024 : Nat); omega, by show _ ≤ (7293034 : Nat); omega⟩) hS (fun z15 u16 H locs p17 hw hS => ?_)
  obtain ⟨X18, rfl, hRX18, hFX18, hMX18, hzX18⟩ := p17
  have hI19 : LI0 q0 q1 q2 ad cnt X18 Y ln := LI0.mdl hI10.1 hRX18 hFX18 hMX18 (by decide)
  have hI20 : LI q0 q1 q2 ad cnt X18 Y ln := ⟨hI19, ty_c hI10.2 hFX18 (by decide)⟩
  refine lv_pop hx hb dL_law_368 rfl ?_
  refine lv_goto (tgt := 1343) hx hb dL_law_369 (by decide) ?_
  exact hg _ _ _ _ _ H locs ls _ _ hI20 hw hS hl (by omega) (by omega)

set_option maxHeartbeats 4000000 in
set_option maxRecDepth 100000 in
theorem law_c4 {p : Program} {l : Launch} {e : Env} {s : State} {m : MethodId} {below : List Frame} {meth : Method} {c : Code} {b L : Nat} {xs : Nat → Int32} {D : va_G} {tc : Nat → ClassId} {Q : State → Prop} {q0 q1 q2 cB sB : Nat} {i : Int} (C : LK p l s m c b L xs D tc) (hi : 0 ≤ i ∧ i + 7 ≤ L) (hcB : cB + 310 ≤ 601024) (hsB : sB + 2110 ≤ 7293034) (hg : LAt p l e s m below meth c b D tc q0 q1 q2 i Q 1343 (cB + 310) (sB + 2110)) : LAt p l e s m below meth c b D tc q0 q1 q2 i Q 372 cB sB := by
  obtain ⟨hx, hb, hml, hown, hts, hX, hbl, hK, hT, hlT, hL⟩ := id C
  intro ad cnt X Y ln H locs ls cl sl hI hw hS hl hcl hsl
  refine lv_aload_n hx hb dL_law_372 rfl (lv_at hl 1 rfl) ?_
  refine l_arg (k := 1) (pc2 := 377) C hS hl hi (by omega) dL_law_373 dL_law_374 (fun h => lv_iconst (v := jI 1) hx hb dL_law_376 rfl h) dL_law_377 dL_law_378 (fun a1 ga1 => ?_)
  refine l_arg (k := 2) (pc2 := 383) C hS hl hi (by omega) dL_law_379 dL_law_380 (fun h => lv_iconst (v := jI 2) hx hb dL_law_382 rfl h) dL_law_383 dL_law_384 (fun a2 ga2 => ?_)
  refine l_arg (k := 3) (pc2 := 389) C hS hl hi (by omega) dL_law_385 dL_law_386 (fun h => lv_iconst (v := jI 3) hx hb dL_law_388 rfl h) dL_law_389 dL_law_390 (fun a3 ga3 => ?_)
  refine l_arg (k := 4) (pc2 := 395) C hS hl hi (by omega) dL_law_391 dL_law_392 (fun h => lv_iconst (v := jI 4) hx hb dL_law_394 rfl h) dL_law_395 dL_law_396 (fun a4 ga4 => ?_)
  refine l_arg (k := 5) (pc2 := 401) C hS hl hi (by omega) dL_law_397 dL_law_398 (fun h => lv_iconst (v := jI 5) hx hb dL_law_400 rfl h) dL_law_401 dL_law_402 (fun a5 ga5 => ?_)
  refine lv_i2l hx hb dL_law_403 rfl ?_
  refine lv_bipush (v := jI 32) hx hb dL_law_404 (by decide) ?_
  refine lv_lshl hx hb dL_law_406 rfl ?_
  refine l_arg (k := 6) (pc2 := 412) C hS hl hi (by omega) dL_law_407 dL_law_408 (fun h => lv_bipush (v := jI 6) hx hb dL_law_410 (by decide) h) dL_law_412 dL_law_413 (fun a6 ga6 => ?_)
  refine lv_i2l hx hb dL_law_414 rfl ?_
  refine lv_ldc2 hx hb hown C.c32 dL_law_415 ?_
  refine lv_land hx hb dL_law_418 ?_
  refine lv_lor hx hb dL_law_419 ?_
  refine l_topl (fun v7 gv7 => ?_)
  obtain ⟨h0, h40, h100, hFx, hOw, hN, hLn, hR, hCI, hRv, hMI⟩ := id hI.1
  have hc0 : cnt 0 = 1 := hFx.at 0 1 (by decide)
  refine gos_i (run_V (k := 0) (i := 0) (As := [.int (jI a1), .int (jI a2), .int (jI a3), .int (jI a4), .long (jL v7)]) (rest := []) hx hb hml hown hts (c_X8_check l D tc s.heap.size ad cnt X Y ln hR hFx hLn hCI hOw hN a1 a2 a3 a4 v7 ga1 ga2 ga3 ga4 gv7) (cwV 5 hts gT_X8_check rfl rfl rfl (by decide +kernel) ⟨Nat.le_of_ble_eq_true rfl, Nat.le_of_ble_eq_true rfl⟩) hK hw (by omega) (by omega) sl_0_0 rfl rfl hl.1 (by rw [h0]; rfl) (Nat.le_of_ble_eq_true rfl) dL_law_420 ⟨by show _ ≤ (601024 : Nat); omega, by show _ ≤ (7293034 : Nat); omega⟩) hS (fun z8 u9 H locs p10 hw hS => ?_)
  obtain ⟨ad13, cnt14, X11, Y15, ln16, rfl, hEX11, hFxX11, hOwX11, hLnX11, hRX11, hFX11, hHX11, hCX11, hzX11⟩ := p10
  have hI12 : LI0 q0 q1 q2 ad13 cnt14 X11 Y15 ln16 := LI0.grow hI.1 hEX11 hFxX11 hOwX11 hLnX11 hRX11 hFX11 hCX11 (by decide)
  have hI17 : LI q0 q1 q2 ad13 cnt14 X11 Y15 ln16 := ⟨hI12, ty_c hI.2 hFX11 (by decide)⟩
  refine lv_pop hx hb dL_law_423 rfl ?_
  refine lv_aload_n hx hb dL_law_424 rfl (lv_at hl 2 rfl) ?_
  refine l_arg (k := 1) (pc2 := 429) C hS hl hi (by omega) dL_law_425 dL_law_426 (fun h => lv_iconst (v := jI 1) hx hb dL_law_428 rfl h) dL_law_429 dL_law_430 (fun a18 ga18 => ?_)
  refine l_arg (k := 2) (pc2 := 435) C hS hl hi (by omega) dL_law_431 dL_law_432 (fun h => lv_iconst (v := jI 2) hx hb dL_law_434 rfl h) dL_law_435 dL_law_436 (fun a19 ga19 => ?_)
  refine l_arg (k := 3) (pc2 := 441) C hS hl hi (by omega) dL_law_437 dL_law_438 (fun h => lv_iconst (v := jI 3) hx hb dL_law_440 rfl h) dL_law_441 dL_law_442 (fun a20 ga20 => ?_)
  refine l_arg (k := 4) (pc2 := 447) C hS hl hi (by omega) dL_law_443 dL_law_444 (fun h => lv_iconst (v := jI 4) hx hb dL_law_446 rfl h) dL_law_447 dL_law_448 (fun a21 ga21 => ?_)
  refine l_arg (k := 5) (pc2 := 453) C hS hl hi (by omega) dL_law_449 dL_law_450 (fun h => lv_iconst (v := jI 5) hx hb dL_law_452 rfl h) dL_law_453 dL_law_454 (fun a22 ga22 => ?_)
  refine lv_i2l hx hb dL_law_455 rfl ?_
  refine lv_bipush (v := jI 32) hx hb dL_law_456 (by decide) ?_
  refine lv_lshl hx hb dL_law_458 rfl ?_
  refine l_arg (k := 6) (pc2 := 464) C hS hl hi (by omega) dL_law_459 dL_law_460 (fun h => lv_bipush (v := jI 6) hx hb dL_law_462 (by decide) h) dL_law_464 dL_law_465 (fun a23 ga23 => ?_)
  refine lv_i2l hx hb dL_law_466 rfl ?_
  refine lv_ldc2 hx hb hown C.c32 dL_law_467 ?_
  refine lv_land hx hb dL_law_470 ?_
  refine lv_lor hx hb dL_law_471 ?_
  refine l_topl (fun v24 gv24 => ?_)
  obtain ⟨h0, h40, h100, hFx, hOw, hN, hLn, hR, hCI, hRv, hMI⟩ := id hI17.1
  have hc40 : cnt14 40 = 1 := hFx.at 40 1 (by decide)
  refine gos_i (run_V (k := 40) (i := 0) (As := [.int (jI a18), .int (jI a19), .int (jI a20), .int (jI a21), .long (jL v24)]) (rest := []) hx hb hml hown hts (c_X9_check l D tc s.heap.size ad13 cnt14 X11 Y15 ln16 hR hFx hMI a18 a19 a20 a21 v24 ga18 ga19 ga20 ga21 gv24) (cwV 5 hts gT_X9_check rfl rfl rfl (by decide +kernel) ⟨Nat.le_of_ble_eq_true rfl, Nat.le_of_ble_eq_true rfl⟩) hK hw (by omega) (by omega) sl_40_0 rfl rfl hl.1 (by rw [h40]; rfl) (Nat.le_of_ble_eq_true rfl) dL_law_472 ⟨by show _ ≤ (601024 : Nat); omega, by show _ ≤ (7293034 : Nat); omega⟩) hS (fun z25 u26 H locs p27 hw hS => ?_)
  obtain ⟨X28, rfl, hRX28, hFX28, hMX28, hzX28⟩ := p27
  have hI29 : LI0 q0 q1 q2 ad13 cnt14 X28 Y15 ln16 := LI0.mdl hI17.1 hRX28 hFX28 hMX28 (by decide)
  have hI30 : LI q0 q1 q2 ad13 cnt14 X28 Y15 ln16 := ⟨hI29, ty_c hI17.2 hFX28 (by decide)⟩
  refine lv_pop hx hb dL_law_475 rfl ?_
  refine lv_goto (tgt := 1343) hx hb dL_law_476 (by decide) ?_
  exact hg _ _ _ _ _ H locs ls _ _ hI30 hw hS hl (by omega) (by omega)

set_option maxHeartbeats 4000000 in
set_option maxRecDepth 100000 in
theorem law_c5 {p : Program} {l : Launch} {e : Env} {s : State} {m : MethodId} {below : List Frame} {meth : Method} {c : Code} {b L : Nat} {xs : Nat → Int32} {D : va_G} {tc : Nat → ClassId} {Q : State → Prop} {q0 q1 q2 cB sB : Nat} {i : Int} (C : LK p l s m c b L xs D tc) (hi : 0 ≤ i ∧ i + 7 ≤ L) (hcB : cB + 310 ≤ 601024) (hsB : sB + 2110 ≤ 7293034) (hg : LAt p l e s m below meth c b D tc q0 q1 q2 i Q 1343 (cB + 310) (sB + 2110)) : LAt p l e s m below meth c b D tc q0 q1 q2 i Q 479 cB sB := by
  obtain ⟨hx, hb, hml, hown, hts, hX, hbl, hK, hT, hlT, hL⟩ := id C
  intro ad cnt X Y ln H locs ls cl sl hI hw hS hl hcl hsl
  refine lv_aload_n hx hb dL_law_479 rfl (lv_at hl 1 rfl) ?_
  refine l_arg (k := 1) (pc2 := 484) C hS hl hi (by omega) dL_law_480 dL_law_481 (fun h => lv_iconst (v := jI 1) hx hb dL_law_483 rfl h) dL_law_484 dL_law_485 (fun a1 ga1 => ?_)
  obtain ⟨h0, h40, h100, hFx, hOw, hN, hLn, hR, hCI, hRv, hMI⟩ := id hI.1
  have hc0 : cnt 0 = 1 := hFx.at 0 1 (by decide)
  refine gos_i (run_V (k := 0) (i := 0) (As := [.int (jI a1)]) (rest := []) hx hb hml hown hts (c_X8_unchecked l D tc s.heap.size ad cnt X Y ln hR hFx hLn hCI a1 ga1) (cwV 1 hts gT_X8_unchecked rfl rfl rfl (by decide +kernel) ⟨Nat.le_of_ble_eq_true rfl, Nat.le_of_ble_eq_true rfl⟩) hK hw (by omega) (by omega) sl_0_0 rfl rfl hl.1 (by rw [h0]; rfl) (Nat.le_of_ble_eq_true rfl) dL_law_486 ⟨by show _ ≤ (601024 : Nat); omega, by show _ ≤ (7293034 : Nat); omega⟩) hS (fun z2 u3 H locs p4 hw hS => ?_)
  obtain ⟨X5, rfl, hRX5, hFX5, hCX5, hzX5⟩ := p4
  have hI6 : LI0 q0 q1 q2 ad cnt X5 Y ln := LI0.cls hI.1 hRX5 hFX5 hCX5 (by decide)
  have hI7 : LI q0 q1 q2 ad cnt X5 Y ln := ⟨hI6, ty_c hI.2 hFX5 (by decide)⟩
  refine lv_pop hx hb dL_law_489 rfl ?_
  refine lv_aload_n hx hb dL_law_490 rfl (lv_at hl 2 rfl) ?_
  refine l_arg (k := 1) (pc2 := 495) C hS hl hi (by omega) dL_law_491 dL_law_492 (fun h => lv_iconst (v := jI 1) hx hb dL_law_494 rfl h) dL_law_495 dL_law_496 (fun a8 ga8 => ?_)
  obtain ⟨h0, h40, h100, hFx, hOw, hN, hLn, hR, hCI, hRv, hMI⟩ := id hI7.1
  have hc40 : cnt 40 = 1 := hFx.at 40 1 (by decide)
  refine gos_i (run_V (k := 40) (i := 0) (As := [.int (jI a8)]) (rest := []) hx hb hml hown hts (c_X9_unchecked l D tc s.heap.size ad cnt X5 Y ln hR hFx hMI a8 ga8) (cwV 1 hts gT_X9_unchecked rfl rfl rfl (by decide +kernel) ⟨Nat.le_of_ble_eq_true rfl, Nat.le_of_ble_eq_true rfl⟩) hK hw (by omega) (by omega) sl_40_0 rfl rfl hl.1 (by rw [h40]; rfl) (Nat.le_of_ble_eq_true rfl) dL_law_497 ⟨by show _ ≤ (601024 : Nat); omega, by show _ ≤ (7293034 : Nat); omega⟩) hS (fun z9 u10 H locs p11 hw hS => ?_)
  obtain ⟨X12, rfl, hRX12, hFX12, hMX12, hzX12⟩ := p11
  have hI13 : LI0 q0 q1 q2 ad cnt X12 Y ln := LI0.mdl hI7.1 hRX12 hFX12 hMX12 (by decide)
  have hI14 : LI q0 q1 q2 ad cnt X12 Y ln := ⟨hI13, ty_c hI7.2 hFX12 (by decide)⟩
  refine lv_pop hx hb dL_law_500 rfl ?_
  refine lv_goto (tgt := 1343) hx hb dL_law_501 (by decide) ?_
  exact hg _ _ _ _ _ H locs ls _ _ hI14 hw hS hl (by omega) (by omega)

set_option maxHeartbeats 4000000 in
set_option maxRecDepth 100000 in
theorem law_c6 {p : Program} {l : Launch} {e : Env} {s : State} {m : MethodId} {below : List Frame} {meth : Method} {c : Code} {b L : Nat} {xs : Nat → Int32} {D : va_G} {tc : Nat → ClassId} {Q : State → Prop} {q0 q1 q2 cB sB : Nat} {i : Int} (C : LK p l s m c b L xs D tc) (hi : 0 ≤ i ∧ i + 7 ≤ L) (hcB : cB + 310 ≤ 601024) (hsB : sB + 2110 ≤ 7293034) (hg : LAt p l e s m below meth c b D tc q0 q1 q2 i Q 1343 (cB + 310) (sB + 2110)) : LAt p l e s m below meth c b D tc q0 q1 q2 i Q 504 cB sB := by
  obtain ⟨hx, hb, hml, hown, hts, hX, hbl, hK, hT, hlT, hL⟩ := id C
  intro ad cnt X Y ln H locs ls cl sl hI hw hS hl hcl hsl
  refine lv_aload_n hx hb dL_law_504 rfl (lv_at hl 1 rfl) ?_
  refine l_arg (k := 1) (pc2 := 509) C hS hl hi (by omega) dL_law_505 dL_law_506 (fun h => lv_iconst (v := jI 1) hx hb dL_law_508 rfl h) dL_law_509 dL_law_510 (fun a1 ga1 => ?_)
  refine l_arg (k := 2) (pc2 := 515) C hS hl hi (by omega) dL_law_511 dL_law_512 (fun h => lv_iconst (v := jI 2) hx hb dL_law_514 rfl h) dL_law_515 dL_law_516 (fun a2 ga2 => ?_)
  refine l_bool C ga2 dL_law_517 dL_law_520 dL_law_521 dL_law_524 (fun z3 gz3 => ?_)
  obtain ⟨h0, h40, h100, hFx, hOw, hN, hLn, hR, hCI, hRv, hMI⟩ := id hI.1
  have hc0 : cnt 0 = 1 := hFx.at 0 1 (by decide)
  refine gos_i (run_V (k := 0) (i := 0) (As := [.int (jI a1), .int (jI z3)]) (rest := []) hx hb hml hown hts (c_X8_word l D tc s.heap.size ad cnt X Y ln hR hFx hLn hCI a1 z3 ga1 gz3) (cwV 2 hts gT_X8_word rfl rfl rfl (by decide +kernel) ⟨Nat.le_of_ble_eq_true rfl, Nat.le_of_ble_eq_true rfl⟩) hK hw (by omega) (by omega) sl_0_0 rfl rfl hl.1 (by rw [h0]; rfl) (Nat.le_of_ble_eq_true rfl) dL_law_525 ⟨by show _ ≤ (601024 : Nat); omega, by show _ ≤ (7293034 : Nat); omega⟩) hS (fun z4 u5 H locs p6 hw hS => ?_)
  obtain ⟨X7, rfl, hRX7, hFX7, hCX7, hzX7⟩ := p6
  have hI8 : LI0 q0 q1 q2 ad cnt X7 Y ln := LI0.cls hI.1 hRX7 hFX7 hCX7 (by decide)
  have hI9 : LI q0 q1 q2 ad cnt X7 Y ln := ⟨hI8, ty_c hI.2 hFX7 (by decide)⟩
  refine lv_pop hx hb dL_law_528 rfl ?_
  refine lv_aload_n hx hb dL_law_529 rfl (lv_at hl 2 rfl) ?_
  refine l_arg (k := 1) (pc2 := 534) C hS hl hi (by omega) dL_law_530 dL_law_531 (fun h => lv_iconst (v := jI 1) hx hb dL_law_533 rfl h) dL_law_534 dL_law_535 (fun a10 ga10 => ?_)
  refine l_arg (k := 2) (pc2 := 540) C hS hl hi (by omega) dL_law_536 dL_law_537 (fun h => lv_iconst (v := jI 2) hx hb dL_law_539 rfl h) dL_law_540 dL_law_541 (fun a11 ga11 => ?_)
  refine l_bool C ga11 dL_law_542 dL_law_545 dL_law_546 dL_law_549 (fun z12 gz12 => ?_)
  obtain ⟨h0, h40, h100, hFx, hOw, hN, hLn, hR, hCI, hRv, hMI⟩ := id hI9.1
  have hc40 : cnt 40 = 1 := hFx.at 40 1 (by decide)
  refine gos_i (run_V (k := 40) (i := 0) (As := [.int (jI a10), .int (jI z12)]) (rest := []) hx hb hml hown hts (c_X9_word l D tc s.heap.size ad cnt X7 Y ln hR hFx hMI a10 z12 ga10 gz12) (cwV 2 hts gT_X9_word rfl rfl rfl (by decide +kernel) ⟨Nat.le_of_ble_eq_true rfl, Nat.le_of_ble_eq_true rfl⟩) hK hw (by omega) (by omega) sl_40_0 rfl rfl hl.1 (by rw [h40]; rfl) (Nat.le_of_ble_eq_true rfl) dL_law_550 ⟨by show _ ≤ (601024 : Nat); omega, by show _ ≤ (7293034 : Nat); omega⟩) hS (fun z13 u14 H locs p15 hw hS => ?_)
  obtain ⟨X16, rfl, hRX16, hFX16, hMX16, hzX16⟩ := p15
  have hI17 : LI0 q0 q1 q2 ad cnt X16 Y ln := LI0.mdl hI9.1 hRX16 hFX16 hMX16 (by decide)
  have hI18 : LI q0 q1 q2 ad cnt X16 Y ln := ⟨hI17, ty_c hI9.2 hFX16 (by decide)⟩
  refine lv_pop hx hb dL_law_553 rfl ?_
  refine lv_goto (tgt := 1343) hx hb dL_law_554 (by decide) ?_
  exact hg _ _ _ _ _ H locs ls _ _ hI18 hw hS hl (by omega) (by omega)

