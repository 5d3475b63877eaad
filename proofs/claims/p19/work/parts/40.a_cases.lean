section
set_option maxHeartbeats 4000000 in
set_option maxRecDepth 100000 in
theorem law_c0 {p : Program} {l : Launch} {e : Env} {s : State} {m : MethodId} {below : List Frame} {meth : Method} {c : Code} {b L : Nat} {xs : Nat → Int32} {D : va_G} {tc : Nat → ClassId} {Q : State → Prop} {q0 q1 q2 cB sB : Nat} {i : Int} (C : LK p l s m c b L xs D tc) (hi : 0 ≤ i ∧ i + 7 ≤ L) (hcB : cB + 310 ≤ 601024) (hsB : sB + 2110 ≤ 7293034) (hg : LAt p l e s m below meth c b D tc q0 q1 q2 i Q 1343 (cB + 310) (sB + 2110)) : LAt p l e s m below meth c b D tc q0 q1 q2 i Q 164 cB sB := by
  obtain ⟨hx, hb, hml, hown, hts, hX, hbl, hK, hT, hlT, hL⟩ := id C
  intro ad cnt X Y ln H locs ls cl sl hI hw hS hl hcl hsl
  obtain ⟨hI0, hRC0⟩ := id hI
  obtain ⟨i0, i40, i100, iFx, iOw, iN, iLn, iR, iCI, iRv, iMI⟩ := id hI0
  refine lv_aload_n hx hb dL_law_164 rfl (lv_at hl 1 rfl) ?_
  obtain ⟨h0, h40, h100, hFx, hOw, hN, hLn, hR, hCI, hRv, hMI⟩ := id hI0
  have hc0 : cnt 0 = 1 := hFx.at 0 1 (by decide)
  refine gos_i (run_V (k := 0) (i := 0) (As := []) (rest := []) hx hb hml hown hts (c_X8_type l D tc s.heap.size ad cnt X Y ln hR hFx hLn hCI hOw hN) (cwV 0 hts gT_X8_type rfl rfl rfl (by first | exact hd_X8_type | decide +kernel) ⟨Nat.le_of_ble_eq_true rfl, Nat.le_of_ble_eq_true rfl⟩) hK hw (by first | exact Int.le_refl 0 | omega) (by first | exact zlt hc0 | omega) sl_0_0 rfl rfl hl.1 (by rw [h0]; rfl) (Nat.le_of_ble_eq_true rfl) dL_law_165 ⟨by show _ ≤ (601024 : Nat); omega, by show _ ≤ (7293034 : Nat); omega⟩) hS (fun z1 u2 H locs p3 hw hS => ?_)
  obtain ⟨ad6, cnt7, X4, Y8, ln9, rfl, hEX4, hFxX4, hOwX4, hLnX4, hRX4, hFX4, hHX4, hCX4, hzX4, pX4⟩ := p3
  have hI5 : LI0 q0 q1 q2 ad6 cnt7 X4 Y8 ln9 := LI0.grow hI0 hEX4 hFxX4 hOwX4 hLnX4 hRX4 hFX4 hCX4 (by decide)
  refine lv_pop hx hb dL_law_168 rfl ?_
  refine lv_aload_n hx hb dL_law_169 rfl (lv_at hl 2 rfl) ?_
  obtain ⟨h0, h40, h100, hFx, hOw, hN, hLn, hR, hCI, hRv, hMI⟩ := id hI5
  have hc40 : cnt7 40 = 1 := hFx.at 40 1 (by decide)
  refine gos_i (run_V (k := 40) (i := 0) (As := []) (rest := []) hx hb hml hown hts (c_X9_type l D tc s.heap.size ad6 cnt7 X4 Y8 ln9 hR hFx hMI) (cwV 0 hts gT_X9_type rfl rfl rfl (by first | exact hd_X9_type | decide +kernel) ⟨Nat.le_of_ble_eq_true rfl, Nat.le_of_ble_eq_true rfl⟩) hK hw (by first | exact Int.le_refl 0 | omega) (by first | exact zlt hc40 | omega) sl_40_0 rfl rfl hl.1 (by rw [h40]; rfl) (Nat.le_of_ble_eq_true rfl) dL_law_170 ⟨by show _ ≤ (601024 : Nat); omega, by show _ ≤ (7293034 : Nat); omega⟩) hS (fun z10 u11 H locs p12 hw hS => ?_)
  obtain ⟨X13, rfl, hRX13, hFX13, hMX13, hzX13, pX13⟩ := p12
  have hI14 : LI0 q0 q1 q2 ad6 cnt7 X13 Y8 ln9 := LI0.mdl hI5 hRX13 hFX13 hMX13 (by decide)
  refine lv_pop hx hb dL_law_173 rfl ?_
  obtain ⟨hRC, hq9⟩ := J_type hRC0 iMI iR hRX4 iLn iN hFX4 hHX4 hEX4.2.1 hEX4.2.2 hLnX4 pX4 hFX13 hMX13 pX13
  refine lv_goto (tgt := 1343) hx hb dL_law_174 (by decide) ?_
  exact hg _ _ _ _ _ H locs ls _ _ ⟨hI14, hRC⟩ hw hS hl (by omega) (by omega)

set_option maxHeartbeats 4000000 in
set_option maxRecDepth 100000 in
theorem law_c1 {p : Program} {l : Launch} {e : Env} {s : State} {m : MethodId} {below : List Frame} {meth : Method} {c : Code} {b L : Nat} {xs : Nat → Int32} {D : va_G} {tc : Nat → ClassId} {Q : State → Prop} {q0 q1 q2 cB sB : Nat} {i : Int} (C : LK p l s m c b L xs D tc) (hi : 0 ≤ i ∧ i + 7 ≤ L) (hcB : cB + 310 ≤ 601024) (hsB : sB + 2110 ≤ 7293034) (hg : LAt p l e s m below meth c b D tc q0 q1 q2 i Q 1343 (cB + 310) (sB + 2110)) : LAt p l e s m below meth c b D tc q0 q1 q2 i Q 177 cB sB := by
  obtain ⟨hx, hb, hml, hown, hts, hX, hbl, hK, hT, hlT, hL⟩ := id C
  intro ad cnt X Y ln H locs ls cl sl hI hw hS hl hcl hsl
  obtain ⟨hI0, hRC0⟩ := id hI
  obtain ⟨i0, i40, i100, iFx, iOw, iN, iLn, iR, iCI, iRv, iMI⟩ := id hI0
  refine lv_aload_n hx hb dL_law_177 rfl (lv_at hl 1 rfl) ?_
  obtain ⟨a1, ea1, ga1⟩ := sc_at xs i 1
  refine l_arg (k := 1) (pc2 := 182) C hS hl hi (by omega) ea1 dL_law_178 dL_law_179 (fun h => lv_iconst (v := jI 1) hx hb dL_law_181 rfl h) dL_law_182 dL_law_183 ?_
  obtain ⟨a2, ea2, ga2⟩ := sc_at xs i 2
  refine l_arg (k := 2) (pc2 := 188) C hS hl hi (by omega) ea2 dL_law_184 dL_law_185 (fun h => lv_iconst (v := jI 2) hx hb dL_law_187 rfl h) dL_law_188 dL_law_189 ?_
  obtain ⟨a3, ea3, ga3⟩ := sc_at xs i 3
  refine l_arg (k := 3) (pc2 := 194) C hS hl hi (by omega) ea3 dL_law_190 dL_law_191 (fun h => lv_iconst (v := jI 3) hx hb dL_law_193 rfl h) dL_law_194 dL_law_195 ?_
  obtain ⟨a4, ea4, ga4⟩ := sc_at xs i 4
  refine l_arg (k := 4) (pc2 := 200) C hS hl hi (by omega) ea4 dL_law_196 dL_law_197 (fun h => lv_iconst (v := jI 4) hx hb dL_law_199 rfl h) dL_law_200 dL_law_201 ?_
  refine lv_i2l hx hb dL_law_202 rfl ?_
  refine lv_bipush (v := jI 32) hx hb dL_law_203 (by decide) ?_
  refine lv_lshl hx hb dL_law_205 rfl ?_
  obtain ⟨a5, ea5, ga5⟩ := sc_at xs i 5
  refine l_arg (k := 5) (pc2 := 210) C hS hl hi (by omega) ea5 dL_law_206 dL_law_207 (fun h => lv_iconst (v := jI 5) hx hb dL_law_209 rfl h) dL_law_210 dL_law_211 ?_
  refine lv_i2l hx hb dL_law_212 rfl ?_
  refine lv_ldc2 hx hb hown C.c32 dL_law_213 ?_
  refine lv_land hx hb dL_law_216 ?_
  refine lv_lor hx hb dL_law_217 ?_
  refine l_topl (fun v4 gv4 ev4 => ?_)
  obtain ⟨h0, h40, h100, hFx, hOw, hN, hLn, hR, hCI, hRv, hMI⟩ := id hI0
  have hc0 : cnt 0 = 1 := hFx.at 0 1 (by decide)
  refine gos_i (run_V (k := 0) (i := 0) (As := [.int (jI a1), .int (jI a2), .int (jI a3), .long (jL v4)]) (rest := []) hx hb hml hown hts (c_X8_field l D tc s.heap.size ad cnt X Y ln hR hFx hLn hCI a1 a2 a3 v4 ga1 ga2 ga3 gv4) (cwV 4 hts gT_X8_field rfl rfl rfl (by first | exact hd_X8_field | decide +kernel) ⟨Nat.le_of_ble_eq_true rfl, Nat.le_of_ble_eq_true rfl⟩) hK hw (by first | exact Int.le_refl 0 | omega) (by first | exact zlt hc0 | omega) sl_0_0 rfl rfl hl.1 (by rw [h0]; rfl) (Nat.le_of_ble_eq_true rfl) dL_law_218 ⟨by show _ ≤ (601024 : Nat); omega, by show _ ≤ (7293034 : Nat); omega⟩) hS (fun z1 u2 H locs p3 hw hS => ?_)
  obtain ⟨X4, Y6, rfl, hRX4, hFX4, hHX4, hCX4, hzX4, pX4⟩ := p3
  have hI5 : LI0 q0 q1 q2 ad cnt X4 Y6 ln := LI0.cls hI0 hRX4 hFX4 hCX4 (by decide)
  refine lv_pop hx hb dL_law_221 rfl ?_
  refine lv_aload_n hx hb dL_law_222 rfl (lv_at hl 2 rfl) ?_
  refine l_arg (k := 1) (pc2 := 227) C hS hl hi (by omega) ea1 dL_law_223 dL_law_224 (fun h => lv_iconst (v := jI 1) hx hb dL_law_226 rfl h) dL_law_227 dL_law_228 ?_
  refine l_arg (k := 2) (pc2 := 233) C hS hl hi (by omega) ea2 dL_law_229 dL_law_230 (fun h => lv_iconst (v := jI 2) hx hb dL_law_232 rfl h) dL_law_233 dL_law_234 ?_
  refine l_arg (k := 3) (pc2 := 239) C hS hl hi (by omega) ea3 dL_law_235 dL_law_236 (fun h => lv_iconst (v := jI 3) hx hb dL_law_238 rfl h) dL_law_239 dL_law_240 ?_
  refine l_arg (k := 4) (pc2 := 245) C hS hl hi (by omega) ea4 dL_law_241 dL_law_242 (fun h => lv_iconst (v := jI 4) hx hb dL_law_244 rfl h) dL_law_245 dL_law_246 ?_
  refine lv_i2l hx hb dL_law_247 rfl ?_
  refine lv_bipush (v := jI 32) hx hb dL_law_248 (by decide) ?_
  refine lv_lshl hx hb dL_law_250 rfl ?_
  refine l_arg (k := 5) (pc2 := 255) C hS hl hi (by omega) ea5 dL_law_251 dL_law_252 (fun h => lv_iconst (v := jI 5) hx hb dL_law_254 rfl h) dL_law_255 dL_law_256 ?_
  refine lv_i2l hx hb dL_law_257 rfl ?_
  refine lv_ldc2 hx hb hown C.c32 dL_law_258 ?_
  refine lv_land hx hb dL_law_261 ?_
  refine lv_lor hx hb dL_law_262 ?_
  refine l_topt ev4 ?_
  obtain ⟨h0, h40, h100, hFx, hOw, hN, hLn, hR, hCI, hRv, hMI⟩ := id hI5
  have hc40 : cnt 40 = 1 := hFx.at 40 1 (by decide)
  refine gos_i (run_V (k := 40) (i := 0) (As := [.int (jI a1), .int (jI a2), .int (jI a3), .long (jL v4)]) (rest := []) hx hb hml hown hts (c_X9_field l D tc s.heap.size ad cnt X4 Y6 ln hR hFx hMI a1 a2 a3 v4 ga1 ga2 ga3 gv4) (cwV 4 hts gT_X9_field rfl rfl rfl (by first | exact hd_X9_field | decide +kernel) ⟨Nat.le_of_ble_eq_true rfl, Nat.le_of_ble_eq_true rfl⟩) hK hw (by first | exact Int.le_refl 0 | omega) (by first | exact zlt hc40 | omega) sl_40_0 rfl rfl hl.1 (by rw [h40]; rfl) (Nat.le_of_ble_eq_true rfl) dL_law_263 ⟨by show _ ≤ (601024 : Nat); omega, by show _ ≤ (7293034 : Nat); omega⟩) hS (fun z7 u8 H locs p9 hw hS => ?_)
  obtain ⟨X10, rfl, hRX10, hFX10, hMX10, hzX10, pX10⟩ := p9
  have hI11 : LI0 q0 q1 q2 ad cnt X10 Y6 ln := LI0.mdl hI5 hRX10 hFX10 hMX10 (by decide)
  refine lv_pop hx hb dL_law_266 rfl ?_
  obtain ⟨hRC, hq9⟩ := J_field hRC0 iMI iR hRX4 iLn iN hFX4 hHX4 pX4 hFX10 hMX10 pX10
  refine lv_goto (tgt := 1343) hx hb dL_law_267 (by decide) ?_
  exact hg _ _ _ _ _ H locs ls _ _ ⟨hI11, hRC⟩ hw hS hl (by omega) (by omega)

set_option maxHeartbeats 4000000 in
set_option maxRecDepth 100000 in
theorem law_c2 {p : Program} {l : Launch} {e : Env} {s : State} {m : MethodId} {below : List Frame} {meth : Method} {c : Code} {b L : Nat} {xs : Nat → Int32} {D : va_G} {tc : Nat → ClassId} {Q : State → Prop} {q0 q1 q2 cB sB : Nat} {i : Int} (C : LK p l s m c b L xs D tc) (hi : 0 ≤ i ∧ i + 7 ≤ L) (hcB : cB + 310 ≤ 601024) (hsB : sB + 2110 ≤ 7293034) (hg : LAt p l e s m below meth c b D tc q0 q1 q2 i Q 1343 (cB + 310) (sB + 2110)) : LAt p l e s m below meth c b D tc q0 q1 q2 i Q 270 cB sB := by
  obtain ⟨hx, hb, hml, hown, hts, hX, hbl, hK, hT, hlT, hL⟩ := id C
  intro ad cnt X Y ln H locs ls cl sl hI hw hS hl hcl hsl
  obtain ⟨hI0, hRC0⟩ := id hI
  obtain ⟨i0, i40, i100, iFx, iOw, iN, iLn, iR, iCI, iRv, iMI⟩ := id hI0
  refine lv_aload_n hx hb dL_law_270 rfl (lv_at hl 1 rfl) ?_
  obtain ⟨a1, ea1, ga1⟩ := sc_at xs i 1
  refine l_arg (k := 1) (pc2 := 275) C hS hl hi (by omega) ea1 dL_law_271 dL_law_272 (fun h => lv_iconst (v := jI 1) hx hb dL_law_274 rfl h) dL_law_275 dL_law_276 ?_
  obtain ⟨a2, ea2, ga2⟩ := sc_at xs i 2
  refine l_arg (k := 2) (pc2 := 281) C hS hl hi (by omega) ea2 dL_law_277 dL_law_278 (fun h => lv_iconst (v := jI 2) hx hb dL_law_280 rfl h) dL_law_281 dL_law_282 ?_
  obtain ⟨h0, h40, h100, hFx, hOw, hN, hLn, hR, hCI, hRv, hMI⟩ := id hI0
  have hc0 : cnt 0 = 1 := hFx.at 0 1 (by decide)
  refine gos_i (run_V (k := 0) (i := 0) (As := [.int (jI a1), .int (jI a2)]) (rest := []) hx hb hml hown hts (c_X8_drop l D tc s.heap.size ad cnt X Y ln hR hFx hLn hCI a1 a2 ga1 ga2) (cwV 2 hts gT_X8_drop rfl rfl rfl (by first | exact hd_X8_drop | decide +kernel) ⟨Nat.le_of_ble_eq_true rfl, Nat.le_of_ble_eq_true rfl⟩) hK hw (by first | exact Int.le_refl 0 | omega) (by first | exact zlt hc0 | omega) sl_0_0 rfl rfl hl.1 (by rw [h0]; rfl) (Nat.le_of_ble_eq_true rfl) dL_law_283 ⟨by show _ ≤ (601024 : Nat); omega, by show _ ≤ (7293034 : Nat); omega⟩) hS (fun z1 u2 H locs p3 hw hS => ?_)
  obtain ⟨X4, Y6, rfl, hRX4, hFX4, hHX4, hCX4, hzX4, pX4⟩ := p3
  have hI5 : LI0 q0 q1 q2 ad cnt X4 Y6 ln := LI0.cls hI0 hRX4 hFX4 hCX4 (by decide)
  refine lv_pop hx hb dL_law_286 rfl ?_
  refine lv_aload_n hx hb dL_law_287 rfl (lv_at hl 2 rfl) ?_
  refine l_arg (k := 1) (pc2 := 292) C hS hl hi (by omega) ea1 dL_law_288 dL_law_289 (fun h => lv_iconst (v := jI 1) hx hb dL_law_291 rfl h) dL_law_292 dL_law_293 ?_
  refine l_arg (k := 2) (pc2 := 298) C hS hl hi (by omega) ea2 dL_law_294 dL_law_295 (fun h => lv_iconst (v := jI 2) hx hb dL_law_297 rfl h) dL_law_298 dL_law_299 ?_
  obtain ⟨h0, h40, h100, hFx, hOw, hN, hLn, hR, hCI, hRv, hMI⟩ := id hI5
  have hc40 : cnt 40 = 1 := hFx.at 40 1 (by decide)
  refine gos_i (run_V (k := 40) (i := 0) (As := [.int (jI a1), .int (jI a2)]) (rest := []) hx hb hml hown hts (c_X9_drop l D tc s.heap.size ad cnt X4 Y6 ln hR hFx hMI a1 a2 ga1 ga2) (cwV 2 hts gT_X9_drop rfl rfl rfl (by first | exact hd_X9_drop | decide +kernel) ⟨Nat.le_of_ble_eq_true rfl, Nat.le_of_ble_eq_true rfl⟩) hK hw (by first | exact Int.le_refl 0 | omega) (by first | exact zlt hc40 | omega) sl_40_0 rfl rfl hl.1 (by rw [h40]; rfl) (Nat.le_of_ble_eq_true rfl) dL_law_300 ⟨by show _ ≤ (601024 : Nat); omega, by show _ ≤ (7293034 : Nat); omega⟩) hS (fun z7 u8 H locs p9 hw hS => ?_)
  obtain ⟨X10, rfl, hRX10, hFX10, hMX10, hzX10, pX10⟩ := p9
  have hI11 : LI0 q0 q1 q2 ad cnt X10 Y6 ln := LI0.mdl hI5 hRX10 hFX10 hMX10 (by decide)
  refine lv_pop hx hb dL_law_303 rfl ?_
  obtain ⟨hRC, hq9⟩ := J_drop hRC0 iMI iR hRX4 iLn iN hFX4 hHX4 pX4 hFX10 hMX10 pX10
  refine lv_goto (tgt := 1343) hx hb dL_law_304 (by decide) ?_
  exact hg _ _ _ _ _ H locs ls _ _ ⟨hI11, hRC⟩ hw hS hl (by omega) (by omega)

set_option maxHeartbeats 4000000 in
set_option maxRecDepth 100000 in
theorem law_c3 {p : Program} {l : Launch} {e : Env} {s : State} {m : MethodId} {below : List Frame} {meth : Method} {c : Code} {b L : Nat} {xs : Nat → Int32} {D : va_G} {tc : Nat → ClassId} {Q : State → Prop} {q0 q1 q2 cB sB : Nat} {i : Int} (C : LK p l s m c b L xs D tc) (hi : 0 ≤ i ∧ i + 7 ≤ L) (hcB : cB + 310 ≤ 601024) (hsB : sB + 2110 ≤ 7293034) (hg : LAt p l e s m below meth c b D tc q0 q1 q2 i Q 1343 (cB + 310) (sB + 2110)) : LAt p l e s m below meth c b D tc q0 q1 q2 i Q 307 cB sB := by
  obtain ⟨hx, hb, hml, hown, hts, hX, hbl, hK, hT, hlT, hL⟩ := id C
  intro ad cnt X Y ln H locs ls cl sl hI hw hS hl hcl hsl
  obtain ⟨hI0, hRC0⟩ := id hI
  obtain ⟨i0, i40, i100, iFx, iOw, iN, iLn, iR, iCI, iRv, iMI⟩ := id hI0
  refine lv_aload_n hx hb dL_law_307 rfl (lv_at hl 1 rfl) ?_
  obtain ⟨a1, ea1, ga1⟩ := sc_at xs i 1
  refine l_arg (k := 1) (pc2 := 312) C hS hl hi (by omega) ea1 dL_law_308 dL_law_309 (fun h => lv_iconst (v := jI 1) hx hb dL_law_311 rfl h) dL_law_312 dL_law_313 ?_
  obtain ⟨a2, ea2, ga2⟩ := sc_at xs i 2
  refine l_arg (k := 2) (pc2 := 318) C hS hl hi (by omega) ea2 dL_law_314 dL_law_315 (fun h => lv_iconst (v := jI 2) hx hb dL_law_317 rfl h) dL_law_318 dL_law_319 ?_
  obtain ⟨a3, ea3, ga3⟩ := sc_at xs i 3
  refine l_arg (k := 3) (pc2 := 324) C hS hl hi (by omega) ea3 dL_law_320 dL_law_321 (fun h => lv_iconst (v := jI 3) hx hb dL_law_323 rfl h) dL_law_324 dL_law_325 ?_
  refine l_bool C ga3 dL_law_326 dL_law_329 dL_law_330 dL_law_333 (fun z1 gz1 ez1 => ?_)
  obtain ⟨h0, h40, h100, hFx, hOw, hN, hLn, hR, hCI, hRv, hMI⟩ := id hI0
  have hc0 : cnt 0 = 1 := hFx.at 0 1 (by decide)
  refine gos_i (run_V (k := 0) (i := 0) (As := [.int (jI a1), .int (jI a2), .int (jI z1)]) (rest := []) hx hb hml hown hts (c_X8_shut l D tc s.heap.size ad cnt X Y ln hR hFx hLn hCI a1 a2 z1 ga1 ga2 gz1) (cwV 3 hts gT_X8_shut rfl rfl rfl (by first | exact hd_X8_shut | decide +kernel) ⟨Nat.le_of_ble_eq_true rfl, Nat.le_of_ble_eq_true rfl⟩) hK hw (by first | exact Int.le_refl 0 | omega) (by first | exact zlt hc0 | omega) sl_0_0 rfl rfl hl.1 (by rw [h0]; rfl) (Nat.le_of_ble_eq_true rfl) dL_law_334 ⟨by show _ ≤ (601024 : Nat); omega, by show _ ≤ (7293034 : Nat); omega⟩) hS (fun z2 u3 H locs p4 hw hS => ?_)
  obtain ⟨X5, rfl, hRX5, hFX5, hCX5, hzX5, pX5⟩ := p4
  have hI6 : LI0 q0 q1 q2 ad cnt X5 Y ln := LI0.cls hI0 hRX5 hFX5 hCX5 (by decide)
  refine lv_pop hx hb dL_law_337 rfl ?_
  refine lv_aload_n hx hb dL_law_338 rfl (lv_at hl 2 rfl) ?_
  refine l_arg (k := 1) (pc2 := 343) C hS hl hi (by omega) ea1 dL_law_339 dL_law_340 (fun h => lv_iconst (v := jI 1) hx hb dL_law_342 rfl h) dL_law_343 dL_law_344 ?_
  refine l_arg (k := 2) (pc2 := 349) C hS hl hi (by omega) ea2 dL_law_345 dL_law_346 (fun h => lv_iconst (v := jI 2) hx hb dL_law_348 rfl h) dL_law_349 dL_law_350 ?_
  refine l_arg (k := 3) (pc2 := 355) C hS hl hi (by omega) ea3 dL_law_351 dL_law_352 (fun h => lv_iconst (v := jI 3) hx hb dL_law_354 rfl h) dL_law_355 dL_law_356 ?_
  refine l_bool C ga3 dL_law_357 dL_law_360 dL_law_361 dL_law_364 (fun z7 gz7 ez7 => ?_)
  obtain ⟨h0, h40, h100, hFx, hOw, hN, hLn, hR, hCI, hRv, hMI⟩ := id hI6
  have hc40 : cnt 40 = 1 := hFx.at 40 1 (by decide)
  refine gos_i (run_V (k := 40) (i := 0) (As := [.int (jI a1), .int (jI a2), .int (jI z7)]) (rest := []) hx hb hml hown hts (c_X9_shut l D tc s.heap.size ad cnt X5 Y ln hR hFx hMI a1 a2 z7 ga1 ga2 gz7) (cwV 3 hts gT_X9_shut rfl rfl rfl (by first | exact hd_X9_shut | decide +kernel) ⟨Nat.le_of_ble_eq_true rfl, Nat.le_of_ble_eq_true rfl⟩) hK hw (by first | exact Int.le_refl 0 | omega) (by first | exact zlt hc40 | omega) sl_40_0 rfl rfl hl.1 (by rw [h40]; rfl) (Nat.le_of_ble_eq_true rfl) dL_law_365 ⟨by show _ ≤ (601024 : Nat); omega, by show _ ≤ (7293034 : Nat); omega⟩) hS (fun z8 u9 H locs p10 hw hS => ?_)
  obtain ⟨X11, rfl, hRX11, hFX11, hMX11, hzX11, pX11⟩ := p10
  have hI12 : LI0 q0 q1 q2 ad cnt X11 Y ln := LI0.mdl hI6 hRX11 hFX11 hMX11 (by decide)
  refine lv_pop hx hb dL_law_368 rfl ?_
  obtain rfl : z7 = z1 := by omega
  obtain ⟨hRC, hq9⟩ := J_shut hRC0 iMI iR hRX5 iLn iN hFX5 pX5 hFX11 hMX11 pX11
  refine lv_goto (tgt := 1343) hx hb dL_law_369 (by decide) ?_
  exact hg _ _ _ _ _ H locs ls _ _ ⟨hI12, hRC⟩ hw hS hl (by omega) (by omega)

set_option maxHeartbeats 4000000 in
set_option maxRecDepth 100000 in
theorem law_c4 {p : Program} {l : Launch} {e : Env} {s : State} {m : MethodId} {below : List Frame} {meth : Method} {c : Code} {b L : Nat} {xs : Nat → Int32} {D : va_G} {tc : Nat → ClassId} {Q : State → Prop} {q0 q1 q2 cB sB : Nat} {i : Int} (C : LK p l s m c b L xs D tc) (hi : 0 ≤ i ∧ i + 7 ≤ L) (hcB : cB + 310 ≤ 601024) (hsB : sB + 2110 ≤ 7293034) (hg : LAt p l e s m below meth c b D tc q0 q1 q2 i Q 1343 (cB + 310) (sB + 2110)) : LAt p l e s m below meth c b D tc q0 q1 q2 i Q 372 cB sB := by
  obtain ⟨hx, hb, hml, hown, hts, hX, hbl, hK, hT, hlT, hL⟩ := id C
  intro ad cnt X Y ln H locs ls cl sl hI hw hS hl hcl hsl
  obtain ⟨hI0, hRC0⟩ := id hI
  obtain ⟨i0, i40, i100, iFx, iOw, iN, iLn, iR, iCI, iRv, iMI⟩ := id hI0
  refine lv_aload_n hx hb dL_law_372 rfl (lv_at hl 1 rfl) ?_
  obtain ⟨a1, ea1, ga1⟩ := sc_at xs i 1
  refine l_arg (k := 1) (pc2 := 377) C hS hl hi (by omega) ea1 dL_law_373 dL_law_374 (fun h => lv_iconst (v := jI 1) hx hb dL_law_376 rfl h) dL_law_377 dL_law_378 ?_
  obtain ⟨a2, ea2, ga2⟩ := sc_at xs i 2
  refine l_arg (k := 2) (pc2 := 383) C hS hl hi (by omega) ea2 dL_law_379 dL_law_380 (fun h => lv_iconst (v := jI 2) hx hb dL_law_382 rfl h) dL_law_383 dL_law_384 ?_
  obtain ⟨a3, ea3, ga3⟩ := sc_at xs i 3
  refine l_arg (k := 3) (pc2 := 389) C hS hl hi (by omega) ea3 dL_law_385 dL_law_386 (fun h => lv_iconst (v := jI 3) hx hb dL_law_388 rfl h) dL_law_389 dL_law_390 ?_
  obtain ⟨a4, ea4, ga4⟩ := sc_at xs i 4
  refine l_arg (k := 4) (pc2 := 395) C hS hl hi (by omega) ea4 dL_law_391 dL_law_392 (fun h => lv_iconst (v := jI 4) hx hb dL_law_394 rfl h) dL_law_395 dL_law_396 ?_
  obtain ⟨a5, ea5, ga5⟩ := sc_at xs i 5
  refine l_arg (k := 5) (pc2 := 401) C hS hl hi (by omega) ea5 dL_law_397 dL_law_398 (fun h => lv_iconst (v := jI 5) hx hb dL_law_400 rfl h) dL_law_401 dL_law_402 ?_
  refine lv_i2l hx hb dL_law_403 rfl ?_
  refine lv_bipush (v := jI 32) hx hb dL_law_404 (by decide) ?_
  refine lv_lshl hx hb dL_law_406 rfl ?_
  obtain ⟨a6, ea6, ga6⟩ := sc_at xs i 6
  refine l_arg (k := 6) (pc2 := 412) C hS hl hi (by omega) ea6 dL_law_407 dL_law_408 (fun h => lv_bipush (v := jI 6) hx hb dL_law_410 (by decide) h) dL_law_412 dL_law_413 ?_
  refine lv_i2l hx hb dL_law_414 rfl ?_
  refine lv_ldc2 hx hb hown C.c32 dL_law_415 ?_
  refine lv_land hx hb dL_law_418 ?_
  refine lv_lor hx hb dL_law_419 ?_
  refine l_topl (fun v5 gv5 ev5 => ?_)
  obtain ⟨h0, h40, h100, hFx, hOw, hN, hLn, hR, hCI, hRv, hMI⟩ := id hI0
  have hc0 : cnt 0 = 1 := hFx.at 0 1 (by decide)
  refine gos_i (run_V (k := 0) (i := 0) (As := [.int (jI a1), .int (jI a2), .int (jI a3), .int (jI a4), .long (jL v5)]) (rest := []) hx hb hml hown hts (c_X8_check l D tc s.heap.size ad cnt X Y ln hR hFx hLn hCI hOw hN a1 a2 a3 a4 v5 ga1 ga2 ga3 ga4 gv5) (cwV 5 hts gT_X8_check rfl rfl rfl (by first | exact hd_X8_check | decide +kernel) ⟨Nat.le_of_ble_eq_true rfl, Nat.le_of_ble_eq_true rfl⟩) hK hw (by first | exact Int.le_refl 0 | omega) (by first | exact zlt hc0 | omega) sl_0_0 rfl rfl hl.1 (by rw [h0]; rfl) (Nat.le_of_ble_eq_true rfl) dL_law_420 ⟨by show _ ≤ (601024 : Nat); omega, by show _ ≤ (7293034 : Nat); omega⟩) hS (fun z1 u2 H locs p3 hw hS => ?_)
  obtain ⟨ad6, cnt7, X4, Y8, ln9, rfl, hEX4, hFxX4, hOwX4, hLnX4, hRX4, hFX4, hHX4, hCX4, hzX4, pX4⟩ := p3
  have hI5 : LI0 q0 q1 q2 ad6 cnt7 X4 Y8 ln9 := LI0.grow hI0 hEX4 hFxX4 hOwX4 hLnX4 hRX4 hFX4 hCX4 (by decide)
  refine lv_pop hx hb dL_law_423 rfl ?_
  refine lv_aload_n hx hb dL_law_424 rfl (lv_at hl 2 rfl) ?_
  refine l_arg (k := 1) (pc2 := 429) C hS hl hi (by omega) ea1 dL_law_425 dL_law_426 (fun h => lv_iconst (v := jI 1) hx hb dL_law_428 rfl h) dL_law_429 dL_law_430 ?_
  refine l_arg (k := 2) (pc2 := 435) C hS hl hi (by omega) ea2 dL_law_431 dL_law_432 (fun h => lv_iconst (v := jI 2) hx hb dL_law_434 rfl h) dL_law_435 dL_law_436 ?_
  refine l_arg (k := 3) (pc2 := 441) C hS hl hi (by omega) ea3 dL_law_437 dL_law_438 (fun h => lv_iconst (v := jI 3) hx hb dL_law_440 rfl h) dL_law_441 dL_law_442 ?_
  refine l_arg (k := 4) (pc2 := 447) C hS hl hi (by omega) ea4 dL_law_443 dL_law_444 (fun h => lv_iconst (v := jI 4) hx hb dL_law_446 rfl h) dL_law_447 dL_law_448 ?_
  refine l_arg (k := 5) (pc2 := 453) C hS hl hi (by omega) ea5 dL_law_449 dL_law_450 (fun h => lv_iconst (v := jI 5) hx hb dL_law_452 rfl h) dL_law_453 dL_law_454 ?_
  refine lv_i2l hx hb dL_law_455 rfl ?_
  refine lv_bipush (v := jI 32) hx hb dL_law_456 (by decide) ?_
  refine lv_lshl hx hb dL_law_458 rfl ?_
  refine l_arg (k := 6) (pc2 := 464) C hS hl hi (by omega) ea6 dL_law_459 dL_law_460 (fun h => lv_bipush (v := jI 6) hx hb dL_law_462 (by decide) h) dL_law_464 dL_law_465 ?_
  refine lv_i2l hx hb dL_law_466 rfl ?_
  refine lv_ldc2 hx hb hown C.c32 dL_law_467 ?_
  refine lv_land hx hb dL_law_470 ?_
  refine lv_lor hx hb dL_law_471 ?_
  refine l_topt ev5 ?_
  obtain ⟨h0, h40, h100, hFx, hOw, hN, hLn, hR, hCI, hRv, hMI⟩ := id hI5
  have hc40 : cnt7 40 = 1 := hFx.at 40 1 (by decide)
  refine gos_i (run_V (k := 40) (i := 0) (As := [.int (jI a1), .int (jI a2), .int (jI a3), .int (jI a4), .long (jL v5)]) (rest := []) hx hb hml hown hts (c_X9_check l D tc s.heap.size ad6 cnt7 X4 Y8 ln9 hR hFx hMI a1 a2 a3 a4 v5 ga1 ga2 ga3 ga4 gv5) (cwV 5 hts gT_X9_check rfl rfl rfl (by first | exact hd_X9_check | decide +kernel) ⟨Nat.le_of_ble_eq_true rfl, Nat.le_of_ble_eq_true rfl⟩) hK hw (by first | exact Int.le_refl 0 | omega) (by first | exact zlt hc40 | omega) sl_40_0 rfl rfl hl.1 (by rw [h40]; rfl) (Nat.le_of_ble_eq_true rfl) dL_law_472 ⟨by show _ ≤ (601024 : Nat); omega, by show _ ≤ (7293034 : Nat); omega⟩) hS (fun z10 u11 H locs p12 hw hS => ?_)
  obtain ⟨X13, rfl, hRX13, hFX13, hMX13, hzX13, pX13⟩ := p12
  have hI14 : LI0 q0 q1 q2 ad6 cnt7 X13 Y8 ln9 := LI0.mdl hI5 hRX13 hFX13 hMX13 (by decide)
  refine lv_pop hx hb dL_law_475 rfl ?_
  obtain ⟨hRC, hq9⟩ := J_check hRC0 iMI iR hRX4 iLn iN hFX4 hHX4 hEX4.2.1 hEX4.2.2 hLnX4 pX4 hFX13 hMX13 pX13
  refine lv_goto (tgt := 1343) hx hb dL_law_476 (by decide) ?_
  exact hg _ _ _ _ _ H locs ls _ _ ⟨hI14, hRC⟩ hw hS hl (by omega) (by omega)

set_option maxHeartbeats 4000000 in
set_option maxRecDepth 100000 in
theorem law_c5 {p : Program} {l : Launch} {e : Env} {s : State} {m : MethodId} {below : List Frame} {meth : Method} {c : Code} {b L : Nat} {xs : Nat → Int32} {D : va_G} {tc : Nat → ClassId} {Q : State → Prop} {q0 q1 q2 cB sB : Nat} {i : Int} (C : LK p l s m c b L xs D tc) (hi : 0 ≤ i ∧ i + 7 ≤ L) (hcB : cB + 310 ≤ 601024) (hsB : sB + 2110 ≤ 7293034) (hg : LAt p l e s m below meth c b D tc q0 q1 q2 i Q 1343 (cB + 310) (sB + 2110)) : LAt p l e s m below meth c b D tc q0 q1 q2 i Q 479 cB sB := by
  obtain ⟨hx, hb, hml, hown, hts, hX, hbl, hK, hT, hlT, hL⟩ := id C
  intro ad cnt X Y ln H locs ls cl sl hI hw hS hl hcl hsl
  obtain ⟨hI0, hRC0⟩ := id hI
  obtain ⟨i0, i40, i100, iFx, iOw, iN, iLn, iR, iCI, iRv, iMI⟩ := id hI0
  refine lv_aload_n hx hb dL_law_479 rfl (lv_at hl 1 rfl) ?_
  obtain ⟨a1, ea1, ga1⟩ := sc_at xs i 1
  refine l_arg (k := 1) (pc2 := 484) C hS hl hi (by omega) ea1 dL_law_480 dL_law_481 (fun h => lv_iconst (v := jI 1) hx hb dL_law_483 rfl h) dL_law_484 dL_law_485 ?_
  obtain ⟨h0, h40, h100, hFx, hOw, hN, hLn, hR, hCI, hRv, hMI⟩ := id hI0
  have hc0 : cnt 0 = 1 := hFx.at 0 1 (by decide)
  refine gos_i (run_V (k := 0) (i := 0) (As := [.int (jI a1)]) (rest := []) hx hb hml hown hts (c_X8_unchecked l D tc s.heap.size ad cnt X Y ln hR hFx hLn hCI a1 ga1) (cwV 1 hts gT_X8_unchecked rfl rfl rfl (by first | exact hd_X8_unchecked | decide +kernel) ⟨Nat.le_of_ble_eq_true rfl, Nat.le_of_ble_eq_true rfl⟩) hK hw (by first | exact Int.le_refl 0 | omega) (by first | exact zlt hc0 | omega) sl_0_0 rfl rfl hl.1 (by rw [h0]; rfl) (Nat.le_of_ble_eq_true rfl) dL_law_486 ⟨by show _ ≤ (601024 : Nat); omega, by show _ ≤ (7293034 : Nat); omega⟩) hS (fun z1 u2 H locs p3 hw hS => ?_)
  obtain ⟨X4, rfl, hRX4, hFX4, hCX4, hzX4, pX4⟩ := p3
  have hI5 : LI0 q0 q1 q2 ad cnt X4 Y ln := LI0.cls hI0 hRX4 hFX4 hCX4 (by decide)
  refine lv_pop hx hb dL_law_489 rfl ?_
  refine lv_aload_n hx hb dL_law_490 rfl (lv_at hl 2 rfl) ?_
  refine l_arg (k := 1) (pc2 := 495) C hS hl hi (by omega) ea1 dL_law_491 dL_law_492 (fun h => lv_iconst (v := jI 1) hx hb dL_law_494 rfl h) dL_law_495 dL_law_496 ?_
  obtain ⟨h0, h40, h100, hFx, hOw, hN, hLn, hR, hCI, hRv, hMI⟩ := id hI5
  have hc40 : cnt 40 = 1 := hFx.at 40 1 (by decide)
  refine gos_i (run_V (k := 40) (i := 0) (As := [.int (jI a1)]) (rest := []) hx hb hml hown hts (c_X9_unchecked l D tc s.heap.size ad cnt X4 Y ln hR hFx hMI a1 ga1) (cwV 1 hts gT_X9_unchecked rfl rfl rfl (by first | exact hd_X9_unchecked | decide +kernel) ⟨Nat.le_of_ble_eq_true rfl, Nat.le_of_ble_eq_true rfl⟩) hK hw (by first | exact Int.le_refl 0 | omega) (by first | exact zlt hc40 | omega) sl_40_0 rfl rfl hl.1 (by rw [h40]; rfl) (Nat.le_of_ble_eq_true rfl) dL_law_497 ⟨by show _ ≤ (601024 : Nat); omega, by show _ ≤ (7293034 : Nat); omega⟩) hS (fun z6 u7 H locs p8 hw hS => ?_)
  obtain ⟨X9, rfl, hRX9, hFX9, hMX9, hzX9, pX9⟩ := p8
  have hI10 : LI0 q0 q1 q2 ad cnt X9 Y ln := LI0.mdl hI5 hRX9 hFX9 hMX9 (by decide)
  refine lv_pop hx hb dL_law_500 rfl ?_
  obtain ⟨hRC, hq9⟩ := J_unchecked hRC0 iMI iR hRX4 iLn iN hFX4 pX4 hFX9 hMX9 pX9
  refine lv_goto (tgt := 1343) hx hb dL_law_501 (by decide) ?_
  exact hg _ _ _ _ _ H locs ls _ _ ⟨hI10, hRC⟩ hw hS hl (by omega) (by omega)

set_option maxHeartbeats 4000000 in
set_option maxRecDepth 100000 in
theorem law_c6 {p : Program} {l : Launch} {e : Env} {s : State} {m : MethodId} {below : List Frame} {meth : Method} {c : Code} {b L : Nat} {xs : Nat → Int32} {D : va_G} {tc : Nat → ClassId} {Q : State → Prop} {q0 q1 q2 cB sB : Nat} {i : Int} (C : LK p l s m c b L xs D tc) (hi : 0 ≤ i ∧ i + 7 ≤ L) (hcB : cB + 310 ≤ 601024) (hsB : sB + 2110 ≤ 7293034) (hg : LAt p l e s m below meth c b D tc q0 q1 q2 i Q 1343 (cB + 310) (sB + 2110)) : LAt p l e s m below meth c b D tc q0 q1 q2 i Q 504 cB sB := by
  obtain ⟨hx, hb, hml, hown, hts, hX, hbl, hK, hT, hlT, hL⟩ := id C
  intro ad cnt X Y ln H locs ls cl sl hI hw hS hl hcl hsl
  obtain ⟨hI0, hRC0⟩ := id hI
  obtain ⟨i0, i40, i100, iFx, iOw, iN, iLn, iR, iCI, iRv, iMI⟩ := id hI0
  refine lv_aload_n hx hb dL_law_504 rfl (lv_at hl 1 rfl) ?_
  obtain ⟨a1, ea1, ga1⟩ := sc_at xs i 1
  refine l_arg (k := 1) (pc2 := 509) C hS hl hi (by omega) ea1 dL_law_505 dL_law_506 (fun h => lv_iconst (v := jI 1) hx hb dL_law_508 rfl h) dL_law_509 dL_law_510 ?_
  obtain ⟨a2, ea2, ga2⟩ := sc_at xs i 2
  refine l_arg (k := 2) (pc2 := 515) C hS hl hi (by omega) ea2 dL_law_511 dL_law_512 (fun h => lv_iconst (v := jI 2) hx hb dL_law_514 rfl h) dL_law_515 dL_law_516 ?_
  refine l_bool C ga2 dL_law_517 dL_law_520 dL_law_521 dL_law_524 (fun z1 gz1 ez1 => ?_)
  obtain ⟨h0, h40, h100, hFx, hOw, hN, hLn, hR, hCI, hRv, hMI⟩ := id hI0
  have hc0 : cnt 0 = 1 := hFx.at 0 1 (by decide)
  refine gos_i (run_V (k := 0) (i := 0) (As := [.int (jI a1), .int (jI z1)]) (rest := []) hx hb hml hown hts (c_X8_word l D tc s.heap.size ad cnt X Y ln hR hFx hLn hCI a1 z1 ga1 gz1) (cwV 2 hts gT_X8_word rfl rfl rfl (by first | exact hd_X8_word | decide +kernel) ⟨Nat.le_of_ble_eq_true rfl, Nat.le_of_ble_eq_true rfl⟩) hK hw (by first | exact Int.le_refl 0 | omega) (by first | exact zlt hc0 | omega) sl_0_0 rfl rfl hl.1 (by rw [h0]; rfl) (Nat.le_of_ble_eq_true rfl) dL_law_525 ⟨by show _ ≤ (601024 : Nat); omega, by show _ ≤ (7293034 : Nat); omega⟩) hS (fun z2 u3 H locs p4 hw hS => ?_)
  obtain ⟨X5, rfl, hRX5, hFX5, hCX5, hzX5, pX5⟩ := p4
  have hI6 : LI0 q0 q1 q2 ad cnt X5 Y ln := LI0.cls hI0 hRX5 hFX5 hCX5 (by decide)
  refine lv_pop hx hb dL_law_528 rfl ?_
  refine lv_aload_n hx hb dL_law_529 rfl (lv_at hl 2 rfl) ?_
  refine l_arg (k := 1) (pc2 := 534) C hS hl hi (by omega) ea1 dL_law_530 dL_law_531 (fun h => lv_iconst (v := jI 1) hx hb dL_law_533 rfl h) dL_law_534 dL_law_535 ?_
  refine l_arg (k := 2) (pc2 := 540) C hS hl hi (by omega) ea2 dL_law_536 dL_law_537 (fun h => lv_iconst (v := jI 2) hx hb dL_law_539 rfl h) dL_law_540 dL_law_541 ?_
  refine l_bool C ga2 dL_law_542 dL_law_545 dL_law_546 dL_law_549 (fun z7 gz7 ez7 => ?_)
  obtain ⟨h0, h40, h100, hFx, hOw, hN, hLn, hR, hCI, hRv, hMI⟩ := id hI6
  have hc40 : cnt 40 = 1 := hFx.at 40 1 (by decide)
  refine gos_i (run_V (k := 40) (i := 0) (As := [.int (jI a1), .int (jI z7)]) (rest := []) hx hb hml hown hts (c_X9_word l D tc s.heap.size ad cnt X5 Y ln hR hFx hMI a1 z7 ga1 gz7) (cwV 2 hts gT_X9_word rfl rfl rfl (by first | exact hd_X9_word | decide +kernel) ⟨Nat.le_of_ble_eq_true rfl, Nat.le_of_ble_eq_true rfl⟩) hK hw (by first | exact Int.le_refl 0 | omega) (by first | exact zlt hc40 | omega) sl_40_0 rfl rfl hl.1 (by rw [h40]; rfl) (Nat.le_of_ble_eq_true rfl) dL_law_550 ⟨by show _ ≤ (601024 : Nat); omega, by show _ ≤ (7293034 : Nat); omega⟩) hS (fun z8 u9 H locs p10 hw hS => ?_)
  obtain ⟨X11, rfl, hRX11, hFX11, hMX11, hzX11, pX11⟩ := p10
  have hI12 : LI0 q0 q1 q2 ad cnt X11 Y ln := LI0.mdl hI6 hRX11 hFX11 hMX11 (by decide)
  refine lv_pop hx hb dL_law_553 rfl ?_
  obtain rfl : z7 = z1 := by omega
  obtain ⟨hRC, hq9⟩ := J_word hRC0 iMI iR hRX5 iLn iN hFX5 pX5 hFX11 hMX11 pX11
  refine lv_goto (tgt := 1343) hx hb dL_law_554 (by decide) ?_
  exact hg _ _ _ _ _ H locs ls _ _ ⟨hI12, hRC⟩ hw hS hl (by omega) (by omega)
end
section
set_option maxHeartbeats 4000000 in
set_option maxRecDepth 100000 in
theorem law_c7 {p : Program} {l : Launch} {e : Env} {s : State} {m : MethodId} {below : List Frame} {meth : Method} {c : Code} {b L : Nat} {xs : Nat → Int32} {D : va_G} {tc : Nat → ClassId} {Q : State → Prop} {q0 q1 q2 cB sB : Nat} {i : Int} (C : LK p l s m c b L xs D tc) (hi : 0 ≤ i ∧ i + 7 ≤ L) (hcB : cB + 310 ≤ 601024) (hsB : sB + 2110 ≤ 7293034) (hg : LAt p l e s m below meth c b D tc q0 q1 q2 i Q 1343 (cB + 310) (sB + 2110)) : LAt p l e s m below meth c b D tc q0 q1 q2 i Q 557 cB sB := by
  obtain ⟨hx, hb, hml, hown, hts, hX, hbl, hK, hT, hlT, hL⟩ := id C
  intro ad cnt X Y ln H locs ls cl sl hI hw hS hl hcl hsl
  obtain ⟨hI0, hRC0⟩ := id hI
  obtain ⟨i0, i40, i100, iFx, iOw, iN, iLn, iR, iCI, iRv, iMI⟩ := id hI0
  refine lv_aload_n hx hb dL_law_557 rfl (lv_at hl 1 rfl) ?_
  obtain ⟨a1, ea1, ga1⟩ := sc_at xs i 1
  refine l_arg (k := 1) (pc2 := 562) C hS hl hi (by omega) ea1 dL_law_558 dL_law_559 (fun h => lv_iconst (v := jI 1) hx hb dL_law_561 rfl h) dL_law_562 dL_law_563 ?_
  obtain ⟨h0, h40, h100, hFx, hOw, hN, hLn, hR, hCI, hRv, hMI⟩ := id hI0
  have hc0 : cnt 0 = 1 := hFx.at 0 1 (by decide)
  refine gos_i (run_V (k := 0) (i := 0) (As := [.int (jI a1)]) (rest := []) hx hb hml hown hts (c_X8_thing l D tc s.heap.size ad cnt X Y ln hR hFx hLn hCI a1 ga1) (cwV 1 hts gT_X8_thing rfl rfl rfl (by first | exact hd_X8_thing | decide +kernel) ⟨Nat.le_of_ble_eq_true rfl, Nat.le_of_ble_eq_true rfl⟩) hK hw (by first | exact Int.le_refl 0 | omega) (by first | exact zlt hc0 | omega) sl_0_0 rfl rfl hl.1 (by rw [h0]; rfl) (Nat.le_of_ble_eq_true rfl) dL_law_564 ⟨by show _ ≤ (601024 : Nat); omega, by show _ ≤ (7293034 : Nat); omega⟩) hS (fun z1 u2 H locs p3 hw hS => ?_)
  obtain ⟨X4, Y6, rfl, hRX4, hFX4, hHX4, hCX4, hzX4, pX4⟩ := p3
  have hI5 : LI0 q0 q1 q2 ad cnt X4 Y6 ln := LI0.cls hI0 hRX4 hFX4 hCX4 (by decide)
  refine lv_pop hx hb dL_law_567 rfl ?_
  refine lv_aload_n hx hb dL_law_568 rfl (lv_at hl 2 rfl) ?_
  refine l_arg (k := 1) (pc2 := 573) C hS hl hi (by omega) ea1 dL_law_569 dL_law_570 (fun h => lv_iconst (v := jI 1) hx hb dL_law_572 rfl h) dL_law_573 dL_law_574 ?_
  obtain ⟨h0, h40, h100, hFx, hOw, hN, hLn, hR, hCI, hRv, hMI⟩ := id hI5
  have hc40 : cnt 40 = 1 := hFx.at 40 1 (by decide)
  refine gos_i (run_V (k := 40) (i := 0) (As := [.int (jI a1)]) (rest := []) hx hb hml hown hts (c_X9_thing l D tc s.heap.size ad cnt X4 Y6 ln hR hFx hMI a1 ga1) (cwV 1 hts gT_X9_thing rfl rfl rfl (by first | exact hd_X9_thing | decide +kernel) ⟨Nat.le_of_ble_eq_true rfl, Nat.le_of_ble_eq_true rfl⟩) hK hw (by first | exact Int.le_refl 0 | omega) (by first | exact zlt hc40 | omega) sl_40_0 rfl rfl hl.1 (by rw [h40]; rfl) (Nat.le_of_ble_eq_true rfl) dL_law_575 ⟨by show _ ≤ (601024 : Nat); omega, by show _ ≤ (7293034 : Nat); omega⟩) hS (fun z7 u8 H locs p9 hw hS => ?_)
  obtain ⟨X10, rfl, hRX10, hFX10, hMX10, hzX10, pX10⟩ := p9
  have hI11 : LI0 q0 q1 q2 ad cnt X10 Y6 ln := LI0.mdl hI5 hRX10 hFX10 hMX10 (by decide)
  refine lv_pop hx hb dL_law_578 rfl ?_
  obtain ⟨hRC, hq9⟩ := J_thing hRC0 iMI iR hRX4 iLn iN hFX4 hHX4 pX4 hFX10 hMX10 pX10
  refine lv_goto (tgt := 1343) hx hb dL_law_579 (by decide) ?_
  exact hg _ _ _ _ _ H locs ls _ _ ⟨hI11, hRC⟩ hw hS hl (by omega) (by omega)

set_option maxHeartbeats 4000000 in
set_option maxRecDepth 100000 in
theorem law_c8 {p : Program} {l : Launch} {e : Env} {s : State} {m : MethodId} {below : List Frame} {meth : Method} {c : Code} {b L : Nat} {xs : Nat → Int32} {D : va_G} {tc : Nat → ClassId} {Q : State → Prop} {q0 q1 q2 cB sB : Nat} {i : Int} (C : LK p l s m c b L xs D tc) (hi : 0 ≤ i ∧ i + 7 ≤ L) (hcB : cB + 310 ≤ 601024) (hsB : sB + 2110 ≤ 7293034) (hg : LAt p l e s m below meth c b D tc q0 q1 q2 i Q 1343 (cB + 310) (sB + 2110)) : LAt p l e s m below meth c b D tc q0 q1 q2 i Q 582 cB sB := by
  obtain ⟨hx, hb, hml, hown, hts, hX, hbl, hK, hT, hlT, hL⟩ := id C
  intro ad cnt X Y ln H locs ls cl sl hI hw hS hl hcl hsl
  obtain ⟨hI0, hRC0⟩ := id hI
  obtain ⟨i0, i40, i100, iFx, iOw, iN, iLn, iR, iCI, iRv, iMI⟩ := id hI0
  refine lv_aload_n hx hb dL_law_582 rfl (lv_at hl 1 rfl) ?_
  obtain ⟨a1, ea1, ga1⟩ := sc_at xs i 1
  refine l_arg (k := 1) (pc2 := 587) C hS hl hi (by omega) ea1 dL_law_583 dL_law_584 (fun h => lv_iconst (v := jI 1) hx hb dL_law_586 rfl h) dL_law_587 dL_law_588 ?_
  obtain ⟨a2, ea2, ga2⟩ := sc_at xs i 2
  refine l_arg (k := 2) (pc2 := 593) C hS hl hi (by omega) ea2 dL_law_589 dL_law_590 (fun h => lv_iconst (v := jI 2) hx hb dL_law_592 rfl h) dL_law_593 dL_law_594 ?_
  obtain ⟨a3, ea3, ga3⟩ := sc_at xs i 3
  refine l_arg (k := 3) (pc2 := 599) C hS hl hi (by omega) ea3 dL_law_595 dL_law_596 (fun h => lv_iconst (v := jI 3) hx hb dL_law_598 rfl h) dL_law_599 dL_law_600 ?_
  refine lv_i2l hx hb dL_law_601 rfl ?_
  refine lv_bipush (v := jI 32) hx hb dL_law_602 (by decide) ?_
  refine lv_lshl hx hb dL_law_604 rfl ?_
  obtain ⟨a4, ea4, ga4⟩ := sc_at xs i 4
  refine l_arg (k := 4) (pc2 := 609) C hS hl hi (by omega) ea4 dL_law_605 dL_law_606 (fun h => lv_iconst (v := jI 4) hx hb dL_law_608 rfl h) dL_law_609 dL_law_610 ?_
  refine lv_i2l hx hb dL_law_611 rfl ?_
  refine lv_ldc2 hx hb hown C.c32 dL_law_612 ?_
  refine lv_land hx hb dL_law_615 ?_
  refine lv_lor hx hb dL_law_616 ?_
  refine l_topl (fun v3 gv3 ev3 => ?_)
  obtain ⟨h0, h40, h100, hFx, hOw, hN, hLn, hR, hCI, hRv, hMI⟩ := id hI0
  have hc0 : cnt 0 = 1 := hFx.at 0 1 (by decide)
  refine gos_i (run_V (k := 0) (i := 0) (As := [.int (jI a1), .int (jI a2), .long (jL v3)]) (rest := []) hx hb hml hown hts (c_X8_put l D tc s.heap.size ad cnt X Y ln hR hFx hLn hCI a1 a2 v3 ga1 ga2 gv3) (cwV 3 hts gT_X8_put rfl rfl rfl (by first | exact hd_X8_put | decide +kernel) ⟨Nat.le_of_ble_eq_true rfl, Nat.le_of_ble_eq_true rfl⟩) hK hw (by first | exact Int.le_refl 0 | omega) (by first | exact zlt hc0 | omega) sl_0_0 rfl rfl hl.1 (by rw [h0]; rfl) (Nat.le_of_ble_eq_true rfl) dL_law_617 ⟨by show _ ≤ (601024 : Nat); omega, by show _ ≤ (7293034 : Nat); omega⟩) hS (fun z1 u2 H locs p3 hw hS => ?_)
  obtain ⟨X4, Y6, rfl, hRX4, hFX4, hHX4, hCX4, hzX4, pX4⟩ := p3
  have hI5 : LI0 q0 q1 q2 ad cnt X4 Y6 ln := LI0.cls hI0 hRX4 hFX4 hCX4 (by decide)
  refine lv_pop hx hb dL_law_620 rfl ?_
  refine lv_aload_n hx hb dL_law_621 rfl (lv_at hl 2 rfl) ?_
  refine l_arg (k := 1) (pc2 := 626) C hS hl hi (by omega) ea1 dL_law_622 dL_law_623 (fun h => lv_iconst (v := jI 1) hx hb dL_law_625 rfl h) dL_law_626 dL_law_627 ?_
  refine l_arg (k := 2) (pc2 := 632) C hS hl hi (by omega) ea2 dL_law_628 dL_law_629 (fun h => lv_iconst (v := jI 2) hx hb dL_law_631 rfl h) dL_law_632 dL_law_633 ?_
  refine l_arg (k := 3) (pc2 := 638) C hS hl hi (by omega) ea3 dL_law_634 dL_law_635 (fun h => lv_iconst (v := jI 3) hx hb dL_law_637 rfl h) dL_law_638 dL_law_639 ?_
  refine lv_i2l hx hb dL_law_640 rfl ?_
  refine lv_bipush (v := jI 32) hx hb dL_law_641 (by decide) ?_
  refine lv_lshl hx hb dL_law_643 rfl ?_
  refine l_arg (k := 4) (pc2 := 648) C hS hl hi (by omega) ea4 dL_law_644 dL_law_645 (fun h => lv_iconst (v := jI 4) hx hb dL_law_647 rfl h) dL_law_648 dL_law_649 ?_
  refine lv_i2l hx hb dL_law_650 rfl ?_
  refine lv_ldc2 hx hb hown C.c32 dL_law_651 ?_
  refine lv_land hx hb dL_law_654 ?_
  refine lv_lor hx hb dL_law_655 ?_
  refine l_topt ev3 ?_
  obtain ⟨h0, h40, h100, hFx, hOw, hN, hLn, hR, hCI, hRv, hMI⟩ := id hI5
  have hc40 : cnt 40 = 1 := hFx.at 40 1 (by decide)
  refine gos_i (run_V (k := 40) (i := 0) (As := [.int (jI a1), .int (jI a2), .long (jL v3)]) (rest := []) hx hb hml hown hts (c_X9_put l D tc s.heap.size ad cnt X4 Y6 ln hR hFx hMI a1 a2 v3 ga1 ga2 gv3) (cwV 3 hts gT_X9_put rfl rfl rfl (by first | exact hd_X9_put | decide +kernel) ⟨Nat.le_of_ble_eq_true rfl, Nat.le_of_ble_eq_true rfl⟩) hK hw (by first | exact Int.le_refl 0 | omega) (by first | exact zlt hc40 | omega) sl_40_0 rfl rfl hl.1 (by rw [h40]; rfl) (Nat.le_of_ble_eq_true rfl) dL_law_656 ⟨by show _ ≤ (601024 : Nat); omega, by show _ ≤ (7293034 : Nat); omega⟩) hS (fun z7 u8 H locs p9 hw hS => ?_)
  obtain ⟨X10, rfl, hRX10, hFX10, hMX10, hzX10, pX10⟩ := p9
  have hI11 : LI0 q0 q1 q2 ad cnt X10 Y6 ln := LI0.mdl hI5 hRX10 hFX10 hMX10 (by decide)
  refine lv_pop hx hb dL_law_659 rfl ?_
  obtain ⟨hRC, hq9⟩ := J_put hRC0 iMI iR hRX4 iLn iN hFX4 hHX4 pX4 hFX10 hMX10 pX10
  refine lv_goto (tgt := 1343) hx hb dL_law_660 (by decide) ?_
  exact hg _ _ _ _ _ H locs ls _ _ ⟨hI11, hRC⟩ hw hS hl (by omega) (by omega)

set_option maxHeartbeats 4000000 in
set_option maxRecDepth 100000 in
theorem law_c9 {p : Program} {l : Launch} {e : Env} {s : State} {m : MethodId} {below : List Frame} {meth : Method} {c : Code} {b L : Nat} {xs : Nat → Int32} {D : va_G} {tc : Nat → ClassId} {Q : State → Prop} {q0 q1 q2 cB sB : Nat} {i : Int} (C : LK p l s m c b L xs D tc) (hi : 0 ≤ i ∧ i + 7 ≤ L) (hcB : cB + 310 ≤ 601024) (hsB : sB + 2110 ≤ 7293034) (hg : LAt p l e s m below meth c b D tc q0 q1 q2 i Q 1343 (cB + 310) (sB + 2110)) : LAt p l e s m below meth c b D tc q0 q1 q2 i Q 663 cB sB := by
  obtain ⟨hx, hb, hml, hown, hts, hX, hbl, hK, hT, hlT, hL⟩ := id C
  intro ad cnt X Y ln H locs ls cl sl hI hw hS hl hcl hsl
  obtain ⟨hI0, hRC0⟩ := id hI
  obtain ⟨i0, i40, i100, iFx, iOw, iN, iLn, iR, iCI, iRv, iMI⟩ := id hI0
  refine lv_aload_n hx hb dL_law_663 rfl (lv_at hl 1 rfl) ?_
  obtain ⟨a1, ea1, ga1⟩ := sc_at xs i 1
  refine l_arg (k := 1) (pc2 := 668) C hS hl hi (by omega) ea1 dL_law_664 dL_law_665 (fun h => lv_iconst (v := jI 1) hx hb dL_law_667 rfl h) dL_law_668 dL_law_669 ?_
  obtain ⟨a2, ea2, ga2⟩ := sc_at xs i 2
  refine l_arg (k := 2) (pc2 := 674) C hS hl hi (by omega) ea2 dL_law_670 dL_law_671 (fun h => lv_iconst (v := jI 2) hx hb dL_law_673 rfl h) dL_law_674 dL_law_675 ?_
  obtain ⟨a3, ea3, ga3⟩ := sc_at xs i 3
  refine l_arg (k := 3) (pc2 := 680) C hS hl hi (by omega) ea3 dL_law_676 dL_law_677 (fun h => lv_iconst (v := jI 3) hx hb dL_law_679 rfl h) dL_law_680 dL_law_681 ?_
  obtain ⟨h0, h40, h100, hFx, hOw, hN, hLn, hR, hCI, hRv, hMI⟩ := id hI0
  have hc0 : cnt 0 = 1 := hFx.at 0 1 (by decide)
  refine gos_i (run_V (k := 0) (i := 0) (As := [.int (jI a1), .int (jI a2), .int (jI a3)]) (rest := []) hx hb hml hown hts (c_X8_refer l D tc s.heap.size ad cnt X Y ln hR hFx hLn hCI a1 a2 a3 ga1 ga2 ga3) (cwV 3 hts gT_X8_refer rfl rfl rfl (by first | exact hd_X8_refer | decide +kernel) ⟨Nat.le_of_ble_eq_true rfl, Nat.le_of_ble_eq_true rfl⟩) hK hw (by first | exact Int.le_refl 0 | omega) (by first | exact zlt hc0 | omega) sl_0_0 rfl rfl hl.1 (by rw [h0]; rfl) (Nat.le_of_ble_eq_true rfl) dL_law_682 ⟨by show _ ≤ (601024 : Nat); omega, by show _ ≤ (7293034 : Nat); omega⟩) hS (fun z1 u2 H locs p3 hw hS => ?_)
  obtain ⟨X4, Y6, rfl, hRX4, hFX4, hHX4, hCX4, hzX4, pX4⟩ := p3
  have hI5 : LI0 q0 q1 q2 ad cnt X4 Y6 ln := LI0.cls hI0 hRX4 hFX4 hCX4 (by decide)
  refine lv_pop hx hb dL_law_685 rfl ?_
  refine lv_aload_n hx hb dL_law_686 rfl (lv_at hl 2 rfl) ?_
  refine l_arg (k := 1) (pc2 := 691) C hS hl hi (by omega) ea1 dL_law_687 dL_law_688 (fun h => lv_iconst (v := jI 1) hx hb dL_law_690 rfl h) dL_law_691 dL_law_692 ?_
  refine l_arg (k := 2) (pc2 := 697) C hS hl hi (by omega) ea2 dL_law_693 dL_law_694 (fun h => lv_iconst (v := jI 2) hx hb dL_law_696 rfl h) dL_law_697 dL_law_698 ?_
  refine l_arg (k := 3) (pc2 := 703) C hS hl hi (by omega) ea3 dL_law_699 dL_law_700 (fun h => lv_iconst (v := jI 3) hx hb dL_law_702 rfl h) dL_law_703 dL_law_704 ?_
  obtain ⟨h0, h40, h100, hFx, hOw, hN, hLn, hR, hCI, hRv, hMI⟩ := id hI5
  have hc40 : cnt 40 = 1 := hFx.at 40 1 (by decide)
  refine gos_i (run_V (k := 40) (i := 0) (As := [.int (jI a1), .int (jI a2), .int (jI a3)]) (rest := []) hx hb hml hown hts (c_X9_refer l D tc s.heap.size ad cnt X4 Y6 ln hR hFx hMI a1 a2 a3 ga1 ga2 ga3) (cwV 3 hts gT_X9_refer rfl rfl rfl (by first | exact hd_X9_refer | decide +kernel) ⟨Nat.le_of_ble_eq_true rfl, Nat.le_of_ble_eq_true rfl⟩) hK hw (by first | exact Int.le_refl 0 | omega) (by first | exact zlt hc40 | omega) sl_40_0 rfl rfl hl.1 (by rw [h40]; rfl) (Nat.le_of_ble_eq_true rfl) dL_law_705 ⟨by show _ ≤ (601024 : Nat); omega, by show _ ≤ (7293034 : Nat); omega⟩) hS (fun z7 u8 H locs p9 hw hS => ?_)
  obtain ⟨X10, rfl, hRX10, hFX10, hMX10, hzX10, pX10⟩ := p9
  have hI11 : LI0 q0 q1 q2 ad cnt X10 Y6 ln := LI0.mdl hI5 hRX10 hFX10 hMX10 (by decide)
  refine lv_pop hx hb dL_law_708 rfl ?_
  obtain ⟨hRC, hq9⟩ := J_refer hRC0 iMI iR hRX4 iLn iN hFX4 hHX4 pX4 hFX10 hMX10 pX10
  refine lv_goto (tgt := 1343) hx hb dL_law_709 (by decide) ?_
  exact hg _ _ _ _ _ H locs ls _ _ ⟨hI11, hRC⟩ hw hS hl (by omega) (by omega)

set_option maxHeartbeats 4000000 in
set_option maxRecDepth 100000 in
theorem law_c10 {p : Program} {l : Launch} {e : Env} {s : State} {m : MethodId} {below : List Frame} {meth : Method} {c : Code} {b L : Nat} {xs : Nat → Int32} {D : va_G} {tc : Nat → ClassId} {Q : State → Prop} {q0 q1 q2 cB sB : Nat} {i : Int} (C : LK p l s m c b L xs D tc) (hi : 0 ≤ i ∧ i + 7 ≤ L) (hcB : cB + 310 ≤ 601024) (hsB : sB + 2110 ≤ 7293034) (hg : LAt p l e s m below meth c b D tc q0 q1 q2 i Q 1343 (cB + 310) (sB + 2110)) : LAt p l e s m below meth c b D tc q0 q1 q2 i Q 712 cB sB := by
  obtain ⟨hx, hb, hml, hown, hts, hX, hbl, hK, hT, hlT, hL⟩ := id C
  intro ad cnt X Y ln H locs ls cl sl hI hw hS hl hcl hsl
  obtain ⟨hI0, hRC0⟩ := id hI
  obtain ⟨i0, i40, i100, iFx, iOw, iN, iLn, iR, iCI, iRv, iMI⟩ := id hI0
  refine lv_aload_n hx hb dL_law_712 rfl (lv_at hl 1 rfl) ?_
  obtain ⟨a1, ea1, ga1⟩ := sc_at xs i 1
  refine l_arg (k := 1) (pc2 := 717) C hS hl hi (by omega) ea1 dL_law_713 dL_law_714 (fun h => lv_iconst (v := jI 1) hx hb dL_law_716 rfl h) dL_law_717 dL_law_718 ?_
  obtain ⟨a2, ea2, ga2⟩ := sc_at xs i 2
  refine l_arg (k := 2) (pc2 := 723) C hS hl hi (by omega) ea2 dL_law_719 dL_law_720 (fun h => lv_iconst (v := jI 2) hx hb dL_law_722 rfl h) dL_law_723 dL_law_724 ?_
  obtain ⟨a3, ea3, ga3⟩ := sc_at xs i 3
  refine l_arg (k := 3) (pc2 := 729) C hS hl hi (by omega) ea3 dL_law_725 dL_law_726 (fun h => lv_iconst (v := jI 3) hx hb dL_law_728 rfl h) dL_law_729 dL_law_730 ?_
  obtain ⟨h0, h40, h100, hFx, hOw, hN, hLn, hR, hCI, hRv, hMI⟩ := id hI0
  have hc0 : cnt 0 = 1 := hFx.at 0 1 (by decide)
  refine gos_i (run_V (k := 0) (i := 0) (As := [.int (jI a1), .int (jI a2), .int (jI a3)]) (rest := []) hx hb hml hown hts (c_X8_row l D tc s.heap.size ad cnt X Y ln hR hFx hLn hCI hOw hN a1 a2 a3 ga1 ga2 ga3) (cwV 3 hts gT_X8_row rfl rfl rfl (by first | exact hd_X8_row | decide +kernel) ⟨Nat.le_of_ble_eq_true rfl, Nat.le_of_ble_eq_true rfl⟩) hK hw (by first | exact Int.le_refl 0 | omega) (by first | exact zlt hc0 | omega) sl_0_0 rfl rfl hl.1 (by rw [h0]; rfl) (Nat.le_of_ble_eq_true rfl) dL_law_731 ⟨by show _ ≤ (601024 : Nat); omega, by show _ ≤ (7293034 : Nat); omega⟩) hS (fun z1 u2 H locs p3 hw hS => ?_)
  obtain ⟨ad6, cnt7, X4, Y8, ln9, rfl, hEX4, hFxX4, hOwX4, hLnX4, hRX4, hFX4, hHX4, hCX4, hzX4, pX4⟩ := p3
  have hI5 : LI0 q0 q1 q2 ad6 cnt7 X4 Y8 ln9 := LI0.grow hI0 hEX4 hFxX4 hOwX4 hLnX4 hRX4 hFX4 hCX4 (by decide)
  refine lv_pop hx hb dL_law_734 rfl ?_
  refine lv_aload_n hx hb dL_law_735 rfl (lv_at hl 2 rfl) ?_
  refine l_arg (k := 1) (pc2 := 740) C hS hl hi (by omega) ea1 dL_law_736 dL_law_737 (fun h => lv_iconst (v := jI 1) hx hb dL_law_739 rfl h) dL_law_740 dL_law_741 ?_
  refine l_arg (k := 2) (pc2 := 746) C hS hl hi (by omega) ea2 dL_law_742 dL_law_743 (fun h => lv_iconst (v := jI 2) hx hb dL_law_745 rfl h) dL_law_746 dL_law_747 ?_
  refine l_arg (k := 3) (pc2 := 752) C hS hl hi (by omega) ea3 dL_law_748 dL_law_749 (fun h => lv_iconst (v := jI 3) hx hb dL_law_751 rfl h) dL_law_752 dL_law_753 ?_
  obtain ⟨h0, h40, h100, hFx, hOw, hN, hLn, hR, hCI, hRv, hMI⟩ := id hI5
  have hc40 : cnt7 40 = 1 := hFx.at 40 1 (by decide)
  refine gos_i (run_V (k := 40) (i := 0) (As := [.int (jI a1), .int (jI a2), .int (jI a3)]) (rest := []) hx hb hml hown hts (c_X9_row l D tc s.heap.size ad6 cnt7 X4 Y8 ln9 hR hFx hMI a1 a2 a3 ga1 ga2 ga3) (cwV 3 hts gT_X9_row rfl rfl rfl (by first | exact hd_X9_row | decide +kernel) ⟨Nat.le_of_ble_eq_true rfl, Nat.le_of_ble_eq_true rfl⟩) hK hw (by first | exact Int.le_refl 0 | omega) (by first | exact zlt hc40 | omega) sl_40_0 rfl rfl hl.1 (by rw [h40]; rfl) (Nat.le_of_ble_eq_true rfl) dL_law_754 ⟨by show _ ≤ (601024 : Nat); omega, by show _ ≤ (7293034 : Nat); omega⟩) hS (fun z10 u11 H locs p12 hw hS => ?_)
  obtain ⟨X13, rfl, hRX13, hFX13, hMX13, hzX13, pX13⟩ := p12
  have hI14 : LI0 q0 q1 q2 ad6 cnt7 X13 Y8 ln9 := LI0.mdl hI5 hRX13 hFX13 hMX13 (by decide)
  refine lv_pop hx hb dL_law_757 rfl ?_
  obtain ⟨hRC, hq9⟩ := J_row hRC0 iMI iR hRX4 iLn iN hFX4 hHX4 hEX4.2.1 hEX4.2.2 hLnX4 pX4 hFX13 hMX13 pX13
  refine lv_goto (tgt := 1343) hx hb dL_law_758 (by decide) ?_
  exact hg _ _ _ _ _ H locs ls _ _ ⟨hI14, hRC⟩ hw hS hl (by omega) (by omega)

set_option maxHeartbeats 4000000 in
set_option maxRecDepth 100000 in
theorem law_c11 {p : Program} {l : Launch} {e : Env} {s : State} {m : MethodId} {below : List Frame} {meth : Method} {c : Code} {b L : Nat} {xs : Nat → Int32} {D : va_G} {tc : Nat → ClassId} {Q : State → Prop} {q0 q1 q2 cB sB : Nat} {i : Int} (C : LK p l s m c b L xs D tc) (hi : 0 ≤ i ∧ i + 7 ≤ L) (hcB : cB + 310 ≤ 601024) (hsB : sB + 2110 ≤ 7293034) (hg : LAt p l e s m below meth c b D tc q0 q1 q2 i Q 1343 (cB + 310) (sB + 2110)) : LAt p l e s m below meth c b D tc q0 q1 q2 i Q 761 cB sB := by
  obtain ⟨hx, hb, hml, hown, hts, hX, hbl, hK, hT, hlT, hL⟩ := id C
  intro ad cnt X Y ln H locs ls cl sl hI hw hS hl hcl hsl
  obtain ⟨hI0, hRC0⟩ := id hI
  obtain ⟨i0, i40, i100, iFx, iOw, iN, iLn, iR, iCI, iRv, iMI⟩ := id hI0
  refine lv_aload_n hx hb dL_law_761 rfl (lv_at hl 1 rfl) ?_
  obtain ⟨a1, ea1, ga1⟩ := sc_at xs i 1
  refine l_arg (k := 1) (pc2 := 766) C hS hl hi (by omega) ea1 dL_law_762 dL_law_763 (fun h => lv_iconst (v := jI 1) hx hb dL_law_765 rfl h) dL_law_766 dL_law_767 ?_
  obtain ⟨a2, ea2, ga2⟩ := sc_at xs i 2
  refine l_arg (k := 2) (pc2 := 772) C hS hl hi (by omega) ea2 dL_law_768 dL_law_769 (fun h => lv_iconst (v := jI 2) hx hb dL_law_771 rfl h) dL_law_772 dL_law_773 ?_
  obtain ⟨a3, ea3, ga3⟩ := sc_at xs i 3
  refine l_arg (k := 3) (pc2 := 778) C hS hl hi (by omega) ea3 dL_law_774 dL_law_775 (fun h => lv_iconst (v := jI 3) hx hb dL_law_777 rfl h) dL_law_778 dL_law_779 ?_
  obtain ⟨a4, ea4, ga4⟩ := sc_at xs i 4
  refine l_arg (k := 4) (pc2 := 784) C hS hl hi (by omega) ea4 dL_law_780 dL_law_781 (fun h => lv_iconst (v := jI 4) hx hb dL_law_783 rfl h) dL_law_784 dL_law_785 ?_
  obtain ⟨h0, h40, h100, hFx, hOw, hN, hLn, hR, hCI, hRv, hMI⟩ := id hI0
  have hc0 : cnt 0 = 1 := hFx.at 0 1 (by decide)
  refine gos_i (run_V (k := 0) (i := 0) (As := [.int (jI a1), .int (jI a2), .int (jI a3), .int (jI a4)]) (rest := []) hx hb hml hown hts (c_X8_share l D tc s.heap.size ad cnt X Y ln hR hFx hLn hCI a1 a2 a3 a4 ga1 ga2 ga3 ga4) (cwV 4 hts gT_X8_share rfl rfl rfl (by first | exact hd_X8_share | decide +kernel) ⟨Nat.le_of_ble_eq_true rfl, Nat.le_of_ble_eq_true rfl⟩) hK hw (by first | exact Int.le_refl 0 | omega) (by first | exact zlt hc0 | omega) sl_0_0 rfl rfl hl.1 (by rw [h0]; rfl) (Nat.le_of_ble_eq_true rfl) dL_law_786 ⟨by show _ ≤ (601024 : Nat); omega, by show _ ≤ (7293034 : Nat); omega⟩) hS (fun z1 u2 H locs p3 hw hS => ?_)
  obtain ⟨X4, Y6, rfl, hRX4, hFX4, hHX4, hCX4, hzX4, pX4⟩ := p3
  have hI5 : LI0 q0 q1 q2 ad cnt X4 Y6 ln := LI0.cls hI0 hRX4 hFX4 hCX4 (by decide)
  refine lv_pop hx hb dL_law_789 rfl ?_
  refine lv_aload_n hx hb dL_law_790 rfl (lv_at hl 2 rfl) ?_
  refine l_arg (k := 1) (pc2 := 795) C hS hl hi (by omega) ea1 dL_law_791 dL_law_792 (fun h => lv_iconst (v := jI 1) hx hb dL_law_794 rfl h) dL_law_795 dL_law_796 ?_
  refine l_arg (k := 2) (pc2 := 801) C hS hl hi (by omega) ea2 dL_law_797 dL_law_798 (fun h => lv_iconst (v := jI 2) hx hb dL_law_800 rfl h) dL_law_801 dL_law_802 ?_
  refine l_arg (k := 3) (pc2 := 807) C hS hl hi (by omega) ea3 dL_law_803 dL_law_804 (fun h => lv_iconst (v := jI 3) hx hb dL_law_806 rfl h) dL_law_807 dL_law_808 ?_
  refine l_arg (k := 4) (pc2 := 813) C hS hl hi (by omega) ea4 dL_law_809 dL_law_810 (fun h => lv_iconst (v := jI 4) hx hb dL_law_812 rfl h) dL_law_813 dL_law_814 ?_
  obtain ⟨h0, h40, h100, hFx, hOw, hN, hLn, hR, hCI, hRv, hMI⟩ := id hI5
  have hc40 : cnt 40 = 1 := hFx.at 40 1 (by decide)
  refine gos_i (run_V (k := 40) (i := 0) (As := [.int (jI a1), .int (jI a2), .int (jI a3), .int (jI a4)]) (rest := []) hx hb hml hown hts (c_X9_share l D tc s.heap.size ad cnt X4 Y6 ln hR hFx hMI a1 a2 a3 a4 ga1 ga2 ga3 ga4) (cwV 4 hts gT_X9_share rfl rfl rfl (by first | exact hd_X9_share | decide +kernel) ⟨Nat.le_of_ble_eq_true rfl, Nat.le_of_ble_eq_true rfl⟩) hK hw (by first | exact Int.le_refl 0 | omega) (by first | exact zlt hc40 | omega) sl_40_0 rfl rfl hl.1 (by rw [h40]; rfl) (Nat.le_of_ble_eq_true rfl) dL_law_815 ⟨by show _ ≤ (601024 : Nat); omega, by show _ ≤ (7293034 : Nat); omega⟩) hS (fun z7 u8 H locs p9 hw hS => ?_)
  obtain ⟨X10, rfl, hRX10, hFX10, hMX10, hzX10, pX10⟩ := p9
  have hI11 : LI0 q0 q1 q2 ad cnt X10 Y6 ln := LI0.mdl hI5 hRX10 hFX10 hMX10 (by decide)
  refine lv_pop hx hb dL_law_818 rfl ?_
  obtain ⟨hRC, hq9⟩ := J_share hRC0 iMI iR hRX4 iLn iN hFX4 hHX4 pX4 hFX10 hMX10 pX10
  refine lv_goto (tgt := 1343) hx hb dL_law_819 (by decide) ?_
  exact hg _ _ _ _ _ H locs ls _ _ ⟨hI11, hRC⟩ hw hS hl (by omega) (by omega)

set_option maxHeartbeats 4000000 in
set_option maxRecDepth 100000 in
theorem law_c12 {p : Program} {l : Launch} {e : Env} {s : State} {m : MethodId} {below : List Frame} {meth : Method} {c : Code} {b L : Nat} {xs : Nat → Int32} {D : va_G} {tc : Nat → ClassId} {Q : State → Prop} {q0 q1 q2 cB sB : Nat} {i : Int} (C : LK p l s m c b L xs D tc) (hi : 0 ≤ i ∧ i + 7 ≤ L) (hcB : cB + 310 ≤ 601024) (hsB : sB + 2110 ≤ 7293034) (hg : LAt p l e s m below meth c b D tc q0 q1 q2 i Q 1343 (cB + 310) (sB + 2110)) : LAt p l e s m below meth c b D tc q0 q1 q2 i Q 822 cB sB := by
  obtain ⟨hx, hb, hml, hown, hts, hX, hbl, hK, hT, hlT, hL⟩ := id C
  intro ad cnt X Y ln H locs ls cl sl hI hw hS hl hcl hsl
  obtain ⟨hI0, hRC0⟩ := id hI
  obtain ⟨i0, i40, i100, iFx, iOw, iN, iLn, iR, iCI, iRv, iMI⟩ := id hI0
  refine lv_aload_n hx hb dL_law_822 rfl (lv_at hl 1 rfl) ?_
  obtain ⟨a1, ea1, ga1⟩ := sc_at xs i 1
  refine l_arg (k := 1) (pc2 := 827) C hS hl hi (by omega) ea1 dL_law_823 dL_law_824 (fun h => lv_iconst (v := jI 1) hx hb dL_law_826 rfl h) dL_law_827 dL_law_828 ?_
  obtain ⟨a2, ea2, ga2⟩ := sc_at xs i 2
  refine l_arg (k := 2) (pc2 := 833) C hS hl hi (by omega) ea2 dL_law_829 dL_law_830 (fun h => lv_iconst (v := jI 2) hx hb dL_law_832 rfl h) dL_law_833 dL_law_834 ?_
  obtain ⟨a3, ea3, ga3⟩ := sc_at xs i 3
  refine l_arg (k := 3) (pc2 := 839) C hS hl hi (by omega) ea3 dL_law_835 dL_law_836 (fun h => lv_iconst (v := jI 3) hx hb dL_law_838 rfl h) dL_law_839 dL_law_840 ?_
  obtain ⟨a4, ea4, ga4⟩ := sc_at xs i 4
  refine l_arg (k := 4) (pc2 := 845) C hS hl hi (by omega) ea4 dL_law_841 dL_law_842 (fun h => lv_iconst (v := jI 4) hx hb dL_law_844 rfl h) dL_law_845 dL_law_846 ?_
  refine lv_i2l hx hb dL_law_847 rfl ?_
  refine lv_bipush (v := jI 32) hx hb dL_law_848 (by decide) ?_
  refine lv_lshl hx hb dL_law_850 rfl ?_
  obtain ⟨a5, ea5, ga5⟩ := sc_at xs i 5
  refine l_arg (k := 5) (pc2 := 855) C hS hl hi (by omega) ea5 dL_law_851 dL_law_852 (fun h => lv_iconst (v := jI 5) hx hb dL_law_854 rfl h) dL_law_855 dL_law_856 ?_
  refine lv_i2l hx hb dL_law_857 rfl ?_
  refine lv_ldc2 hx hb hown C.c32 dL_law_858 ?_
  refine lv_land hx hb dL_law_861 ?_
  refine lv_lor hx hb dL_law_862 ?_
  refine l_topl (fun v4 gv4 ev4 => ?_)
  obtain ⟨h0, h40, h100, hFx, hOw, hN, hLn, hR, hCI, hRv, hMI⟩ := id hI0
  have hc0 : cnt 0 = 1 := hFx.at 0 1 (by decide)
  refine gos_i (run_V (k := 0) (i := 0) (As := [.int (jI a1), .int (jI a2), .int (jI a3), .long (jL v4)]) (rest := []) hx hb hml hown hts (c_X8_item l D tc s.heap.size ad cnt X Y ln hR hFx hLn hCI a1 a2 a3 v4 ga1 ga2 ga3 gv4) (cwV 4 hts gT_X8_item rfl rfl rfl (by first | exact hd_X8_item | decide +kernel) ⟨Nat.le_of_ble_eq_true rfl, Nat.le_of_ble_eq_true rfl⟩) hK hw (by first | exact Int.le_refl 0 | omega) (by first | exact zlt hc0 | omega) sl_0_0 rfl rfl hl.1 (by rw [h0]; rfl) (Nat.le_of_ble_eq_true rfl) dL_law_863 ⟨by show _ ≤ (601024 : Nat); omega, by show _ ≤ (7293034 : Nat); omega⟩) hS (fun z1 u2 H locs p3 hw hS => ?_)
  obtain ⟨X4, Y6, rfl, hRX4, hFX4, hHX4, hCX4, hzX4, pX4⟩ := p3
  have hI5 : LI0 q0 q1 q2 ad cnt X4 Y6 ln := LI0.cls hI0 hRX4 hFX4 hCX4 (by decide)
  refine lv_pop hx hb dL_law_866 rfl ?_
  refine lv_aload_n hx hb dL_law_867 rfl (lv_at hl 2 rfl) ?_
  refine l_arg (k := 1) (pc2 := 872) C hS hl hi (by omega) ea1 dL_law_868 dL_law_869 (fun h => lv_iconst (v := jI 1) hx hb dL_law_871 rfl h) dL_law_872 dL_law_873 ?_
  refine l_arg (k := 2) (pc2 := 878) C hS hl hi (by omega) ea2 dL_law_874 dL_law_875 (fun h => lv_iconst (v := jI 2) hx hb dL_law_877 rfl h) dL_law_878 dL_law_879 ?_
  refine l_arg (k := 3) (pc2 := 884) C hS hl hi (by omega) ea3 dL_law_880 dL_law_881 (fun h => lv_iconst (v := jI 3) hx hb dL_law_883 rfl h) dL_law_884 dL_law_885 ?_
  refine l_arg (k := 4) (pc2 := 890) C hS hl hi (by omega) ea4 dL_law_886 dL_law_887 (fun h => lv_iconst (v := jI 4) hx hb dL_law_889 rfl h) dL_law_890 dL_law_891 ?_
  refine lv_i2l hx hb dL_law_892 rfl ?_
  refine lv_bipush (v := jI 32) hx hb dL_law_893 (by decide) ?_
  refine lv_lshl hx hb dL_law_895 rfl ?_
  refine l_arg (k := 5) (pc2 := 900) C hS hl hi (by omega) ea5 dL_law_896 dL_law_897 (fun h => lv_iconst (v := jI 5) hx hb dL_law_899 rfl h) dL_law_900 dL_law_901 ?_
  refine lv_i2l hx hb dL_law_902 rfl ?_
  refine lv_ldc2 hx hb hown C.c32 dL_law_903 ?_
  refine lv_land hx hb dL_law_906 ?_
  refine lv_lor hx hb dL_law_907 ?_
  refine l_topt ev4 ?_
  obtain ⟨h0, h40, h100, hFx, hOw, hN, hLn, hR, hCI, hRv, hMI⟩ := id hI5
  have hc40 : cnt 40 = 1 := hFx.at 40 1 (by decide)
  refine gos_i (run_V (k := 40) (i := 0) (As := [.int (jI a1), .int (jI a2), .int (jI a3), .long (jL v4)]) (rest := []) hx hb hml hown hts (c_X9_item l D tc s.heap.size ad cnt X4 Y6 ln hR hFx hMI a1 a2 a3 v4 ga1 ga2 ga3 gv4) (cwV 4 hts gT_X9_item rfl rfl rfl (by first | exact hd_X9_item | decide +kernel) ⟨Nat.le_of_ble_eq_true rfl, Nat.le_of_ble_eq_true rfl⟩) hK hw (by first | exact Int.le_refl 0 | omega) (by first | exact zlt hc40 | omega) sl_40_0 rfl rfl hl.1 (by rw [h40]; rfl) (Nat.le_of_ble_eq_true rfl) dL_law_908 ⟨by show _ ≤ (601024 : Nat); omega, by show _ ≤ (7293034 : Nat); omega⟩) hS (fun z7 u8 H locs p9 hw hS => ?_)
  obtain ⟨X10, rfl, hRX10, hFX10, hMX10, hzX10, pX10⟩ := p9
  have hI11 : LI0 q0 q1 q2 ad cnt X10 Y6 ln := LI0.mdl hI5 hRX10 hFX10 hMX10 (by decide)
  refine lv_pop hx hb dL_law_911 rfl ?_
  obtain ⟨hRC, hq9⟩ := J_item hRC0 iMI iR hRX4 iLn iN hFX4 hHX4 pX4 hFX10 hMX10 pX10
  refine lv_goto (tgt := 1343) hx hb dL_law_912 (by decide) ?_
  exact hg _ _ _ _ _ H locs ls _ _ ⟨hI11, hRC⟩ hw hS hl (by omega) (by omega)

set_option maxHeartbeats 4000000 in
set_option maxRecDepth 100000 in
theorem law_c13 {p : Program} {l : Launch} {e : Env} {s : State} {m : MethodId} {below : List Frame} {meth : Method} {c : Code} {b L : Nat} {xs : Nat → Int32} {D : va_G} {tc : Nat → ClassId} {Q : State → Prop} {q0 q1 q2 cB sB : Nat} {i : Int} (C : LK p l s m c b L xs D tc) (hi : 0 ≤ i ∧ i + 7 ≤ L) (hcB : cB + 310 ≤ 601024) (hsB : sB + 2110 ≤ 7293034) (hg : LAt p l e s m below meth c b D tc q0 q1 q2 i Q 1343 (cB + 310) (sB + 2110)) : LAt p l e s m below meth c b D tc q0 q1 q2 i Q 915 cB sB := by
  obtain ⟨hx, hb, hml, hown, hts, hX, hbl, hK, hT, hlT, hL⟩ := id C
  intro ad cnt X Y ln H locs ls cl sl hI hw hS hl hcl hsl
  obtain ⟨hI0, hRC0⟩ := id hI
  obtain ⟨i0, i40, i100, iFx, iOw, iN, iLn, iR, iCI, iRv, iMI⟩ := id hI0
  refine lv_aload_n hx hb dL_law_915 rfl (lv_at hl 1 rfl) ?_
  obtain ⟨a1, ea1, ga1⟩ := sc_at xs i 1
  refine l_arg (k := 1) (pc2 := 920) C hS hl hi (by omega) ea1 dL_law_916 dL_law_917 (fun h => lv_iconst (v := jI 1) hx hb dL_law_919 rfl h) dL_law_920 dL_law_921 ?_
  obtain ⟨a2, ea2, ga2⟩ := sc_at xs i 2
  refine l_arg (k := 2) (pc2 := 926) C hS hl hi (by omega) ea2 dL_law_922 dL_law_923 (fun h => lv_iconst (v := jI 2) hx hb dL_law_925 rfl h) dL_law_926 dL_law_927 ?_
  refine lv_aload_n hx hb dL_law_928 rfl (lv_at hl 3 rfl) ?_
  obtain ⟨h0, h40, h100, hFx, hOw, hN, hLn, hR, hCI, hRv, hMI⟩ := id hI0
  refine vx_calli (vx_runSX (As := [.ref (ad 0 0), .int (jI a1), .int (jI a2), .ref (ad 100 0)]) (rest := []) ⟨hx, hb, hml, hown, hts⟩ (c_L_at l hlT D tc s.heap.size ad cnt X Y ln hR hFx hLn hCI a1 a2 ga1 ga2) (vx_cwSW 4 hts gT_L_at rfl rfl rfl (by decide +kernel) ⟨Nat.le_of_ble_eq_true rfl, Nat.le_of_ble_eq_true rfl⟩) ⟨PcT.blind, fun U hU hW => ⟨rfl, by rw [hU]; exact hw, hK.warm hW, by rw [hU]; exact hT.go hS hW⟩⟩ rfl rfl hl.1 (by rw [h0, h100]; rfl) (lv_room (Nat.le_of_ble_eq_true rfl)) dL_law_929 ⟨by show _ ≤ (601024 : Nat); omega, by show _ ≤ (7293034 : Nat); omega⟩) hS (fun q _ h => h) (fun q h => h) (fun q _ h => h) (fun E ce q9 u9 t H1 locs1 ht hvm hp hB hz hk1 hS1 hcell hv hcl => absurd hp id) (fun r9 u9 t9 H locs ht9 hvm9 hp9 hB9 hz9 hk9 hS => ?_)
  obtain ⟨z2, rfl, X1, rfl, hRX1, hFX1, hzX1⟩ := hp9
  rw [ht9] at hB9
  have hw := hB9
  have hI3 : LI0 q0 q1 q2 ad cnt X1 Y ln := LI0.cls hI0 hRX1 hFX1 (cinv_frm (M := [10000]) (N := []) hCI hFX1 Frm.rf (by decide) (by decide)) (by decide)
  refine lv_istore (lv' := (5, .int (jI z2)) :: LV b q0 q1 q2 i) hx hb dL_law_932 hl (by decide) rfl (fun ls hl => ?_)
  have hl : lv_has ls 8 (LV b q0 q1 q2 i) := lv_sub hl [1, 2, 3, 4, 5] rfl
  refine lv_aload_n hx hb dL_law_934 rfl (lv_at hl 2 rfl) ?_
  refine l_arg (k := 1) (pc2 := 939) C hS hl hi (by omega) ea1 dL_law_935 dL_law_936 (fun h => lv_iconst (v := jI 1) hx hb dL_law_938 rfl h) dL_law_939 dL_law_940 ?_
  refine l_arg (k := 2) (pc2 := 945) C hS hl hi (by omega) ea2 dL_law_941 dL_law_942 (fun h => lv_iconst (v := jI 2) hx hb dL_law_944 rfl h) dL_law_945 dL_law_946 ?_
  obtain ⟨h0, h40, h100, hFx, hOw, hN, hLn, hR, hCI, hRv, hMI⟩ := id hI3
  have hc40 : cnt 40 = 1 := hFx.at 40 1 (by decide)
  refine gos_l (run_V (k := 40) (i := 0) (As := [.int (jI a1), .int (jI a2)]) (rest := []) hx hb hml hown hts (c_X9_at l D tc s.heap.size ad cnt X1 Y ln hR hFx hMI a1 a2 ga1 ga2) (cwV 2 hts gT_X9_at rfl rfl rfl (by first | exact hd_X9_at | decide +kernel) ⟨Nat.le_of_ble_eq_true rfl, Nat.le_of_ble_eq_true rfl⟩) hK hw (by first | exact Int.le_refl 0 | omega) (by first | exact zlt hc40 | omega) sl_40_0 rfl rfl hl.1 (by rw [h40]; rfl) (Nat.le_of_ble_eq_true rfl) dL_law_947 ⟨by show _ ≤ (601024 : Nat); omega, by show _ ≤ (7293034 : Nat); omega⟩) hS (fun z4 u5 H locs p6 hw hS => ?_)
  obtain ⟨X7, rfl, hRX7, hFX7, hMX7, hzX7, pX7⟩ := p6
  have hI8 : LI0 q0 q1 q2 ad cnt X7 Y ln := LI0.mdl hI3 hRX7 hFX7 hMX7 (by decide)
  refine lv_lstore (lv' := (6, .long (jL z4)) :: LV b q0 q1 q2 i) hx hb dL_law_950 hl (by decide) rfl (fun ls hl => ?_)
  have hl : lv_has ls 8 (LV b q0 q1 q2 i) := lv_sub hl [1, 2, 3, 4, 5] rfl
  have hRC : RC cnt X7 Y ln := RC.two hRC0 hFX1 hFX7 (by decide) (by decide) (by decide) (by decide)
  refine lv_goto (tgt := 1343) hx hb dL_law_952 (by decide) ?_
  exact hg _ _ _ _ _ H locs ls _ _ ⟨hI8, hRC⟩ hw hS hl (by omega) (by omega)
end
section
set_option maxHeartbeats 4000000 in
set_option maxRecDepth 100000 in
theorem law_c14 {p : Program} {l : Launch} {e : Env} {s : State} {m : MethodId} {below : List Frame} {meth : Method} {c : Code} {b L : Nat} {xs : Nat → Int32} {D : va_G} {tc : Nat → ClassId} {Q : State → Prop} {q0 q1 q2 cB sB : Nat} {i : Int} (C : LK p l s m c b L xs D tc) (hi : 0 ≤ i ∧ i + 7 ≤ L) (hcB : cB + 310 ≤ 601024) (hsB : sB + 2110 ≤ 7293034) (hg : LAt p l e s m below meth c b D tc q0 q1 q2 i Q 1343 (cB + 310) (sB + 2110)) : LAt p l e s m below meth c b D tc q0 q1 q2 i Q 955 cB sB := by
  obtain ⟨hx, hb, hml, hown, hts, hX, hbl, hK, hT, hlT, hL⟩ := id C
  intro ad cnt X Y ln H locs ls cl sl hI hw hS hl hcl hsl
  obtain ⟨hI0, hRC0⟩ := id hI
  obtain ⟨i0, i40, i100, iFx, iOw, iN, iLn, iR, iCI, iRv, iMI⟩ := id hI0
  refine lv_aload_n hx hb dL_law_955 rfl (lv_at hl 1 rfl) ?_
  obtain ⟨a1, ea1, ga1⟩ := sc_at xs i 1
  refine l_arg (k := 1) (pc2 := 960) C hS hl hi (by omega) ea1 dL_law_956 dL_law_957 (fun h => lv_iconst (v := jI 1) hx hb dL_law_959 rfl h) dL_law_960 dL_law_961 ?_
  obtain ⟨a2, ea2, ga2⟩ := sc_at xs i 2
  refine l_arg (k := 2) (pc2 := 966) C hS hl hi (by omega) ea2 dL_law_962 dL_law_963 (fun h => lv_iconst (v := jI 2) hx hb dL_law_965 rfl h) dL_law_966 dL_law_967 ?_
  obtain ⟨a3, ea3, ga3⟩ := sc_at xs i 3
  refine l_arg (k := 3) (pc2 := 972) C hS hl hi (by omega) ea3 dL_law_968 dL_law_969 (fun h => lv_iconst (v := jI 3) hx hb dL_law_971 rfl h) dL_law_972 dL_law_973 ?_
  refine lv_aload_n hx hb dL_law_974 rfl (lv_at hl 3 rfl) ?_
  obtain ⟨h0, h40, h100, hFx, hOw, hN, hLn, hR, hCI, hRv, hMI⟩ := id hI0
  refine vx_calli (vx_runSX (As := [.ref (ad 0 0), .int (jI a1), .int (jI a2), .int (jI a3), .ref (ad 100 0)]) (rest := []) ⟨hx, hb, hml, hown, hts⟩ (c_L_itemAt l hlT D tc s.heap.size ad cnt X Y ln hR hFx hLn hCI a1 a2 a3 ga1 ga2 ga3) (vx_cwSW 5 hts gT_L_itemAt rfl rfl rfl (by decide +kernel) ⟨Nat.le_of_ble_eq_true rfl, Nat.le_of_ble_eq_true rfl⟩) ⟨PcT.blind, fun U hU hW => ⟨rfl, by rw [hU]; exact hw, hK.warm hW, by rw [hU]; exact hT.go hS hW⟩⟩ rfl rfl hl.1 (by rw [h0, h100]; rfl) (lv_room (Nat.le_of_ble_eq_true rfl)) dL_law_975 ⟨by show _ ≤ (601024 : Nat); omega, by show _ ≤ (7293034 : Nat); omega⟩) hS (fun q _ h => h) (fun q h => h) (fun q _ h => h) (fun E ce q9 u9 t H1 locs1 ht hvm hp hB hz hk1 hS1 hcell hv hcl => absurd hp id) (fun r9 u9 t9 H locs ht9 hvm9 hp9 hB9 hz9 hk9 hS => ?_)
  obtain ⟨z2, rfl, X1, rfl, hRX1, hFX1, hzX1⟩ := hp9
  rw [ht9] at hB9
  have hw := hB9
  have hI3 : LI0 q0 q1 q2 ad cnt X1 Y ln := LI0.cls hI0 hRX1 hFX1 (cinv_frm (M := [10000]) (N := []) hCI hFX1 Frm.rf (by decide) (by decide)) (by decide)
  refine lv_istore (lv' := (5, .int (jI z2)) :: LV b q0 q1 q2 i) hx hb dL_law_978 hl (by decide) rfl (fun ls hl => ?_)
  have hl : lv_has ls 8 (LV b q0 q1 q2 i) := lv_sub hl [1, 2, 3, 4, 5] rfl
  refine lv_aload_n hx hb dL_law_980 rfl (lv_at hl 2 rfl) ?_
  refine l_arg (k := 1) (pc2 := 985) C hS hl hi (by omega) ea1 dL_law_981 dL_law_982 (fun h => lv_iconst (v := jI 1) hx hb dL_law_984 rfl h) dL_law_985 dL_law_986 ?_
  refine l_arg (k := 2) (pc2 := 991) C hS hl hi (by omega) ea2 dL_law_987 dL_law_988 (fun h => lv_iconst (v := jI 2) hx hb dL_law_990 rfl h) dL_law_991 dL_law_992 ?_
  refine l_arg (k := 3) (pc2 := 997) C hS hl hi (by omega) ea3 dL_law_993 dL_law_994 (fun h => lv_iconst (v := jI 3) hx hb dL_law_996 rfl h) dL_law_997 dL_law_998 ?_
  obtain ⟨h0, h40, h100, hFx, hOw, hN, hLn, hR, hCI, hRv, hMI⟩ := id hI3
  have hc40 : cnt 40 = 1 := hFx.at 40 1 (by decide)
  refine gos_l (run_V (k := 40) (i := 0) (As := [.int (jI a1), .int (jI a2), .int (jI a3)]) (rest := []) hx hb hml hown hts (c_X9_itemAt l D tc s.heap.size ad cnt X1 Y ln hR hFx hMI a1 a2 a3 ga1 ga2 ga3) (cwV 3 hts gT_X9_itemAt rfl rfl rfl (by first | exact hd_X9_itemAt | decide +kernel) ⟨Nat.le_of_ble_eq_true rfl, Nat.le_of_ble_eq_true rfl⟩) hK hw (by first | exact Int.le_refl 0 | omega) (by first | exact zlt hc40 | omega) sl_40_0 rfl rfl hl.1 (by rw [h40]; rfl) (Nat.le_of_ble_eq_true rfl) dL_law_999 ⟨by show _ ≤ (601024 : Nat); omega, by show _ ≤ (7293034 : Nat); omega⟩) hS (fun z4 u5 H locs p6 hw hS => ?_)
  obtain ⟨X7, rfl, hRX7, hFX7, hMX7, hzX7, pX7⟩ := p6
  have hI8 : LI0 q0 q1 q2 ad cnt X7 Y ln := LI0.mdl hI3 hRX7 hFX7 hMX7 (by decide)
  refine lv_lstore (lv' := (6, .long (jL z4)) :: LV b q0 q1 q2 i) hx hb dL_law_1002 hl (by decide) rfl (fun ls hl => ?_)
  have hl : lv_has ls 8 (LV b q0 q1 q2 i) := lv_sub hl [1, 2, 3, 4, 5] rfl
  have hRC : RC cnt X7 Y ln := RC.two hRC0 hFX1 hFX7 (by decide) (by decide) (by decide) (by decide)
  refine lv_goto (tgt := 1343) hx hb dL_law_1004 (by decide) ?_
  exact hg _ _ _ _ _ H locs ls _ _ ⟨hI8, hRC⟩ hw hS hl (by omega) (by omega)

set_option maxHeartbeats 4000000 in
set_option maxRecDepth 100000 in
theorem law_c15 {p : Program} {l : Launch} {e : Env} {s : State} {m : MethodId} {below : List Frame} {meth : Method} {c : Code} {b L : Nat} {xs : Nat → Int32} {D : va_G} {tc : Nat → ClassId} {Q : State → Prop} {q0 q1 q2 cB sB : Nat} {i : Int} (C : LK p l s m c b L xs D tc) (hi : 0 ≤ i ∧ i + 7 ≤ L) (hcB : cB + 310 ≤ 601024) (hsB : sB + 2110 ≤ 7293034) (hg : LAt p l e s m below meth c b D tc q0 q1 q2 i Q 1343 (cB + 310) (sB + 2110)) : LAt p l e s m below meth c b D tc q0 q1 q2 i Q 1007 cB sB := by
  obtain ⟨hx, hb, hml, hown, hts, hX, hbl, hK, hT, hlT, hL⟩ := id C
  intro ad cnt X Y ln H locs ls cl sl hI hw hS hl hcl hsl
  obtain ⟨hI0, hRC0⟩ := id hI
  obtain ⟨i0, i40, i100, iFx, iOw, iN, iLn, iR, iCI, iRv, iMI⟩ := id hI0
  refine lv_aload_n hx hb dL_law_1007 rfl (lv_at hl 1 rfl) ?_
  obtain ⟨h0, h40, h100, hFx, hOw, hN, hLn, hR, hCI, hRv, hMI⟩ := id hI0
  have hc0 : cnt 0 = 1 := hFx.at 0 1 (by decide)
  refine gos_i (run_V (k := 0) (i := 0) (As := []) (rest := []) hx hb hml hown hts (c_X8_forget l D tc s.heap.size ad cnt X Y ln hR hFx hLn hCI) (cwV 0 hts gT_X8_forget rfl rfl rfl (by first | exact hd_X8_forget | decide +kernel) ⟨Nat.le_of_ble_eq_true rfl, Nat.le_of_ble_eq_true rfl⟩) hK hw (by first | exact Int.le_refl 0 | omega) (by first | exact zlt hc0 | omega) sl_0_0 rfl rfl hl.1 (by rw [h0]; rfl) (Nat.le_of_ble_eq_true rfl) dL_law_1008 ⟨by show _ ≤ (601024 : Nat); omega, by show _ ≤ (7293034 : Nat); omega⟩) hS (fun z1 u2 H locs p3 hw hS => ?_)
  obtain ⟨X4, rfl, hRX4, hFX4, hCX4, hzX4, pX4⟩ := p3
  have hI5 : LI0 q0 q1 q2 ad cnt X4 Y ln := LI0.cls hI0 hRX4 hFX4 hCX4 (by decide)
  refine lv_pop hx hb dL_law_1011 rfl ?_
  refine lv_aload_n hx hb dL_law_1012 rfl (lv_at hl 2 rfl) ?_
  obtain ⟨h0, h40, h100, hFx, hOw, hN, hLn, hR, hCI, hRv, hMI⟩ := id hI5
  have hc40 : cnt 40 = 1 := hFx.at 40 1 (by decide)
  refine gos_i (run_V (k := 40) (i := 0) (As := []) (rest := []) hx hb hml hown hts (c_X9_forget l D tc s.heap.size ad cnt X4 Y ln hR hFx hMI) (cwV 0 hts gT_X9_forget rfl rfl rfl (by first | exact hd_X9_forget | decide +kernel) ⟨Nat.le_of_ble_eq_true rfl, Nat.le_of_ble_eq_true rfl⟩) hK hw (by first | exact Int.le_refl 0 | omega) (by first | exact zlt hc40 | omega) sl_40_0 rfl rfl hl.1 (by rw [h40]; rfl) (Nat.le_of_ble_eq_true rfl) dL_law_1013 ⟨by show _ ≤ (601024 : Nat); omega, by show _ ≤ (7293034 : Nat); omega⟩) hS (fun z6 u7 H locs p8 hw hS => ?_)
  obtain ⟨X9, rfl, hRX9, hFX9, hMX9, hzX9, pX9⟩ := p8
  have hI10 : LI0 q0 q1 q2 ad cnt X9 Y ln := LI0.mdl hI5 hRX9 hFX9 hMX9 (by decide)
  refine lv_pop hx hb dL_law_1016 rfl ?_
  obtain ⟨hRC, hq9⟩ := J_forget hRC0 iMI iR hRX4 iLn iN hFX4 pX4 hFX9 hMX9 pX9
  refine lv_goto (tgt := 1343) hx hb dL_law_1017 (by decide) ?_
  exact hg _ _ _ _ _ H locs ls _ _ ⟨hI10, hRC⟩ hw hS hl (by omega) (by omega)

set_option maxHeartbeats 4000000 in
set_option maxRecDepth 100000 in
theorem law_c16 {p : Program} {l : Launch} {e : Env} {s : State} {m : MethodId} {below : List Frame} {meth : Method} {c : Code} {b L : Nat} {xs : Nat → Int32} {D : va_G} {tc : Nat → ClassId} {Q : State → Prop} {q0 q1 q2 cB sB : Nat} {i : Int} (C : LK p l s m c b L xs D tc) (hi : 0 ≤ i ∧ i + 7 ≤ L) (hcB : cB + 310 ≤ 601024) (hsB : sB + 2110 ≤ 7293034) (hg : LAt p l e s m below meth c b D tc q0 q1 q2 i Q 1343 (cB + 310) (sB + 2110)) : LAt p l e s m below meth c b D tc q0 q1 q2 i Q 1020 cB sB := by
  obtain ⟨hx, hb, hml, hown, hts, hX, hbl, hK, hT, hlT, hL⟩ := id C
  intro ad cnt X Y ln H locs ls cl sl hI hw hS hl hcl hsl
  obtain ⟨hI0, hRC0⟩ := id hI
  obtain ⟨i0, i40, i100, iFx, iOw, iN, iLn, iR, iCI, iRv, iMI⟩ := id hI0
  refine lv_aload_n hx hb dL_law_1020 rfl (lv_at hl 1 rfl) ?_
  obtain ⟨a1, ea1, ga1⟩ := sc_at xs i 1
  refine l_arg (k := 1) (pc2 := 1025) C hS hl hi (by omega) ea1 dL_law_1021 dL_law_1022 (fun h => lv_iconst (v := jI 1) hx hb dL_law_1024 rfl h) dL_law_1025 dL_law_1026 ?_
  obtain ⟨a2, ea2, ga2⟩ := sc_at xs i 2
  refine l_arg (k := 2) (pc2 := 1031) C hS hl hi (by omega) ea2 dL_law_1027 dL_law_1028 (fun h => lv_iconst (v := jI 2) hx hb dL_law_1030 rfl h) dL_law_1031 dL_law_1032 ?_
  obtain ⟨h0, h40, h100, hFx, hOw, hN, hLn, hR, hCI, hRv, hMI⟩ := id hI0
  have hc0 : cnt 0 = 1 := hFx.at 0 1 (by decide)
  refine gos_i (run_V (k := 0) (i := 0) (As := [.int (jI a1), .int (jI a2)]) (rest := []) hx hb hml hown hts (c_X8_told l D tc s.heap.size ad cnt X Y ln hR hFx hLn hCI a1 a2 ga1 ga2) (cwV 2 hts gT_X8_told rfl rfl rfl (by first | exact hd_X8_told | decide +kernel) ⟨Nat.le_of_ble_eq_true rfl, Nat.le_of_ble_eq_true rfl⟩) hK hw (by first | exact Int.le_refl 0 | omega) (by first | exact zlt hc0 | omega) sl_0_0 rfl rfl hl.1 (by rw [h0]; rfl) (Nat.le_of_ble_eq_true rfl) dL_law_1033 ⟨by show _ ≤ (601024 : Nat); omega, by show _ ≤ (7293034 : Nat); omega⟩) hS (fun z1 u2 H locs p3 hw hS => ?_)
  obtain ⟨X4, rfl, hRX4, hFX4, hCX4, hzX4, pX4⟩ := p3
  have hI5 : LI0 q0 q1 q2 ad cnt X4 Y ln := LI0.cls hI0 hRX4 hFX4 hCX4 (by decide)
  refine lv_pop hx hb dL_law_1036 rfl ?_
  refine lv_aload_n hx hb dL_law_1037 rfl (lv_at hl 2 rfl) ?_
  refine l_arg (k := 1) (pc2 := 1042) C hS hl hi (by omega) ea1 dL_law_1038 dL_law_1039 (fun h => lv_iconst (v := jI 1) hx hb dL_law_1041 rfl h) dL_law_1042 dL_law_1043 ?_
  refine l_arg (k := 2) (pc2 := 1048) C hS hl hi (by omega) ea2 dL_law_1044 dL_law_1045 (fun h => lv_iconst (v := jI 2) hx hb dL_law_1047 rfl h) dL_law_1048 dL_law_1049 ?_
  obtain ⟨h0, h40, h100, hFx, hOw, hN, hLn, hR, hCI, hRv, hMI⟩ := id hI5
  have hc40 : cnt 40 = 1 := hFx.at 40 1 (by decide)
  refine gos_i (run_V (k := 40) (i := 0) (As := [.int (jI a1), .int (jI a2)]) (rest := []) hx hb hml hown hts (c_X9_told l D tc s.heap.size ad cnt X4 Y ln hR hFx hMI a1 a2 ga1 ga2) (cwV 2 hts gT_X9_told rfl rfl rfl (by first | exact hd_X9_told | decide +kernel) ⟨Nat.le_of_ble_eq_true rfl, Nat.le_of_ble_eq_true rfl⟩) hK hw (by first | exact Int.le_refl 0 | omega) (by first | exact zlt hc40 | omega) sl_40_0 rfl rfl hl.1 (by rw [h40]; rfl) (Nat.le_of_ble_eq_true rfl) dL_law_1050 ⟨by show _ ≤ (601024 : Nat); omega, by show _ ≤ (7293034 : Nat); omega⟩) hS (fun z6 u7 H locs p8 hw hS => ?_)
  obtain ⟨X9, rfl, hRX9, hFX9, hMX9, hzX9, pX9⟩ := p8
  have hI10 : LI0 q0 q1 q2 ad cnt X9 Y ln := LI0.mdl hI5 hRX9 hFX9 hMX9 (by decide)
  refine lv_pop hx hb dL_law_1053 rfl ?_
  obtain ⟨hRC, hq9⟩ := J_told hRC0 iMI iR hRX4 iLn iN hFX4 pX4 hFX9 hMX9 pX9
  refine lv_goto (tgt := 1343) hx hb dL_law_1054 (by decide) ?_
  exact hg _ _ _ _ _ H locs ls _ _ ⟨hI10, hRC⟩ hw hS hl (by omega) (by omega)

set_option maxHeartbeats 4000000 in
set_option maxRecDepth 100000 in
theorem law_c17 {p : Program} {l : Launch} {e : Env} {s : State} {m : MethodId} {below : List Frame} {meth : Method} {c : Code} {b L : Nat} {xs : Nat → Int32} {D : va_G} {tc : Nat → ClassId} {Q : State → Prop} {q0 q1 q2 cB sB : Nat} {i : Int} (C : LK p l s m c b L xs D tc) (hi : 0 ≤ i ∧ i + 7 ≤ L) (hcB : cB + 310 ≤ 601024) (hsB : sB + 2110 ≤ 7293034) (hg : LAt p l e s m below meth c b D tc q0 q1 q2 i Q 1343 (cB + 310) (sB + 2110)) : LAt p l e s m below meth c b D tc q0 q1 q2 i Q 1057 cB sB := by
  obtain ⟨hx, hb, hml, hown, hts, hX, hbl, hK, hT, hlT, hL⟩ := id C
  intro ad cnt X Y ln H locs ls cl sl hI hw hS hl hcl hsl
  obtain ⟨hI0, hRC0⟩ := id hI
  obtain ⟨i0, i40, i100, iFx, iOw, iN, iLn, iR, iCI, iRv, iMI⟩ := id hI0
  refine lv_aload_n hx hb dL_law_1057 rfl (lv_at hl 1 rfl) ?_
  obtain ⟨a1, ea1, ga1⟩ := sc_at xs i 1
  refine l_arg (k := 1) (pc2 := 1062) C hS hl hi (by omega) ea1 dL_law_1058 dL_law_1059 (fun h => lv_iconst (v := jI 1) hx hb dL_law_1061 rfl h) dL_law_1062 dL_law_1063 ?_
  obtain ⟨h0, h40, h100, hFx, hOw, hN, hLn, hR, hCI, hRv, hMI⟩ := id hI0
  have hc0 : cnt 0 = 1 := hFx.at 0 1 (by decide)
  refine gos_i (run_V (k := 0) (i := 0) (As := [.int (jI a1)]) (rest := []) hx hb hml hown hts (c_X8_judge l D tc s.heap.size ad cnt X Y ln hR hFx hLn hCI a1 ga1) (cwV 1 hts gT_X8_judge rfl rfl rfl (by first | exact hd_X8_judge | decide +kernel) ⟨Nat.le_of_ble_eq_true rfl, Nat.le_of_ble_eq_true rfl⟩) hK hw (by first | exact Int.le_refl 0 | omega) (by first | exact zlt hc0 | omega) sl_0_0 rfl rfl hl.1 (by rw [h0]; rfl) (Nat.le_of_ble_eq_true rfl) dL_law_1064 ⟨by show _ ≤ (601024 : Nat); omega, by show _ ≤ (7293034 : Nat); omega⟩) hS (fun z1 u2 H locs p3 hw hS => ?_)
  obtain ⟨X4, rfl, hRX4, hFX4, hCX4, hzX4, pX4⟩ := p3
  have hI5 : LI0 q0 q1 q2 ad cnt X4 Y ln := LI0.cls hI0 hRX4 hFX4 hCX4 (by decide)
  refine lv_aload_n hx hb dL_law_1067 rfl (lv_at hl 2 rfl) ?_
  refine l_arg (k := 1) (pc2 := 1072) C hS hl hi (by omega) ea1 dL_law_1068 dL_law_1069 (fun h => lv_iconst (v := jI 1) hx hb dL_law_1071 rfl h) dL_law_1072 dL_law_1073 ?_
  obtain ⟨h0, h40, h100, hFx, hOw, hN, hLn, hR, hCI, hRv, hMI⟩ := id hI5
  have hc40 : cnt 40 = 1 := hFx.at 40 1 (by decide)
  refine gos_i (run_V (k := 40) (i := 0) (As := [.int (jI a1)]) (rest := [.int (jI z1)]) hx hb hml hown hts (c_X9_judge l D tc s.heap.size ad cnt X4 Y ln hR hFx hMI a1 ga1) (cwV 1 hts gT_X9_judge rfl rfl rfl (by first | exact hd_X9_judge | decide +kernel) ⟨Nat.le_of_ble_eq_true rfl, Nat.le_of_ble_eq_true rfl⟩) hK hw (by first | exact Int.le_refl 0 | omega) (by first | exact zlt hc40 | omega) sl_40_0 rfl rfl hl.1 (by rw [h40]; rfl) (Nat.le_of_ble_eq_true rfl) dL_law_1074 ⟨by show _ ≤ (601024 : Nat); omega, by show _ ≤ (7293034 : Nat); omega⟩) hS (fun z6 u7 H locs p8 hw hS => ?_)
  obtain ⟨X9, rfl, hRX9, hFX9, hMX9, hzX9, pX9⟩ := p8
  have hI10 : LI0 q0 q1 q2 ad cnt X9 Y ln := LI0.mdl hI5 hRX9 hFX9 hMX9 (by decide)
  obtain ⟨hRC, hq9⟩ := J_judge hRC0 iMI iR hRX4 iLn iN hFX4 pX4 hFX9 hMX9 pX9 iCI
  refine x_icmp_eq (tgt := 1343) hx hb (by omega) (by omega) dL_law_1077 (by decide) (fun _ => ?_) (fun c9 => ?_)
  · exact hg _ _ _ _ _ H locs ls _ _ ⟨hI10, hRC⟩ hw hS hl (by omega) (by omega)
  · exact absurd hq9 c9

set_option maxHeartbeats 4000000 in
set_option maxRecDepth 100000 in
theorem law_c18 {p : Program} {l : Launch} {e : Env} {s : State} {m : MethodId} {below : List Frame} {meth : Method} {c : Code} {b L : Nat} {xs : Nat → Int32} {D : va_G} {tc : Nat → ClassId} {Q : State → Prop} {q0 q1 q2 cB sB : Nat} {i : Int} (C : LK p l s m c b L xs D tc) (hi : 0 ≤ i ∧ i + 7 ≤ L) (hcB : cB + 310 ≤ 601024) (hsB : sB + 2110 ≤ 7293034) (hg : LAt p l e s m below meth c b D tc q0 q1 q2 i Q 1343 (cB + 310) (sB + 2110)) : LAt p l e s m below meth c b D tc q0 q1 q2 i Q 1082 cB sB := by
  obtain ⟨hx, hb, hml, hown, hts, hX, hbl, hK, hT, hlT, hL⟩ := id C
  intro ad cnt X Y ln H locs ls cl sl hI hw hS hl hcl hsl
  obtain ⟨hI0, hRC0⟩ := id hI
  obtain ⟨i0, i40, i100, iFx, iOw, iN, iLn, iR, iCI, iRv, iMI⟩ := id hI0
  refine lv_aload_n hx hb dL_law_1082 rfl (lv_at hl 1 rfl) ?_
  obtain ⟨a1, ea1, ga1⟩ := sc_at xs i 1
  refine l_arg (k := 1) (pc2 := 1087) C hS hl hi (by omega) ea1 dL_law_1083 dL_law_1084 (fun h => lv_iconst (v := jI 1) hx hb dL_law_1086 rfl h) dL_law_1087 dL_law_1088 ?_
  obtain ⟨a2, ea2, ga2⟩ := sc_at xs i 2
  refine l_arg (k := 2) (pc2 := 1093) C hS hl hi (by omega) ea2 dL_law_1089 dL_law_1090 (fun h => lv_iconst (v := jI 2) hx hb dL_law_1092 rfl h) dL_law_1093 dL_law_1094 ?_
  obtain ⟨h0, h40, h100, hFx, hOw, hN, hLn, hR, hCI, hRv, hMI⟩ := id hI0
  have hc0 : cnt 0 = 1 := hFx.at 0 1 (by decide)
  refine gos_i (run_V (k := 0) (i := 0) (As := [.int (jI a1), .int (jI a2)]) (rest := []) hx hb hml hown hts (c_X8_save l D tc s.heap.size ad cnt X Y ln hR hFx hLn hCI hRv a1 a2 ga1 ga2) (cwV 2 hts gT_X8_save rfl rfl rfl (by first | exact hd_X8_save | decide +kernel) ⟨Nat.le_of_ble_eq_true rfl, Nat.le_of_ble_eq_true rfl⟩) hK hw (by first | exact Int.le_refl 0 | omega) (by first | exact zlt hc0 | omega) sl_0_0 rfl rfl hl.1 (by rw [h0]; rfl) (Nat.le_of_ble_eq_true rfl) dL_law_1095 ⟨by show _ ≤ (601024 : Nat); omega, by show _ ≤ (7293034 : Nat); omega⟩) hS (fun z1 u2 H locs p3 hw hS => ?_)
  obtain ⟨X4, Y6, rfl, hRX4, hFX4, hHX4, hCX4, hzX4, pX4⟩ := p3
  have hVX4 := pX4.1
  have hI5 : LI0 q0 q1 q2 ad cnt X4 Y6 ln := LI0.clsR hI0 hRX4 hFX4 hCX4 hVX4 (by decide)
  refine lv_pop hx hb dL_law_1098 rfl ?_
  refine lv_aload_n hx hb dL_law_1099 rfl (lv_at hl 2 rfl) ?_
  refine l_arg (k := 1) (pc2 := 1104) C hS hl hi (by omega) ea1 dL_law_1100 dL_law_1101 (fun h => lv_iconst (v := jI 1) hx hb dL_law_1103 rfl h) dL_law_1104 dL_law_1105 ?_
  refine l_arg (k := 2) (pc2 := 1110) C hS hl hi (by omega) ea2 dL_law_1106 dL_law_1107 (fun h => lv_iconst (v := jI 2) hx hb dL_law_1109 rfl h) dL_law_1110 dL_law_1111 ?_
  obtain ⟨h0, h40, h100, hFx, hOw, hN, hLn, hR, hCI, hRv, hMI⟩ := id hI5
  have hc40 : cnt 40 = 1 := hFx.at 40 1 (by decide)
  refine gos_i (run_V (k := 40) (i := 0) (As := [.int (jI a1), .int (jI a2)]) (rest := []) hx hb hml hown hts (c_X9_save l D tc s.heap.size ad cnt X4 Y6 ln hR hFx hMI a1 a2 ga1 ga2) (cwV 2 hts gT_X9_save rfl rfl rfl (by first | exact hd_X9_save | decide +kernel) ⟨Nat.le_of_ble_eq_true rfl, Nat.le_of_ble_eq_true rfl⟩) hK hw (by first | exact Int.le_refl 0 | omega) (by first | exact zlt hc40 | omega) sl_40_0 rfl rfl hl.1 (by rw [h40]; rfl) (Nat.le_of_ble_eq_true rfl) dL_law_1112 ⟨by show _ ≤ (601024 : Nat); omega, by show _ ≤ (7293034 : Nat); omega⟩) hS (fun z7 u8 H locs p9 hw hS => ?_)
  obtain ⟨X10, rfl, hRX10, hFX10, hMX10, hzX10, pX10⟩ := p9
  have hI11 : LI0 q0 q1 q2 ad cnt X10 Y6 ln := LI0.mdl hI5 hRX10 hFX10 hMX10 (by decide)
  refine lv_pop hx hb dL_law_1115 rfl ?_
  obtain ⟨hRC, hq9⟩ := J_save hRC0 iMI iR hRX4 iLn iN hFX4 hHX4 pX4 hFX10 hMX10 pX10 hRX10
  refine lv_goto (tgt := 1343) hx hb dL_law_1116 (by decide) ?_
  exact hg _ _ _ _ _ H locs ls _ _ ⟨hI11, hRC⟩ hw hS hl (by omega) (by omega)

set_option maxHeartbeats 4000000 in
set_option maxRecDepth 100000 in
theorem law_c19 {p : Program} {l : Launch} {e : Env} {s : State} {m : MethodId} {below : List Frame} {meth : Method} {c : Code} {b L : Nat} {xs : Nat → Int32} {D : va_G} {tc : Nat → ClassId} {Q : State → Prop} {q0 q1 q2 cB sB : Nat} {i : Int} (C : LK p l s m c b L xs D tc) (hi : 0 ≤ i ∧ i + 7 ≤ L) (hcB : cB + 310 ≤ 601024) (hsB : sB + 2110 ≤ 7293034) (hg : LAt p l e s m below meth c b D tc q0 q1 q2 i Q 1343 (cB + 310) (sB + 2110)) : LAt p l e s m below meth c b D tc q0 q1 q2 i Q 1119 cB sB := by
  obtain ⟨hx, hb, hml, hown, hts, hX, hbl, hK, hT, hlT, hL⟩ := id C
  intro ad cnt X Y ln H locs ls cl sl hI hw hS hl hcl hsl
  obtain ⟨hI0, hRC0⟩ := id hI
  obtain ⟨i0, i40, i100, iFx, iOw, iN, iLn, iR, iCI, iRv, iMI⟩ := id hI0
  refine lv_aload_n hx hb dL_law_1119 rfl (lv_at hl 1 rfl) ?_
  obtain ⟨a1, ea1, ga1⟩ := sc_at xs i 1
  refine l_arg (k := 1) (pc2 := 1124) C hS hl hi (by omega) ea1 dL_law_1120 dL_law_1121 (fun h => lv_iconst (v := jI 1) hx hb dL_law_1123 rfl h) dL_law_1124 dL_law_1125 ?_
  obtain ⟨a2, ea2, ga2⟩ := sc_at xs i 2
  refine l_arg (k := 2) (pc2 := 1130) C hS hl hi (by omega) ea2 dL_law_1126 dL_law_1127 (fun h => lv_iconst (v := jI 2) hx hb dL_law_1129 rfl h) dL_law_1130 dL_law_1131 ?_
  obtain ⟨h0, h40, h100, hFx, hOw, hN, hLn, hR, hCI, hRv, hMI⟩ := id hI0
  have hc0 : cnt 0 = 1 := hFx.at 0 1 (by decide)
  refine gos_i (run_V (k := 0) (i := 0) (As := [.int (jI a1), .int (jI a2)]) (rest := []) hx hb hml hown hts (c_X8_saved l D tc s.heap.size ad cnt X Y ln hR hFx hLn hCI a1 a2 ga1 ga2) (cwV 2 hts gT_X8_saved rfl rfl rfl (by first | exact hd_X8_saved | decide +kernel) ⟨Nat.le_of_ble_eq_true rfl, Nat.le_of_ble_eq_true rfl⟩) hK hw (by first | exact Int.le_refl 0 | omega) (by first | exact zlt hc0 | omega) sl_0_0 rfl rfl hl.1 (by rw [h0]; rfl) (Nat.le_of_ble_eq_true rfl) dL_law_1132 ⟨by show _ ≤ (601024 : Nat); omega, by show _ ≤ (7293034 : Nat); omega⟩) hS (fun z1 u2 H locs p3 hw hS => ?_)
  obtain ⟨X4, rfl, hRX4, hFX4, hCX4, hzX4, pX4⟩ := p3
  have hI5 : LI0 q0 q1 q2 ad cnt X4 Y ln := LI0.cls hI0 hRX4 hFX4 hCX4 (by decide)
  refine lv_pop hx hb dL_law_1135 rfl ?_
  refine lv_aload_n hx hb dL_law_1136 rfl (lv_at hl 2 rfl) ?_
  refine l_arg (k := 1) (pc2 := 1141) C hS hl hi (by omega) ea1 dL_law_1137 dL_law_1138 (fun h => lv_iconst (v := jI 1) hx hb dL_law_1140 rfl h) dL_law_1141 dL_law_1142 ?_
  refine l_arg (k := 2) (pc2 := 1147) C hS hl hi (by omega) ea2 dL_law_1143 dL_law_1144 (fun h => lv_iconst (v := jI 2) hx hb dL_law_1146 rfl h) dL_law_1147 dL_law_1148 ?_
  obtain ⟨h0, h40, h100, hFx, hOw, hN, hLn, hR, hCI, hRv, hMI⟩ := id hI5
  have hc40 : cnt 40 = 1 := hFx.at 40 1 (by decide)
  refine gos_i (run_V (k := 40) (i := 0) (As := [.int (jI a1), .int (jI a2)]) (rest := []) hx hb hml hown hts (c_X9_saved l D tc s.heap.size ad cnt X4 Y ln hR hFx hMI a1 a2 ga1 ga2) (cwV 2 hts gT_X9_saved rfl rfl rfl (by first | exact hd_X9_saved | decide +kernel) ⟨Nat.le_of_ble_eq_true rfl, Nat.le_of_ble_eq_true rfl⟩) hK hw (by first | exact Int.le_refl 0 | omega) (by first | exact zlt hc40 | omega) sl_40_0 rfl rfl hl.1 (by rw [h40]; rfl) (Nat.le_of_ble_eq_true rfl) dL_law_1149 ⟨by show _ ≤ (601024 : Nat); omega, by show _ ≤ (7293034 : Nat); omega⟩) hS (fun z6 u7 H locs p8 hw hS => ?_)
  obtain ⟨X9, rfl, hRX9, hFX9, hMX9, hzX9, pX9⟩ := p8
  have hI10 : LI0 q0 q1 q2 ad cnt X9 Y ln := LI0.mdl hI5 hRX9 hFX9 hMX9 (by decide)
  refine lv_pop hx hb dL_law_1152 rfl ?_
  obtain ⟨hRC, hq9⟩ := J_saved hRC0 iMI iR hRX4 iLn iN hFX4 pX4 hFX9 hMX9 pX9
  refine lv_goto (tgt := 1343) hx hb dL_law_1153 (by decide) ?_
  exact hg _ _ _ _ _ H locs ls _ _ ⟨hI10, hRC⟩ hw hS hl (by omega) (by omega)

set_option maxHeartbeats 4000000 in
set_option maxRecDepth 100000 in
theorem law_c20 {p : Program} {l : Launch} {e : Env} {s : State} {m : MethodId} {below : List Frame} {meth : Method} {c : Code} {b L : Nat} {xs : Nat → Int32} {D : va_G} {tc : Nat → ClassId} {Q : State → Prop} {q0 q1 q2 cB sB : Nat} {i : Int} (C : LK p l s m c b L xs D tc) (hi : 0 ≤ i ∧ i + 7 ≤ L) (hcB : cB + 310 ≤ 601024) (hsB : sB + 2110 ≤ 7293034) (hg : LAt p l e s m below meth c b D tc q0 q1 q2 i Q 1343 (cB + 310) (sB + 2110)) : LAt p l e s m below meth c b D tc q0 q1 q2 i Q 1156 cB sB := by
  obtain ⟨hx, hb, hml, hown, hts, hX, hbl, hK, hT, hlT, hL⟩ := id C
  intro ad cnt X Y ln H locs ls cl sl hI hw hS hl hcl hsl
  obtain ⟨hI0, hRC0⟩ := id hI
  obtain ⟨i0, i40, i100, iFx, iOw, iN, iLn, iR, iCI, iRv, iMI⟩ := id hI0
  refine lv_aload_n hx hb dL_law_1156 rfl (lv_at hl 1 rfl) ?_
  obtain ⟨a1, ea1, ga1⟩ := sc_at xs i 1
  refine l_arg (k := 1) (pc2 := 1161) C hS hl hi (by omega) ea1 dL_law_1157 dL_law_1158 (fun h => lv_iconst (v := jI 1) hx hb dL_law_1160 rfl h) dL_law_1161 dL_law_1162 ?_
  obtain ⟨a2, ea2, ga2⟩ := sc_at xs i 2
  refine l_arg (k := 2) (pc2 := 1167) C hS hl hi (by omega) ea2 dL_law_1163 dL_law_1164 (fun h => lv_iconst (v := jI 2) hx hb dL_law_1166 rfl h) dL_law_1167 dL_law_1168 ?_
  obtain ⟨h0, h40, h100, hFx, hOw, hN, hLn, hR, hCI, hRv, hMI⟩ := id hI0
  have hc0 : cnt 0 = 1 := hFx.at 0 1 (by decide)
  refine gos_i (run_V (k := 0) (i := 0) (As := [.int (jI a1), .int (jI a2)]) (rest := []) hx hb hml hown hts (c_X8_restore l D tc s.heap.size ad cnt X Y ln hR hFx hLn hCI hOw hN a1 a2 ga1 ga2 hRv) (cwV 2 hts gT_X8_restore rfl rfl rfl (by first | exact hd_X8_restore | decide +kernel) ⟨Nat.le_of_ble_eq_true rfl, Nat.le_of_ble_eq_true rfl⟩) hK hw (by first | exact Int.le_refl 0 | omega) (by first | exact zlt hc0 | omega) sl_0_0 rfl rfl hl.1 (by rw [h0]; rfl) (Nat.le_of_ble_eq_true rfl) dL_law_1169 ⟨by show _ ≤ (601024 : Nat); omega, by show _ ≤ (7293034 : Nat); omega⟩) hS (fun z1 u2 H locs p3 hw hS => ?_)
  obtain ⟨ad6, cnt7, X4, Y8, ln9, rfl, hEX4, hFxX4, hOwX4, hLnX4, hRX4, hFX4, hHX4, hCX4, hzX4, pX4⟩ := p3
  have hI5 : LI0 q0 q1 q2 ad6 cnt7 X4 Y8 ln9 := LI0.grow hI0 hEX4 hFxX4 hOwX4 hLnX4 hRX4 hFX4 hCX4 (by decide)
  refine lv_pop hx hb dL_law_1172 rfl ?_
  refine lv_aload_n hx hb dL_law_1173 rfl (lv_at hl 2 rfl) ?_
  refine l_arg (k := 1) (pc2 := 1178) C hS hl hi (by omega) ea1 dL_law_1174 dL_law_1175 (fun h => lv_iconst (v := jI 1) hx hb dL_law_1177 rfl h) dL_law_1178 dL_law_1179 ?_
  refine l_arg (k := 2) (pc2 := 1184) C hS hl hi (by omega) ea2 dL_law_1180 dL_law_1181 (fun h => lv_iconst (v := jI 2) hx hb dL_law_1183 rfl h) dL_law_1184 dL_law_1185 ?_
  obtain ⟨h0, h40, h100, hFx, hOw, hN, hLn, hR, hCI, hRv, hMI⟩ := id hI5
  have hc40 : cnt7 40 = 1 := hFx.at 40 1 (by decide)
  refine gos_i (run_V (k := 40) (i := 0) (As := [.int (jI a1), .int (jI a2)]) (rest := []) hx hb hml hown hts (c_X9_restore l D tc s.heap.size ad6 cnt7 X4 Y8 ln9 hR hFx hMI a1 a2 ga1 ga2) (cwV 2 hts gT_X9_restore rfl rfl rfl (by first | exact hd_X9_restore | decide +kernel) ⟨Nat.le_of_ble_eq_true rfl, Nat.le_of_ble_eq_true rfl⟩) hK hw (by first | exact Int.le_refl 0 | omega) (by first | exact zlt hc40 | omega) sl_40_0 rfl rfl hl.1 (by rw [h40]; rfl) (Nat.le_of_ble_eq_true rfl) dL_law_1186 ⟨by show _ ≤ (601024 : Nat); omega, by show _ ≤ (7293034 : Nat); omega⟩) hS (fun z10 u11 H locs p12 hw hS => ?_)
  obtain ⟨X13, rfl, hRX13, hFX13, hMX13, hzX13, pX13⟩ := p12
  have hI14 : LI0 q0 q1 q2 ad6 cnt7 X13 Y8 ln9 := LI0.mdl hI5 hRX13 hFX13 hMX13 (by decide)
  refine lv_pop hx hb dL_law_1189 rfl ?_
  obtain ⟨hRC, hq9⟩ := J_restore hRC0 iMI iR hRX4 iLn iN hFX4 hHX4 hEX4.2.1 hEX4.2.2 hLnX4 pX4 hFX13 hMX13 pX13 hRX13 iCI
  refine lv_goto (tgt := 1343) hx hb dL_law_1190 (by decide) ?_
  exact hg _ _ _ _ _ H locs ls _ _ ⟨hI14, hRC⟩ hw hS hl (by omega) (by omega)
end
section
set_option maxHeartbeats 4000000 in
set_option maxRecDepth 100000 in
theorem law_c21 {p : Program} {l : Launch} {e : Env} {s : State} {m : MethodId} {below : List Frame} {meth : Method} {c : Code} {b L : Nat} {xs : Nat → Int32} {D : va_G} {tc : Nat → ClassId} {Q : State → Prop} {q0 q1 q2 cB sB : Nat} {i : Int} (C : LK p l s m c b L xs D tc) (hi : 0 ≤ i ∧ i + 7 ≤ L) (hcB : cB + 310 ≤ 601024) (hsB : sB + 2110 ≤ 7293034) (hg : LAt p l e s m below meth c b D tc q0 q1 q2 i Q 1343 (cB + 310) (sB + 2110)) : LAt p l e s m below meth c b D tc q0 q1 q2 i Q 1193 cB sB := by
  obtain ⟨hx, hb, hml, hown, hts, hX, hbl, hK, hT, hlT, hL⟩ := id C
  intro ad cnt X Y ln H locs ls cl sl hI hw hS hl hcl hsl
  obtain ⟨hI0, hRC0⟩ := id hI
  obtain ⟨i0, i40, i100, iFx, iOw, iN, iLn, iR, iCI, iRv, iMI⟩ := id hI0
  refine lv_aload_n hx hb dL_law_1193 rfl (lv_at hl 1 rfl) ?_
  obtain ⟨a1, ea1, ga1⟩ := sc_at xs i 1
  refine l_arg (k := 1) (pc2 := 1198) C hS hl hi (by omega) ea1 dL_law_1194 dL_law_1195 (fun h => lv_iconst (v := jI 1) hx hb dL_law_1197 rfl h) dL_law_1198 dL_law_1199 ?_
  obtain ⟨h0, h40, h100, hFx, hOw, hN, hLn, hR, hCI, hRv, hMI⟩ := id hI0
  have hc0 : cnt 0 = 1 := hFx.at 0 1 (by decide)
  refine gos_i (run_V (k := 0) (i := 0) (As := [.int (jI a1)]) (rest := []) hx hb hml hown hts (c_X8_fault l D tc s.heap.size ad cnt X Y ln hR hFx hLn hCI a1 ga1) (cwV 1 hts gT_X8_fault rfl rfl rfl (by first | exact hd_X8_fault | decide +kernel) ⟨Nat.le_of_ble_eq_true rfl, Nat.le_of_ble_eq_true rfl⟩) hK hw (by first | exact Int.le_refl 0 | omega) (by first | exact zlt hc0 | omega) sl_0_0 rfl rfl hl.1 (by rw [h0]; rfl) (Nat.le_of_ble_eq_true rfl) dL_law_1200 ⟨by show _ ≤ (601024 : Nat); omega, by show _ ≤ (7293034 : Nat); omega⟩) hS (fun z1 u2 H locs p3 hw hS => ?_)
  obtain ⟨X4, rfl, hRX4, hFX4, hCX4, hzX4⟩ := p3
  have hI5 : LI0 q0 q1 q2 ad cnt X4 Y ln := LI0.cls hI0 hRX4 hFX4 hCX4 (by decide)
  refine lv_pop hx hb dL_law_1203 rfl ?_
  refine lv_aload_n hx hb dL_law_1204 rfl (lv_at hl 2 rfl) ?_
  refine l_arg (k := 1) (pc2 := 1209) C hS hl hi (by omega) ea1 dL_law_1205 dL_law_1206 (fun h => lv_iconst (v := jI 1) hx hb dL_law_1208 rfl h) dL_law_1209 dL_law_1210 ?_
  obtain ⟨h0, h40, h100, hFx, hOw, hN, hLn, hR, hCI, hRv, hMI⟩ := id hI5
  have hc40 : cnt 40 = 1 := hFx.at 40 1 (by decide)
  refine gos_i (run_V (k := 40) (i := 0) (As := [.int (jI a1)]) (rest := []) hx hb hml hown hts (c_X9_fault l D tc s.heap.size ad cnt X4 Y ln hR hFx hMI a1 ga1) (cwV 1 hts gT_X9_fault rfl rfl rfl (by first | exact hd_X9_fault | decide +kernel) ⟨Nat.le_of_ble_eq_true rfl, Nat.le_of_ble_eq_true rfl⟩) hK hw (by first | exact Int.le_refl 0 | omega) (by first | exact zlt hc40 | omega) sl_40_0 rfl rfl hl.1 (by rw [h40]; rfl) (Nat.le_of_ble_eq_true rfl) dL_law_1211 ⟨by show _ ≤ (601024 : Nat); omega, by show _ ≤ (7293034 : Nat); omega⟩) hS (fun z6 u7 H locs p8 hw hS => ?_)
  obtain ⟨X9, rfl, hRX9, hFX9, hMX9, hzX9⟩ := p8
  have hI10 : LI0 q0 q1 q2 ad cnt X9 Y ln := LI0.mdl hI5 hRX9 hFX9 hMX9 (by decide)
  refine lv_pop hx hb dL_law_1214 rfl ?_
  have hRC : RC cnt X9 Y ln := RC.two hRC0 hFX4 hFX9 (by decide) (by decide) (by decide) (by decide)
  refine lv_goto (tgt := 1343) hx hb dL_law_1215 (by decide) ?_
  exact hg _ _ _ _ _ H locs ls _ _ ⟨hI10, hRC⟩ hw hS hl (by omega) (by omega)

set_option maxHeartbeats 4000000 in
set_option maxRecDepth 100000 in
theorem law_c22 {p : Program} {l : Launch} {e : Env} {s : State} {m : MethodId} {below : List Frame} {meth : Method} {c : Code} {b L : Nat} {xs : Nat → Int32} {D : va_G} {tc : Nat → ClassId} {Q : State → Prop} {q0 q1 q2 cB sB : Nat} {i : Int} (C : LK p l s m c b L xs D tc) (hi : 0 ≤ i ∧ i + 7 ≤ L) (hcB : cB + 310 ≤ 601024) (hsB : sB + 2110 ≤ 7293034) (hg : LAt p l e s m below meth c b D tc q0 q1 q2 i Q 1343 (cB + 310) (sB + 2110)) : LAt p l e s m below meth c b D tc q0 q1 q2 i Q 1218 cB sB := by
  obtain ⟨hx, hb, hml, hown, hts, hX, hbl, hK, hT, hlT, hL⟩ := id C
  intro ad cnt X Y ln H locs ls cl sl hI hw hS hl hcl hsl
  obtain ⟨hI0, hRC0⟩ := id hI
  obtain ⟨i0, i40, i100, iFx, iOw, iN, iLn, iR, iCI, iRv, iMI⟩ := id hI0
  refine lv_aload_n hx hb dL_law_1218 rfl (lv_at hl 1 rfl) ?_
  obtain ⟨a1, ea1, ga1⟩ := sc_at xs i 1
  refine l_arg (k := 1) (pc2 := 1223) C hS hl hi (by omega) ea1 dL_law_1219 dL_law_1220 (fun h => lv_iconst (v := jI 1) hx hb dL_law_1222 rfl h) dL_law_1223 dL_law_1224 ?_
  obtain ⟨a2, ea2, ga2⟩ := sc_at xs i 2
  refine l_arg (k := 2) (pc2 := 1229) C hS hl hi (by omega) ea2 dL_law_1225 dL_law_1226 (fun h => lv_iconst (v := jI 2) hx hb dL_law_1228 rfl h) dL_law_1229 dL_law_1230 ?_
  obtain ⟨h0, h40, h100, hFx, hOw, hN, hLn, hR, hCI, hRv, hMI⟩ := id hI0
  have hc0 : cnt 0 = 1 := hFx.at 0 1 (by decide)
  refine gos_i (run_V (k := 0) (i := 0) (As := [.int (jI a1), .int (jI a2)]) (rest := []) hx hb hml hown hts (c_X8_like l D tc s.heap.size ad cnt X Y ln hR hFx hLn hCI hRv a1 a2 ga1 ga2) (cwV 2 hts gT_X8_like rfl rfl rfl (by first | exact hd_X8_like | decide +kernel) ⟨Nat.le_of_ble_eq_true rfl, Nat.le_of_ble_eq_true rfl⟩) hK hw (by first | exact Int.le_refl 0 | omega) (by first | exact zlt hc0 | omega) sl_0_0 rfl rfl hl.1 (by rw [h0]; rfl) (Nat.le_of_ble_eq_true rfl) dL_law_1231 ⟨by show _ ≤ (601024 : Nat); omega, by show _ ≤ (7293034 : Nat); omega⟩) hS (fun z1 u2 H locs p3 hw hS => ?_)
  obtain ⟨X4, Y6, rfl, hRX4, hFX4, hHX4, hCX4, hzX4, pX4⟩ := p3
  have hVX4 := pX4.1
  have hI5 : LI0 q0 q1 q2 ad cnt X4 Y6 ln := LI0.clsR hI0 hRX4 hFX4 hCX4 hVX4 (by decide)
  refine lv_pop hx hb dL_law_1234 rfl ?_
  refine lv_aload_n hx hb dL_law_1235 rfl (lv_at hl 2 rfl) ?_
  refine l_arg (k := 1) (pc2 := 1240) C hS hl hi (by omega) ea1 dL_law_1236 dL_law_1237 (fun h => lv_iconst (v := jI 1) hx hb dL_law_1239 rfl h) dL_law_1240 dL_law_1241 ?_
  refine l_arg (k := 2) (pc2 := 1246) C hS hl hi (by omega) ea2 dL_law_1242 dL_law_1243 (fun h => lv_iconst (v := jI 2) hx hb dL_law_1245 rfl h) dL_law_1246 dL_law_1247 ?_
  obtain ⟨h0, h40, h100, hFx, hOw, hN, hLn, hR, hCI, hRv, hMI⟩ := id hI5
  have hc40 : cnt 40 = 1 := hFx.at 40 1 (by decide)
  refine gos_i (run_V (k := 40) (i := 0) (As := [.int (jI a1), .int (jI a2)]) (rest := []) hx hb hml hown hts (c_X9_like l D tc s.heap.size ad cnt X4 Y6 ln hR hFx hMI a1 a2 ga1 ga2) (cwV 2 hts gT_X9_like rfl rfl rfl (by first | exact hd_X9_like | decide +kernel) ⟨Nat.le_of_ble_eq_true rfl, Nat.le_of_ble_eq_true rfl⟩) hK hw (by first | exact Int.le_refl 0 | omega) (by first | exact zlt hc40 | omega) sl_40_0 rfl rfl hl.1 (by rw [h40]; rfl) (Nat.le_of_ble_eq_true rfl) dL_law_1248 ⟨by show _ ≤ (601024 : Nat); omega, by show _ ≤ (7293034 : Nat); omega⟩) hS (fun z7 u8 H locs p9 hw hS => ?_)
  obtain ⟨X10, rfl, hRX10, hFX10, hMX10, hzX10⟩ := p9
  have hI11 : LI0 q0 q1 q2 ad cnt X10 Y6 ln := LI0.mdl hI5 hRX10 hFX10 hMX10 (by decide)
  refine lv_pop hx hb dL_law_1251 rfl ?_
  have hRC := J_like (z := 0) (z2 := 0) (x := 0) (y := 0) hRC0 iMI iR hRX4 iLn iN hFX4 hHX4 pX4 hFX10 hMX10 trivial hRX10
  refine lv_goto (tgt := 1343) hx hb dL_law_1252 (by decide) ?_
  exact hg _ _ _ _ _ H locs ls _ _ ⟨hI11, hRC⟩ hw hS hl (by omega) (by omega)

set_option maxHeartbeats 4000000 in
set_option maxRecDepth 100000 in
theorem law_c23 {p : Program} {l : Launch} {e : Env} {s : State} {m : MethodId} {below : List Frame} {meth : Method} {c : Code} {b L : Nat} {xs : Nat → Int32} {D : va_G} {tc : Nat → ClassId} {Q : State → Prop} {q0 q1 q2 cB sB : Nat} {i : Int} (C : LK p l s m c b L xs D tc) (hi : 0 ≤ i ∧ i + 7 ≤ L) (hcB : cB + 310 ≤ 601024) (hsB : sB + 2110 ≤ 7293034) (hg : LAt p l e s m below meth c b D tc q0 q1 q2 i Q 1343 (cB + 310) (sB + 2110)) : LAt p l e s m below meth c b D tc q0 q1 q2 i Q 1255 cB sB := by
  obtain ⟨hx, hb, hml, hown, hts, hX, hbl, hK, hT, hlT, hL⟩ := id C
  intro ad cnt X Y ln H locs ls cl sl hI hw hS hl hcl hsl
  obtain ⟨hI0, hRC0⟩ := id hI
  obtain ⟨i0, i40, i100, iFx, iOw, iN, iLn, iR, iCI, iRv, iMI⟩ := id hI0
  refine lv_aload_n hx hb dL_law_1255 rfl (lv_at hl 1 rfl) ?_
  obtain ⟨a1, ea1, ga1⟩ := sc_at xs i 1
  refine l_arg (k := 1) (pc2 := 1260) C hS hl hi (by omega) ea1 dL_law_1256 dL_law_1257 (fun h => lv_iconst (v := jI 1) hx hb dL_law_1259 rfl h) dL_law_1260 dL_law_1261 ?_
  obtain ⟨a2, ea2, ga2⟩ := sc_at xs i 2
  refine l_arg (k := 2) (pc2 := 1266) C hS hl hi (by omega) ea2 dL_law_1262 dL_law_1263 (fun h => lv_iconst (v := jI 2) hx hb dL_law_1265 rfl h) dL_law_1266 dL_law_1267 ?_
  obtain ⟨h0, h40, h100, hFx, hOw, hN, hLn, hR, hCI, hRv, hMI⟩ := id hI0
  have hc0 : cnt 0 = 1 := hFx.at 0 1 (by decide)
  refine gos_i (run_V (k := 0) (i := 0) (As := [.int (jI a1), .int (jI a2)]) (rest := []) hx hb hml hown hts (c_X8_differs l D tc s.heap.size ad cnt X Y ln hR hFx hLn hCI hRv a1 a2 ga1 ga2) (cwV 2 hts gT_X8_differs rfl rfl rfl (by first | exact hd_X8_differs | decide +kernel) ⟨Nat.le_of_ble_eq_true rfl, Nat.le_of_ble_eq_true rfl⟩) hK hw (by first | exact Int.le_refl 0 | omega) (by first | exact zlt hc0 | omega) sl_0_0 rfl rfl hl.1 (by rw [h0]; rfl) (Nat.le_of_ble_eq_true rfl) dL_law_1268 ⟨by show _ ≤ (601024 : Nat); omega, by show _ ≤ (7293034 : Nat); omega⟩) hS (fun z1 u2 H locs p3 hw hS => ?_)
  obtain ⟨X4, Y6, rfl, hRX4, hFX4, hHX4, hCX4, hzX4, pX4⟩ := p3
  have hVX4 := pX4.1
  have hI5 : LI0 q0 q1 q2 ad cnt X4 Y6 ln := LI0.clsR hI0 hRX4 hFX4 hCX4 hVX4 (by decide)
  refine lv_pop hx hb dL_law_1271 rfl ?_
  refine lv_aload_n hx hb dL_law_1272 rfl (lv_at hl 2 rfl) ?_
  refine l_arg (k := 1) (pc2 := 1277) C hS hl hi (by omega) ea1 dL_law_1273 dL_law_1274 (fun h => lv_iconst (v := jI 1) hx hb dL_law_1276 rfl h) dL_law_1277 dL_law_1278 ?_
  refine l_arg (k := 2) (pc2 := 1283) C hS hl hi (by omega) ea2 dL_law_1279 dL_law_1280 (fun h => lv_iconst (v := jI 2) hx hb dL_law_1282 rfl h) dL_law_1283 dL_law_1284 ?_
  obtain ⟨h0, h40, h100, hFx, hOw, hN, hLn, hR, hCI, hRv, hMI⟩ := id hI5
  have hc40 : cnt 40 = 1 := hFx.at 40 1 (by decide)
  refine gos_i (run_V (k := 40) (i := 0) (As := [.int (jI a1), .int (jI a2)]) (rest := []) hx hb hml hown hts (c_X9_differs l D tc s.heap.size ad cnt X4 Y6 ln hR hFx hMI a1 a2 ga1 ga2) (cwV 2 hts gT_X9_differs rfl rfl rfl (by first | exact hd_X9_differs | decide +kernel) ⟨Nat.le_of_ble_eq_true rfl, Nat.le_of_ble_eq_true rfl⟩) hK hw (by first | exact Int.le_refl 0 | omega) (by first | exact zlt hc40 | omega) sl_40_0 rfl rfl hl.1 (by rw [h40]; rfl) (Nat.le_of_ble_eq_true rfl) dL_law_1285 ⟨by show _ ≤ (601024 : Nat); omega, by show _ ≤ (7293034 : Nat); omega⟩) hS (fun z7 u8 H locs p9 hw hS => ?_)
  obtain ⟨X10, rfl, hRX10, hFX10, hMX10, hzX10, pX10⟩ := p9
  have hI11 : LI0 q0 q1 q2 ad cnt X10 Y6 ln := LI0.mdl hI5 hRX10 hFX10 hMX10 (by decide)
  refine lv_pop hx hb dL_law_1288 rfl ?_
  obtain ⟨hRC, hq9⟩ := J_differs hRC0 iMI iR hRX4 iLn iN hFX4 hHX4 pX4 hFX10 hMX10 pX10 hRX10
  refine lv_goto (tgt := 1343) hx hb dL_law_1289 (by decide) ?_
  exact hg _ _ _ _ _ H locs ls _ _ ⟨hI11, hRC⟩ hw hS hl (by omega) (by omega)

set_option maxHeartbeats 4000000 in
set_option maxRecDepth 100000 in
theorem law_c24 {p : Program} {l : Launch} {e : Env} {s : State} {m : MethodId} {below : List Frame} {meth : Method} {c : Code} {b L : Nat} {xs : Nat → Int32} {D : va_G} {tc : Nat → ClassId} {Q : State → Prop} {q0 q1 q2 cB sB : Nat} {i : Int} (C : LK p l s m c b L xs D tc) (hi : 0 ≤ i ∧ i + 7 ≤ L) (hcB : cB + 310 ≤ 601024) (hsB : sB + 2110 ≤ 7293034) (hg : LAt p l e s m below meth c b D tc q0 q1 q2 i Q 1343 (cB + 310) (sB + 2110)) : LAt p l e s m below meth c b D tc q0 q1 q2 i Q 1292 cB sB := by
  obtain ⟨hx, hb, hml, hown, hts, hX, hbl, hK, hT, hlT, hL⟩ := id C
  intro ad cnt X Y ln H locs ls cl sl hI hw hS hl hcl hsl
  obtain ⟨hI0, hRC0⟩ := id hI
  obtain ⟨i0, i40, i100, iFx, iOw, iN, iLn, iR, iCI, iRv, iMI⟩ := id hI0
  refine lv_aload_n hx hb dL_law_1292 rfl (lv_at hl 1 rfl) ?_
  obtain ⟨h0, h40, h100, hFx, hOw, hN, hLn, hR, hCI, hRv, hMI⟩ := id hI0
  have hc0 : cnt 0 = 1 := hFx.at 0 1 (by decide)
  refine gos_i (run_V (k := 0) (i := 0) (As := []) (rest := []) hx hb hml hown hts (c_X8_mark l D tc s.heap.size ad cnt X Y ln hR hFx hLn hCI) (cwV 0 hts gT_X8_mark rfl rfl rfl (by first | exact hd_X8_mark | decide +kernel) ⟨Nat.le_of_ble_eq_true rfl, Nat.le_of_ble_eq_true rfl⟩) hK hw (by first | exact Int.le_refl 0 | omega) (by first | exact zlt hc0 | omega) sl_0_0 rfl rfl hl.1 (by rw [h0]; rfl) (Nat.le_of_ble_eq_true rfl) dL_law_1293 ⟨by show _ ≤ (601024 : Nat); omega, by show _ ≤ (7293034 : Nat); omega⟩) hS (fun z1 u2 H locs p3 hw hS => ?_)
  obtain ⟨X4, rfl, hRX4, hFX4, hCX4, hzX4, pX4⟩ := p3
  have hI5 : LI0 q0 q1 q2 ad cnt X4 Y ln := LI0.cls hI0 hRX4 hFX4 hCX4 (by decide)
  refine lv_pop hx hb dL_law_1296 rfl ?_
  refine lv_aload_n hx hb dL_law_1297 rfl (lv_at hl 2 rfl) ?_
  obtain ⟨h0, h40, h100, hFx, hOw, hN, hLn, hR, hCI, hRv, hMI⟩ := id hI5
  have hc40 : cnt 40 = 1 := hFx.at 40 1 (by decide)
  refine gos_i (run_V (k := 40) (i := 0) (As := []) (rest := []) hx hb hml hown hts (c_X9_mark l D tc s.heap.size ad cnt X4 Y ln hR hFx hMI) (cwV 0 hts gT_X9_mark rfl rfl rfl (by first | exact hd_X9_mark | decide +kernel) ⟨Nat.le_of_ble_eq_true rfl, Nat.le_of_ble_eq_true rfl⟩) hK hw (by first | exact Int.le_refl 0 | omega) (by first | exact zlt hc40 | omega) sl_40_0 rfl rfl hl.1 (by rw [h40]; rfl) (Nat.le_of_ble_eq_true rfl) dL_law_1298 ⟨by show _ ≤ (601024 : Nat); omega, by show _ ≤ (7293034 : Nat); omega⟩) hS (fun z6 u7 H locs p8 hw hS => ?_)
  obtain ⟨X9, rfl, hRX9, hFX9, hMX9, hzX9, pX9⟩ := p8
  have hI10 : LI0 q0 q1 q2 ad cnt X9 Y ln := LI0.mdl hI5 hRX9 hFX9 hMX9 (by decide)
  refine lv_pop hx hb dL_law_1301 rfl ?_
  obtain ⟨hRC, hq9⟩ := J_mark hRC0 iMI iR hRX4 iLn iN hFX4 pX4 hFX9 hMX9 pX9
  refine lv_goto (tgt := 1343) hx hb dL_law_1302 (by decide) ?_
  exact hg _ _ _ _ _ H locs ls _ _ ⟨hI10, hRC⟩ hw hS hl (by omega) (by omega)

set_option maxHeartbeats 4000000 in
set_option maxRecDepth 100000 in
theorem law_c25 {p : Program} {l : Launch} {e : Env} {s : State} {m : MethodId} {below : List Frame} {meth : Method} {c : Code} {b L : Nat} {xs : Nat → Int32} {D : va_G} {tc : Nat → ClassId} {Q : State → Prop} {q0 q1 q2 cB sB : Nat} {i : Int} (C : LK p l s m c b L xs D tc) (hi : 0 ≤ i ∧ i + 7 ≤ L) (hcB : cB + 310 ≤ 601024) (hsB : sB + 2110 ≤ 7293034) (hg : LAt p l e s m below meth c b D tc q0 q1 q2 i Q 1343 (cB + 310) (sB + 2110)) : LAt p l e s m below meth c b D tc q0 q1 q2 i Q 1305 cB sB := by
  obtain ⟨hx, hb, hml, hown, hts, hX, hbl, hK, hT, hlT, hL⟩ := id C
  intro ad cnt X Y ln H locs ls cl sl hI hw hS hl hcl hsl
  obtain ⟨hI0, hRC0⟩ := id hI
  obtain ⟨i0, i40, i100, iFx, iOw, iN, iLn, iR, iCI, iRv, iMI⟩ := id hI0
  refine lv_aload_n hx hb dL_law_1305 rfl (lv_at hl 1 rfl) ?_
  obtain ⟨h0, h40, h100, hFx, hOw, hN, hLn, hR, hCI, hRv, hMI⟩ := id hI0
  have hc0 : cnt 0 = 1 := hFx.at 0 1 (by decide)
  refine gos_i (run_V (k := 0) (i := 0) (As := []) (rest := []) hx hb hml hown hts (c_X8_undo l D tc s.heap.size ad cnt X Y ln hR hFx hLn hCI) (cwV 0 hts gT_X8_undo rfl rfl rfl (by first | exact hd_X8_undo | decide +kernel) ⟨Nat.le_of_ble_eq_true rfl, Nat.le_of_ble_eq_true rfl⟩) hK hw (by first | exact Int.le_refl 0 | omega) (by first | exact zlt hc0 | omega) sl_0_0 rfl rfl hl.1 (by rw [h0]; rfl) (Nat.le_of_ble_eq_true rfl) dL_law_1306 ⟨by show _ ≤ (601024 : Nat); omega, by show _ ≤ (7293034 : Nat); omega⟩) hS (fun z1 u2 H locs p3 hw hS => ?_)
  obtain ⟨X4, Y6, rfl, hRX4, hFX4, hHX4, hCX4, hzX4, pX4⟩ := p3
  have hI5 : LI0 q0 q1 q2 ad cnt X4 Y6 ln := LI0.cls hI0 hRX4 hFX4 hCX4 (by decide)
  refine lv_pop hx hb dL_law_1309 rfl ?_
  refine lv_aload_n hx hb dL_law_1310 rfl (lv_at hl 2 rfl) ?_
  obtain ⟨h0, h40, h100, hFx, hOw, hN, hLn, hR, hCI, hRv, hMI⟩ := id hI5
  have hc40 : cnt 40 = 1 := hFx.at 40 1 (by decide)
  refine gos_i (run_V (k := 40) (i := 0) (As := []) (rest := []) hx hb hml hown hts (c_X9_undo l D tc s.heap.size ad cnt X4 Y6 ln hR hFx hMI) (cwV 0 hts gT_X9_undo rfl rfl rfl (by first | exact hd_X9_undo | decide +kernel) ⟨Nat.le_of_ble_eq_true rfl, Nat.le_of_ble_eq_true rfl⟩) hK hw (by first | exact Int.le_refl 0 | omega) (by first | exact zlt hc40 | omega) sl_40_0 rfl rfl hl.1 (by rw [h40]; rfl) (Nat.le_of_ble_eq_true rfl) dL_law_1311 ⟨by show _ ≤ (601024 : Nat); omega, by show _ ≤ (7293034 : Nat); omega⟩) hS (fun z7 u8 H locs p9 hw hS => ?_)
  obtain ⟨X10, rfl, hRX10, hFX10, hMX10, hzX10, pX10⟩ := p9
  have hI11 : LI0 q0 q1 q2 ad cnt X10 Y6 ln := LI0.mdl hI5 hRX10 hFX10 hMX10 (by decide)
  refine lv_pop hx hb dL_law_1314 rfl ?_
  obtain ⟨hRC, hq9⟩ := J_undo hRC0 iMI iR hRX4 iLn iN hFX4 hHX4 pX4 hFX10 hMX10 pX10
  refine lv_goto (tgt := 1343) hx hb dL_law_1315 (by decide) ?_
  exact hg _ _ _ _ _ H locs ls _ _ ⟨hI11, hRC⟩ hw hS hl (by omega) (by omega)

set_option maxHeartbeats 4000000 in
set_option maxRecDepth 100000 in
theorem law_c26 {p : Program} {l : Launch} {e : Env} {s : State} {m : MethodId} {below : List Frame} {meth : Method} {c : Code} {b L : Nat} {xs : Nat → Int32} {D : va_G} {tc : Nat → ClassId} {Q : State → Prop} {q0 q1 q2 cB sB : Nat} {i : Int} (C : LK p l s m c b L xs D tc) (hi : 0 ≤ i ∧ i + 7 ≤ L) (hcB : cB + 310 ≤ 601024) (hsB : sB + 2110 ≤ 7293034) (hg : LAt p l e s m below meth c b D tc q0 q1 q2 i Q 1343 (cB + 310) (sB + 2110)) : LAt p l e s m below meth c b D tc q0 q1 q2 i Q 1318 cB sB := by
  obtain ⟨hx, hb, hml, hown, hts, hX, hbl, hK, hT, hlT, hL⟩ := id C
  intro ad cnt X Y ln H locs ls cl sl hI hw hS hl hcl hsl
  obtain ⟨hI0, hRC0⟩ := id hI
  obtain ⟨i0, i40, i100, iFx, iOw, iN, iLn, iR, iCI, iRv, iMI⟩ := id hI0
  refine lv_aload_n hx hb dL_law_1318 rfl (lv_at hl 1 rfl) ?_
  obtain ⟨a1, ea1, ga1⟩ := sc_at xs i 1
  refine l_arg (k := 1) (pc2 := 1323) C hS hl hi (by omega) ea1 dL_law_1319 dL_law_1320 (fun h => lv_iconst (v := jI 1) hx hb dL_law_1322 rfl h) dL_law_1323 dL_law_1324 ?_
  obtain ⟨h0, h40, h100, hFx, hOw, hN, hLn, hR, hCI, hRv, hMI⟩ := id hI0
  have hc0 : cnt 0 = 1 := hFx.at 0 1 (by decide)
  refine gos_i (run_V (k := 0) (i := 0) (As := [.int (jI a1)]) (rest := []) hx hb hml hown hts (c_X8_count l D tc s.heap.size ad cnt X Y ln hR hFx hLn hCI a1 ga1) (cwV 1 hts gT_X8_count rfl rfl rfl (by first | exact hd_X8_count | decide +kernel) ⟨Nat.le_of_ble_eq_true rfl, Nat.le_of_ble_eq_true rfl⟩) hK hw (by first | exact Int.le_refl 0 | omega) (by first | exact zlt hc0 | omega) sl_0_0 rfl rfl hl.1 (by rw [h0]; rfl) (Nat.le_of_ble_eq_true rfl) dL_law_1325 ⟨by show _ ≤ (601024 : Nat); omega, by show _ ≤ (7293034 : Nat); omega⟩) hS (fun z1 u2 H locs p3 hw hS => ?_)
  obtain ⟨X4, rfl, hRX4, hFX4, hCX4, hzX4, pX4⟩ := p3
  have hI5 : LI0 q0 q1 q2 ad cnt X4 Y ln := LI0.cls hI0 hRX4 hFX4 hCX4 (by decide)
  refine lv_pop hx hb dL_law_1328 rfl ?_
  refine lv_aload_n hx hb dL_law_1329 rfl (lv_at hl 2 rfl) ?_
  refine l_arg (k := 1) (pc2 := 1334) C hS hl hi (by omega) ea1 dL_law_1330 dL_law_1331 (fun h => lv_iconst (v := jI 1) hx hb dL_law_1333 rfl h) dL_law_1334 dL_law_1335 ?_
  obtain ⟨h0, h40, h100, hFx, hOw, hN, hLn, hR, hCI, hRv, hMI⟩ := id hI5
  have hc40 : cnt 40 = 1 := hFx.at 40 1 (by decide)
  refine gos_i (run_V (k := 40) (i := 0) (As := [.int (jI a1)]) (rest := []) hx hb hml hown hts (c_X9_count l D tc s.heap.size ad cnt X4 Y ln hR hFx hMI a1 ga1) (cwV 1 hts gT_X9_count rfl rfl rfl (by first | exact hd_X9_count | decide +kernel) ⟨Nat.le_of_ble_eq_true rfl, Nat.le_of_ble_eq_true rfl⟩) hK hw (by first | exact Int.le_refl 0 | omega) (by first | exact zlt hc40 | omega) sl_40_0 rfl rfl hl.1 (by rw [h40]; rfl) (Nat.le_of_ble_eq_true rfl) dL_law_1336 ⟨by show _ ≤ (601024 : Nat); omega, by show _ ≤ (7293034 : Nat); omega⟩) hS (fun z6 u7 H locs p8 hw hS => ?_)
  obtain ⟨X9, rfl, hRX9, hFX9, hMX9, hzX9, pX9⟩ := p8
  have hI10 : LI0 q0 q1 q2 ad cnt X9 Y ln := LI0.mdl hI5 hRX9 hFX9 hMX9 (by decide)
  refine lv_pop hx hb dL_law_1339 rfl ?_
  obtain ⟨hRC, hq9⟩ := J_count hRC0 iMI iR hRX4 iLn iN hFX4 pX4 hFX9 hMX9 pX9
  refine lv_goto (tgt := 1343) hx hb dL_law_1340 (by decide) ?_
  exact hg _ _ _ _ _ H locs ls _ _ ⟨hI10, hRC⟩ hw hS hl (by omega) (by omega)
end
section
/-! THE CLAIM OUT OF ONE WALK OF THE LAW'S BODY. Your part is whole_start (and what it stands on); all else here is the same for every law, but numbers. -/
def R_law : String := "StateRecordsLaw"
def lw_P (b : Addr) (xs : List Int32) (args : Array Value) (s : State) : Prop := args = #[.ref b] ∧ s.IntsAt b xs ∧ xs.length ≤ 3584 ∧ (Jvm.Cond.and given_1 narrow_1).before args s = true
def lw_Q (_ : Array Value) (s : State) (o : Outcome) (t : State) : Prop := o = .returned (some (.int 1)) ∧ Framed s o t [] 601024 7293034
def lw_Z (below : List Frame) (a : Array Value) (s : State) : State → Prop := fun t => ∃ o, t.status = .running ∧ Ended t below o ∧ lw_Q a s o t
/-- the law's own end, with 1 on the stack, nothing written that was there before, its room as the claim has it -/
theorem lw_ret {p : Program} {l : Launch} {e : Env} {s : State} {m : MethodId} {below : List Frame} {meth : Method} {c : Code} {b : Nat} (hx : p.tables.exec = Jvm.exec) (hb : c.code = code) (hr : meth.sig.returnType = ret) (hlocks : meth.locks = false) {pc : Nat} {H : Heap} {ls : Array Slot} (hdg : decode code pc = .ok (.ireturn, 1)) : W p l e room_1 s m #[Value.ref b] below meth c H [] 601024 7293034 (lw_Z below #[Value.ref b] s) (F0 m pc ls [.int 1]) := by
  intro T hT X
  obtain ⟨fs, hret, hrun, hended, hW, hframe⟩ := X.leave (v := some (.int 1)) (hlocks := hlocks) (fun h => by rw [hr] at h; cases h)
  have hmeth' : T.vm.method? m = some meth := X.method'
  refine ⟨T.setFrames fs, ?_, .returned (some (.int 1)), hrun, hended, rfl, ⟨_, rfl⟩, hW, hframe⟩
  jvm_step X.here [X.here.top, hx, hb, hdg, hmeth', hr, ret, narrow_b1]
  (try refine ⟨rfl, ?_⟩); (try refine ⟨rfl, ?_⟩)
  first | (intro acts; rw [hret _ acts rfl rfl rfl]) | rw [hret _ _ rfl rfl rfl]
  exact Steps.refl _
/-- what holds at the law's entry: the machine, the code, the tables' words (any of lw_tbl by 'hts w (by decide +kernel)'), the script of L ints xs at the cell b, what the Statement gives of the start (any of its parts by flat_of_before) -/
def lw_At (p : Program) (s : State) (m : MethodId) (meth : Method) (c : Code) (b L : Nat) (xs : Nat → Int32) : Prop :=
  p.tables.exec = Jvm.exec ∧ c.code = code ∧ meth.sig.returnType = ret ∧ c.maxLocals = 8 ∧ s.vm.findClass R_law = some m.cls ∧ (∀ w ∈ lw_tbl, w.before #[Value.ref b] s = true) ∧ va_X b L xs s s.heap ∧ b < s.heap.size ∧ meth.locks = false ∧ (Jvm.Cond.and given_1 narrow_1).before #[Value.ref b] s = true
end
section
/-! the law's loop -/
section LL
variable {p : Program} {l : Launch} {e : Env} {s : State} {m : MethodId} {below : List Frame} {meth : Method} {c : Code} {b L : Nat} {xs : Nat → Int32} {D : va_G} {tc : Nat → ClassId} {Q : State → Prop} {q0 q1 q2 cB sB : Nat} {i : Int}
theorem law_next (C : LK p l s m c b L xs D tc) (h : LAt p l e s m below meth c b D tc q0 q1 q2 (i + 7) Q 23 cB sB) : LAt p l e s m below meth c b D tc q0 q1 q2 i Q 1343 cB sB := by
  obtain ⟨hx, hb, -⟩ := id C
  intro ad cnt X Y ln H locs ls cl sl hI hw hS hl hcl hsl
  refine lv_iinc (v := jI (i + 7)) (lv' := [(4, .int (jI (i + 7))), (0, .ref b), (1, .ref q0), (2, .ref q1), (3, .ref q2)]) hx hb dL_law_1343 hl (k := 4) rfl (jI_add _ _) (by decide) rfl (fun ls hl => ?_)
  refine lv_goto (tgt := 23) hx hb dL_law_1346 (by decide) ?_
  exact h ad cnt X Y ln H locs ls cl sl hI hw hS (lv_sub hl [1, 2, 3, 4, 0] rfl) hcl hsl
theorem law_end (C : LK p l s m c b L xs D tc) (hr : meth.sig.returnType = ret) (hlocks : meth.locks = false) (h1 : cB ≤ 601024) (h2 : sB ≤ 7293034) : LAt p l e s m below meth c b D tc q0 q1 q2 i (lw_Z below #[Value.ref b] s) 1349 cB sB := by
  obtain ⟨hx, hb, -⟩ := id C
  intro ad cnt X Y ln H locs ls cl sl hI hw hS hl hcl hsl
  refine va_forget (fun q hq => hS.2.2 q hq) ?_
  refine W.widen (k := 601024) (n := 7293034) (by omega) (by omega) ?_
  refine lv_iconst (v := 1) hx hb dL_law_1349 rfl ?_
  exact lw_ret hx hb hr hlocks dL_law_1350
set_option maxHeartbeats 2000000 in
theorem law_disp (C : LK p l s m c b L xs D tc) (hi : 0 ≤ i ∧ i + 7 ≤ L) (hcB : cB + 310 ≤ 601024) (hsB : sB + 2110 ≤ 7293034) (hg : LAt p l e s m below meth c b D tc q0 q1 q2 i Q 1343 (cB + 310) (sB + 2110)) : LAt p l e s m below meth c b D tc q0 q1 q2 i Q 33 cB sB := by
  obtain ⟨hx, hb, hml, hown, hts, hX, hbl, hK, hT, hlT, hL⟩ := id C
  intro ad cnt X Y ln H locs ls cl sl hI hw hS hl hcl hsl
  refine lv_aload_n hx hb dL_law_33 rfl (lv_at hl 0 rfl) ?_
  refine lv_iload hx hb dL_law_34 (lv_at hl 4 rfl) ?_
  refine va_sld hx hb hX hbl (Nat.not_le.mpr hbl) hS (jI_in (by omega) (by omega) (by omega)) dL_law_36 ?_
  refine lv_bipush (v := jI 31) hx hb dL_law_37 (by decide) ?_
  refine lv_iand hx hb dL_law_39 ?_
  refine x_anyi (fun z hz => ?_)
  have tz : (jI z).toInt = z := jI_toInt hz
  by_cases ho : z < 0 ∨ 26 < z
  · refine lv_tableOut (tgt := 1343) hx hb dL_law_40 (by rw [tz]; exact ho) (by decide) ?_
    exact hg ad cnt X Y ln H locs ls cl sl hI hw hS hl (by omega) (by omega)
  by_cases c0 : z = 0
  · refine lv_tableIn (off := 124) (tgt := 164) hx hb dL_law_40 (by rw [tz]; omega) (by rw [tz]; omega) (by rw [tz, c0]; rfl) (by decide) ?_
    exact law_c0 C hi hcB hsB hg ad cnt X Y ln H locs ls cl sl hI hw hS hl hcl hsl
  by_cases c1 : z = 1
  · refine lv_tableIn (off := 137) (tgt := 177) hx hb dL_law_40 (by rw [tz]; omega) (by rw [tz]; omega) (by rw [tz, c1]; rfl) (by decide) ?_
    exact law_c1 C hi hcB hsB hg ad cnt X Y ln H locs ls cl sl hI hw hS hl hcl hsl
  by_cases c2 : z = 2
  · refine lv_tableIn (off := 230) (tgt := 270) hx hb dL_law_40 (by rw [tz]; omega) (by rw [tz]; omega) (by rw [tz, c2]; rfl) (by decide) ?_
    exact law_c2 C hi hcB hsB hg ad cnt X Y ln H locs ls cl sl hI hw hS hl hcl hsl
  by_cases c3 : z = 3
  · refine lv_tableIn (off := 267) (tgt := 307) hx hb dL_law_40 (by rw [tz]; omega) (by rw [tz]; omega) (by rw [tz, c3]; rfl) (by decide) ?_
    exact law_c3 C hi hcB hsB hg ad cnt X Y ln H locs ls cl sl hI hw hS hl hcl hsl
  by_cases c4 : z = 4
  · refine lv_tableIn (off := 332) (tgt := 372) hx hb dL_law_40 (by rw [tz]; omega) (by rw [tz]; omega) (by rw [tz, c4]; rfl) (by decide) ?_
    exact law_c4 C hi hcB hsB hg ad cnt X Y ln H locs ls cl sl hI hw hS hl hcl hsl
  by_cases c5 : z = 5
  · refine lv_tableIn (off := 439) (tgt := 479) hx hb dL_law_40 (by rw [tz]; omega) (by rw [tz]; omega) (by rw [tz, c5]; rfl) (by decide) ?_
    exact law_c5 C hi hcB hsB hg ad cnt X Y ln H locs ls cl sl hI hw hS hl hcl hsl
  by_cases c6 : z = 6
  · refine lv_tableIn (off := 464) (tgt := 504) hx hb dL_law_40 (by rw [tz]; omega) (by rw [tz]; omega) (by rw [tz, c6]; rfl) (by decide) ?_
    exact law_c6 C hi hcB hsB hg ad cnt X Y ln H locs ls cl sl hI hw hS hl hcl hsl
  by_cases c7 : z = 7
  · refine lv_tableIn (off := 517) (tgt := 557) hx hb dL_law_40 (by rw [tz]; omega) (by rw [tz]; omega) (by rw [tz, c7]; rfl) (by decide) ?_
    exact law_c7 C hi hcB hsB hg ad cnt X Y ln H locs ls cl sl hI hw hS hl hcl hsl
  by_cases c8 : z = 8
  · refine lv_tableIn (off := 542) (tgt := 582) hx hb dL_law_40 (by rw [tz]; omega) (by rw [tz]; omega) (by rw [tz, c8]; rfl) (by decide) ?_
    exact law_c8 C hi hcB hsB hg ad cnt X Y ln H locs ls cl sl hI hw hS hl hcl hsl
  by_cases c9 : z = 9
  · refine lv_tableIn (off := 623) (tgt := 663) hx hb dL_law_40 (by rw [tz]; omega) (by rw [tz]; omega) (by rw [tz, c9]; rfl) (by decide) ?_
    exact law_c9 C hi hcB hsB hg ad cnt X Y ln H locs ls cl sl hI hw hS hl hcl hsl
  by_cases c10 : z = 10
  · refine lv_tableIn (off := 672) (tgt := 712) hx hb dL_law_40 (by rw [tz]; omega) (by rw [tz]; omega) (by rw [tz, c10]; rfl) (by decide) ?_
    exact law_c10 C hi hcB hsB hg ad cnt X Y ln H locs ls cl sl hI hw hS hl hcl hsl
  by_cases c11 : z = 11
  · refine lv_tableIn (off := 721) (tgt := 761) hx hb dL_law_40 (by rw [tz]; omega) (by rw [tz]; omega) (by rw [tz, c11]; rfl) (by decide) ?_
    exact law_c11 C hi hcB hsB hg ad cnt X Y ln H locs ls cl sl hI hw hS hl hcl hsl
  by_cases c12 : z = 12
  · refine lv_tableIn (off := 782) (tgt := 822) hx hb dL_law_40 (by rw [tz]; omega) (by rw [tz]; omega) (by rw [tz, c12]; rfl) (by decide) ?_
    exact law_c12 C hi hcB hsB hg ad cnt X Y ln H locs ls cl sl hI hw hS hl hcl hsl
  by_cases c13 : z = 13
  · refine lv_tableIn (off := 875) (tgt := 915) hx hb dL_law_40 (by rw [tz]; omega) (by rw [tz]; omega) (by rw [tz, c13]; rfl) (by decide) ?_
    exact law_c13 C hi hcB hsB hg ad cnt X Y ln H locs ls cl sl hI hw hS hl hcl hsl
  by_cases c14 : z = 14
  · refine lv_tableIn (off := 915) (tgt := 955) hx hb dL_law_40 (by rw [tz]; omega) (by rw [tz]; omega) (by rw [tz, c14]; rfl) (by decide) ?_
    exact law_c14 C hi hcB hsB hg ad cnt X Y ln H locs ls cl sl hI hw hS hl hcl hsl
  by_cases c15 : z = 15
  · refine lv_tableIn (off := 967) (tgt := 1007) hx hb dL_law_40 (by rw [tz]; omega) (by rw [tz]; omega) (by rw [tz, c15]; rfl) (by decide) ?_
    exact law_c15 C hi hcB hsB hg ad cnt X Y ln H locs ls cl sl hI hw hS hl hcl hsl
  by_cases c16 : z = 16
  · refine lv_tableIn (off := 980) (tgt := 1020) hx hb dL_law_40 (by rw [tz]; omega) (by rw [tz]; omega) (by rw [tz, c16]; rfl) (by decide) ?_
    exact law_c16 C hi hcB hsB hg ad cnt X Y ln H locs ls cl sl hI hw hS hl hcl hsl
  by_cases c17 : z = 17
  · refine lv_tableIn (off := 1017) (tgt := 1057) hx hb dL_law_40 (by rw [tz]; omega) (by rw [tz]; omega) (by rw [tz, c17]; rfl) (by decide) ?_
    exact law_c17 C hi hcB hsB hg ad cnt X Y ln H locs ls cl sl hI hw hS hl hcl hsl
  by_cases c18 : z = 18
  · refine lv_tableIn (off := 1042) (tgt := 1082) hx hb dL_law_40 (by rw [tz]; omega) (by rw [tz]; omega) (by rw [tz, c18]; rfl) (by decide) ?_
    exact law_c18 C hi hcB hsB hg ad cnt X Y ln H locs ls cl sl hI hw hS hl hcl hsl
  by_cases c19 : z = 19
  · refine lv_tableIn (off := 1079) (tgt := 1119) hx hb dL_law_40 (by rw [tz]; omega) (by rw [tz]; omega) (by rw [tz, c19]; rfl) (by decide) ?_
    exact law_c19 C hi hcB hsB hg ad cnt X Y ln H locs ls cl sl hI hw hS hl hcl hsl
  by_cases c20 : z = 20
  · refine lv_tableIn (off := 1116) (tgt := 1156) hx hb dL_law_40 (by rw [tz]; omega) (by rw [tz]; omega) (by rw [tz, c20]; rfl) (by decide) ?_
    exact law_c20 C hi hcB hsB hg ad cnt X Y ln H locs ls cl sl hI hw hS hl hcl hsl
  by_cases c21 : z = 21
  · refine lv_tableIn (off := 1153) (tgt := 1193) hx hb dL_law_40 (by rw [tz]; omega) (by rw [tz]; omega) (by rw [tz, c21]; rfl) (by decide) ?_
    exact law_c21 C hi hcB hsB hg ad cnt X Y ln H locs ls cl sl hI hw hS hl hcl hsl
  by_cases c22 : z = 22
  · refine lv_tableIn (off := 1178) (tgt := 1218) hx hb dL_law_40 (by rw [tz]; omega) (by rw [tz]; omega) (by rw [tz, c22]; rfl) (by decide) ?_
    exact law_c22 C hi hcB hsB hg ad cnt X Y ln H locs ls cl sl hI hw hS hl hcl hsl
  by_cases c23 : z = 23
  · refine lv_tableIn (off := 1215) (tgt := 1255) hx hb dL_law_40 (by rw [tz]; omega) (by rw [tz]; omega) (by rw [tz, c23]; rfl) (by decide) ?_
    exact law_c23 C hi hcB hsB hg ad cnt X Y ln H locs ls cl sl hI hw hS hl hcl hsl
  by_cases c24 : z = 24
  · refine lv_tableIn (off := 1252) (tgt := 1292) hx hb dL_law_40 (by rw [tz]; omega) (by rw [tz]; omega) (by rw [tz, c24]; rfl) (by decide) ?_
    exact law_c24 C hi hcB hsB hg ad cnt X Y ln H locs ls cl sl hI hw hS hl hcl hsl
  by_cases c25 : z = 25
  · refine lv_tableIn (off := 1265) (tgt := 1305) hx hb dL_law_40 (by rw [tz]; omega) (by rw [tz]; omega) (by rw [tz, c25]; rfl) (by decide) ?_
    exact law_c25 C hi hcB hsB hg ad cnt X Y ln H locs ls cl sl hI hw hS hl hcl hsl
  have c26 : z = 26 := by omega
  refine lv_tableIn (off := 1278) (tgt := 1318) hx hb dL_law_40 (by rw [tz]; omega) (by rw [tz]; omega) (by rw [tz, c26]; rfl) (by decide) ?_
  exact law_c26 C hi hcB hsB hg ad cnt X Y ln H locs ls cl sl hI hw hS hl hcl hsl
theorem law_head (C : LK p l s m c b L xs D tc) (hi : 0 ≤ i ∧ i ≤ 4000) (ke : LAt p l e s m below meth c b D tc q0 q1 q2 i Q 1349 cB sB) (kg : i + 7 ≤ L → LAt p l e s m below meth c b D tc q0 q1 q2 i Q 33 cB sB) : LAt p l e s m below meth c b D tc q0 q1 q2 i Q 23 cB sB := by
  obtain ⟨hx, hb, hml, hown, hts, hX, hbl, hK, hT, hlT, hL⟩ := id C
  intro ad cnt X Y ln H locs ls cl sl hI hw hS hl hcl hsl
  refine lv_iload hx hb dL_law_23 (lv_at hl 4 rfl) ?_
  refine lv_aload_n hx hb dL_law_25 rfl (lv_at hl 0 rfl) ?_
  refine va_slen hx hb hX hbl (Nat.not_le.mpr hbl) hS dL_law_26 ?_
  have eL : Int32.ofNat L = jI (L : Int) := by unfold jI; exact (Int32.ofInt_eq_ofNat).symm
  rw [eL]
  refine lv_bipush (v := jI 7) hx hb dL_law_27 (by decide) ?_
  refine x_isub hx hb dL_law_29 ?_
  refine x_icmp_gt (tgt := 1349) hx hb (by omega) (by omega) dL_law_30 (by decide) (fun _ => ?_) (fun cg => ?_)
  · exact ke ad cnt X Y ln H locs ls cl sl hI hw hS hl hcl hsl
  · exact kg (by omega) ad cnt X Y ln H locs ls cl sl hI hw hS hl hcl hsl
set_option maxRecDepth 100000 in
theorem law_loop (C : LK p l s m c b L xs D tc) (hr : meth.sig.returnType = ret) (hlocks : meth.locks = false) : ∀ (n : Nat) (i : Int) (cB sB : Nat), (L : Int) - i < 7 * (n : Int) → 0 ≤ i ∧ i ≤ 3584 → cB + 310 * n ≤ 601024 → sB + 2110 * n ≤ 7293034 → LAt p l e s m below meth c b D tc q0 q1 q2 i (lw_Z below #[Value.ref b] s) 23 cB sB := by
  have hL := C.2.2.2.2.2.2.2.2.2.2
  intro n
  induction n with
  | zero => exact fun i cB sB h0 h1 h2 h3 => law_head C (by omega) (law_end C hr hlocks (by omega) (by omega)) (fun q => by omega)
  | succ n ih =>
    intro i cB sB h0 h1 h2 h3
    have e1 : cB + 310 ≤ 601024 := by omega
    have e2 : sB + 2110 ≤ 7293034 := by omega
    have k1 : cB + 310 + 310 * n ≤ 601024 := by omega
    have k2 : sB + 2110 + 2110 * n ≤ 7293034 := by omega
    have e3 : cB ≤ 601024 := by omega
    have e4 : sB ≤ 7293034 := by omega
    refine law_head C (by omega) (law_end C hr hlocks e3 e4) (fun q => ?_)
    exact law_disp C ⟨h1.1, q⟩ e1 e2 (law_next C (ih (i + 7) (cB + 310) (sB + 2110) (by omega) (by omega) k1 k2))
end LL
end
