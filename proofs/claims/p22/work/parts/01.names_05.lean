section
theorem dL_law_29 : decode cL_law 29 = .ok (.isub, 1) := dz_100 (b_1 bL_law (by decide +kernel))
theorem dL_law_30 : decode cL_law 30 = .ok (.if_icmp .gt 1319, 3) := dz_163 (b_3 (a := 5) (b := 39) bL_law (by decide +kernel)) (by decide +kernel)
theorem dL_law_33 : decode cL_law 33 = .ok (.aload_n 0, 1) := dz_42 (b_1 bL_law (by decide +kernel))
theorem dL_law_34 : decode cL_law 34 = .ok (.iload 4, 2) := dz_21 (b_2 (a := 4) bL_law (by decide +kernel))
theorem dL_law_36 : decode cL_law 36 = .ok (.iaload, 1) := dz_46 (b_1 bL_law (by decide +kernel))
theorem dL_law_37 : decode cL_law 37 = .ok (.bipush 31, 2) := dz_16 (b_2 (a := 31) bL_law (by decide +kernel)) (by decide +kernel)
theorem dL_law_39 : decode cL_law 39 = .ok (.iand, 1) := dz_126 (b_1 bL_law (by decide +kernel))
theorem dL_law_40 : decode cL_law 40 = .ok (.tableswitch 1303 0 26 #[124, 137, 230, 267, 332, 439, 464, 517, 542, 623, 672, 721, 782, 875, 915, 967, 980, 1017, 1042, 1079, 1116, 1153, 1178, 1215, 1252, 1265, 1278], 124) := by decide +kernel
theorem dL_law_164 : decode cL_law 164 = .ok (.aload_n 1, 1) := dz_43 (b_1 bL_law (by decide +kernel))
theorem dL_law_165 : decode cL_law 165 = .ok (.invokevirtual 27, 3) := dz_182 (b_3 (a := 0) (b := 27) bL_law (by decide +kernel))
theorem dL_law_168 : decode cL_law 168 = .ok (.pop, 1) := dz_87 (b_1 bL_law (by decide +kernel))
theorem dL_law_169 : decode cL_law 169 = .ok (.aload_n 2, 1) := dz_44 (b_1 bL_law (by decide +kernel))
theorem dL_law_170 : decode cL_law 170 = .ok (.invokevirtual 31, 3) := dz_182 (b_3 (a := 0) (b := 31) bL_law (by decide +kernel))
theorem dL_law_173 : decode cL_law 173 = .ok (.pop, 1) := dz_87 (b_1 bL_law (by decide +kernel))
theorem dL_law_174 : decode cL_law 174 = .ok (.goto 1169, 3) := dz_167 (b_3 (a := 4) (b := 145) bL_law (by decide +kernel)) (by decide +kernel)
theorem dL_law_177 : decode cL_law 177 = .ok (.aload_n 1, 1) := dz_43 (b_1 bL_law (by decide +kernel))
theorem dL_law_178 : decode cL_law 178 = .ok (.aload_n 0, 1) := dz_42 (b_1 bL_law (by decide +kernel))
theorem dL_law_179 : decode cL_law 179 = .ok (.iload 4, 2) := dz_21 (b_2 (a := 4) bL_law (by decide +kernel))
theorem dL_law_181 : decode cL_law 181 = .ok (.iconst 1, 1) := dz_4 (b_1 bL_law (by decide +kernel))
theorem dL_law_182 : decode cL_law 182 = .ok (.iadd, 1) := dz_96 (b_1 bL_law (by decide +kernel))
theorem dL_law_183 : decode cL_law 183 = .ok (.iaload, 1) := dz_46 (b_1 bL_law (by decide +kernel))
theorem dL_law_184 : decode cL_law 184 = .ok (.aload_n 0, 1) := dz_42 (b_1 bL_law (by decide +kernel))
theorem dL_law_185 : decode cL_law 185 = .ok (.iload 4, 2) := dz_21 (b_2 (a := 4) bL_law (by decide +kernel))
theorem dL_law_187 : decode cL_law 187 = .ok (.iconst 2, 1) := dz_5 (b_1 bL_law (by decide +kernel))
theorem dL_law_188 : decode cL_law 188 = .ok (.iadd, 1) := dz_96 (b_1 bL_law (by decide +kernel))
theorem dL_law_189 : decode cL_law 189 = .ok (.iaload, 1) := dz_46 (b_1 bL_law (by decide +kernel))
theorem dL_law_190 : decode cL_law 190 = .ok (.aload_n 0, 1) := dz_42 (b_1 bL_law (by decide +kernel))
theorem dL_law_191 : decode cL_law 191 = .ok (.iload 4, 2) := dz_21 (b_2 (a := 4) bL_law (by decide +kernel))
theorem dL_law_193 : decode cL_law 193 = .ok (.iconst 3, 1) := dz_6 (b_1 bL_law (by decide +kernel))
theorem dL_law_194 : decode cL_law 194 = .ok (.iadd, 1) := dz_96 (b_1 bL_law (by decide +kernel))
theorem dL_law_195 : decode cL_law 195 = .ok (.iaload, 1) := dz_46 (b_1 bL_law (by decide +kernel))
theorem dL_law_196 : decode cL_law 196 = .ok (.aload_n 0, 1) := dz_42 (b_1 bL_law (by decide +kernel))
theorem dL_law_197 : decode cL_law 197 = .ok (.iload 4, 2) := dz_21 (b_2 (a := 4) bL_law (by decide +kernel))
theorem dL_law_199 : decode cL_law 199 = .ok (.iconst 4, 1) := dz_7 (b_1 bL_law (by decide +kernel))
theorem dL_law_200 : decode cL_law 200 = .ok (.iadd, 1) := dz_96 (b_1 bL_law (by decide +kernel))
theorem dL_law_201 : decode cL_law 201 = .ok (.iaload, 1) := dz_46 (b_1 bL_law (by decide +kernel))
theorem dL_law_202 : decode cL_law 202 = .ok (.i2l, 1) := dz_133 (b_1 bL_law (by decide +kernel))
theorem dL_law_203 : decode cL_law 203 = .ok (.bipush 32, 2) := dz_16 (b_2 (a := 32) bL_law (by decide +kernel)) (by decide +kernel)
theorem dL_law_205 : decode cL_law 205 = .ok (.lshl, 1) := dz_121 (b_1 bL_law (by decide +kernel))
theorem dL_law_206 : decode cL_law 206 = .ok (.aload_n 0, 1) := dz_42 (b_1 bL_law (by decide +kernel))
theorem dL_law_207 : decode cL_law 207 = .ok (.iload 4, 2) := dz_21 (b_2 (a := 4) bL_law (by decide +kernel))
theorem dL_law_209 : decode cL_law 209 = .ok (.iconst 5, 1) := dz_8 (b_1 bL_law (by decide +kernel))
theorem dL_law_210 : decode cL_law 210 = .ok (.iadd, 1) := dz_96 (b_1 bL_law (by decide +kernel))
theorem dL_law_211 : decode cL_law 211 = .ok (.iaload, 1) := dz_46 (b_1 bL_law (by decide +kernel))
theorem dL_law_212 : decode cL_law 212 = .ok (.i2l, 1) := dz_133 (b_1 bL_law (by decide +kernel))
theorem dL_law_213 : decode cL_law 213 = .ok (.ldc2_w 32, 3) := dz_20 (b_3 (a := 0) (b := 32) bL_law (by decide +kernel))
theorem dL_law_216 : decode cL_law 216 = .ok (.land, 1) := dz_127 (b_1 bL_law (by decide +kernel))
theorem dL_law_217 : decode cL_law 217 = .ok (.lor, 1) := dz_129 (b_1 bL_law (by decide +kernel))
theorem dL_law_218 : decode cL_law 218 = .ok (.invokevirtual 34, 3) := dz_182 (b_3 (a := 0) (b := 34) bL_law (by decide +kernel))
theorem dL_law_221 : decode cL_law 221 = .ok (.pop, 1) := dz_87 (b_1 bL_law (by decide +kernel))
theorem dL_law_222 : decode cL_law 222 = .ok (.aload_n 2, 1) := dz_44 (b_1 bL_law (by decide +kernel))
theorem dL_law_223 : decode cL_law 223 = .ok (.aload_n 0, 1) := dz_42 (b_1 bL_law (by decide +kernel))
theorem dL_law_224 : decode cL_law 224 = .ok (.iload 4, 2) := dz_21 (b_2 (a := 4) bL_law (by decide +kernel))
theorem dL_law_226 : decode cL_law 226 = .ok (.iconst 1, 1) := dz_4 (b_1 bL_law (by decide +kernel))
theorem dL_law_227 : decode cL_law 227 = .ok (.iadd, 1) := dz_96 (b_1 bL_law (by decide +kernel))
theorem dL_law_228 : decode cL_law 228 = .ok (.iaload, 1) := dz_46 (b_1 bL_law (by decide +kernel))
theorem dL_law_229 : decode cL_law 229 = .ok (.aload_n 0, 1) := dz_42 (b_1 bL_law (by decide +kernel))
theorem dL_law_230 : decode cL_law 230 = .ok (.iload 4, 2) := dz_21 (b_2 (a := 4) bL_law (by decide +kernel))
theorem dL_law_232 : decode cL_law 232 = .ok (.iconst 2, 1) := dz_5 (b_1 bL_law (by decide +kernel))
theorem dL_law_233 : decode cL_law 233 = .ok (.iadd, 1) := dz_96 (b_1 bL_law (by decide +kernel))
theorem dL_law_234 : decode cL_law 234 = .ok (.iaload, 1) := dz_46 (b_1 bL_law (by decide +kernel))
theorem dL_law_235 : decode cL_law 235 = .ok (.aload_n 0, 1) := dz_42 (b_1 bL_law (by decide +kernel))
theorem dL_law_236 : decode cL_law 236 = .ok (.iload 4, 2) := dz_21 (b_2 (a := 4) bL_law (by decide +kernel))
theorem dL_law_238 : decode cL_law 238 = .ok (.iconst 3, 1) := dz_6 (b_1 bL_law (by decide +kernel))
theorem dL_law_239 : decode cL_law 239 = .ok (.iadd, 1) := dz_96 (b_1 bL_law (by decide +kernel))
theorem dL_law_240 : decode cL_law 240 = .ok (.iaload, 1) := dz_46 (b_1 bL_law (by decide +kernel))
theorem dL_law_241 : decode cL_law 241 = .ok (.aload_n 0, 1) := dz_42 (b_1 bL_law (by decide +kernel))
theorem dL_law_242 : decode cL_law 242 = .ok (.iload 4, 2) := dz_21 (b_2 (a := 4) bL_law (by decide +kernel))
theorem dL_law_244 : decode cL_law 244 = .ok (.iconst 4, 1) := dz_7 (b_1 bL_law (by decide +kernel))
theorem dL_law_245 : decode cL_law 245 = .ok (.iadd, 1) := dz_96 (b_1 bL_law (by decide +kernel))
theorem dL_law_246 : decode cL_law 246 = .ok (.iaload, 1) := dz_46 (b_1 bL_law (by decide +kernel))
theorem dL_law_247 : decode cL_law 247 = .ok (.i2l, 1) := dz_133 (b_1 bL_law (by decide +kernel))
theorem dL_law_248 : decode cL_law 248 = .ok (.bipush 32, 2) := dz_16 (b_2 (a := 32) bL_law (by decide +kernel)) (by decide +kernel)
theorem dL_law_250 : decode cL_law 250 = .ok (.lshl, 1) := dz_121 (b_1 bL_law (by decide +kernel))
theorem dL_law_251 : decode cL_law 251 = .ok (.aload_n 0, 1) := dz_42 (b_1 bL_law (by decide +kernel))
theorem dL_law_252 : decode cL_law 252 = .ok (.iload 4, 2) := dz_21 (b_2 (a := 4) bL_law (by decide +kernel))
theorem dL_law_254 : decode cL_law 254 = .ok (.iconst 5, 1) := dz_8 (b_1 bL_law (by decide +kernel))
theorem dL_law_255 : decode cL_law 255 = .ok (.iadd, 1) := dz_96 (b_1 bL_law (by decide +kernel))
theorem dL_law_256 : decode cL_law 256 = .ok (.iaload, 1) := dz_46 (b_1 bL_law (by decide +kernel))
theorem dL_law_257 : decode cL_law 257 = .ok (.i2l, 1) := dz_133 (b_1 bL_law (by decide +kernel))
theorem dL_law_258 : decode cL_law 258 = .ok (.ldc2_w 32, 3) := dz_20 (b_3 (a := 0) (b := 32) bL_law (by decide +kernel))
theorem dL_law_261 : decode cL_law 261 = .ok (.land, 1) := dz_127 (b_1 bL_law (by decide +kernel))
theorem dL_law_262 : decode cL_law 262 = .ok (.lor, 1) := dz_129 (b_1 bL_law (by decide +kernel))
theorem dL_law_263 : decode cL_law 263 = .ok (.invokevirtual 38, 3) := dz_182 (b_3 (a := 0) (b := 38) bL_law (by decide +kernel))
theorem dL_law_266 : decode cL_law 266 = .ok (.pop, 1) := dz_87 (b_1 bL_law (by decide +kernel))
theorem dL_law_267 : decode cL_law 267 = .ok (.goto 1076, 3) := dz_167 (b_3 (a := 4) (b := 52) bL_law (by decide +kernel)) (by decide +kernel)
theorem dL_law_270 : decode cL_law 270 = .ok (.aload_n 1, 1) := dz_43 (b_1 bL_law (by decide +kernel))
theorem dL_law_271 : decode cL_law 271 = .ok (.aload_n 0, 1) := dz_42 (b_1 bL_law (by decide +kernel))
theorem dL_law_272 : decode cL_law 272 = .ok (.iload 4, 2) := dz_21 (b_2 (a := 4) bL_law (by decide +kernel))
theorem dL_law_274 : decode cL_law 274 = .ok (.iconst 1, 1) := dz_4 (b_1 bL_law (by decide +kernel))
theorem dL_law_275 : decode cL_law 275 = .ok (.iadd, 1) := dz_96 (b_1 bL_law (by decide +kernel))
theorem dL_law_276 : decode cL_law 276 = .ok (.iaload, 1) := dz_46 (b_1 bL_law (by decide +kernel))
theorem dL_law_277 : decode cL_law 277 = .ok (.aload_n 0, 1) := dz_42 (b_1 bL_law (by decide +kernel))
theorem dL_law_278 : decode cL_law 278 = .ok (.iload 4, 2) := dz_21 (b_2 (a := 4) bL_law (by decide +kernel))
theorem dL_law_280 : decode cL_law 280 = .ok (.iconst 2, 1) := dz_5 (b_1 bL_law (by decide +kernel))
theorem dL_law_281 : decode cL_law 281 = .ok (.iadd, 1) := dz_96 (b_1 bL_law (by decide +kernel))
theorem dL_law_282 : decode cL_law 282 = .ok (.iaload, 1) := dz_46 (b_1 bL_law (by decide +kernel))
theorem dL_law_283 : decode cL_law 283 = .ok (.invokevirtual 39, 3) := dz_182 (b_3 (a := 0) (b := 39) bL_law (by decide +kernel))
theorem dL_law_286 : decode cL_law 286 = .ok (.pop, 1) := dz_87 (b_1 bL_law (by decide +kernel))
theorem dL_law_287 : decode cL_law 287 = .ok (.aload_n 2, 1) := dz_44 (b_1 bL_law (by decide +kernel))
theorem dL_law_288 : decode cL_law 288 = .ok (.aload_n 0, 1) := dz_42 (b_1 bL_law (by decide +kernel))
theorem dL_law_289 : decode cL_law 289 = .ok (.iload 4, 2) := dz_21 (b_2 (a := 4) bL_law (by decide +kernel))
theorem dL_law_291 : decode cL_law 291 = .ok (.iconst 1, 1) := dz_4 (b_1 bL_law (by decide +kernel))
theorem dL_law_292 : decode cL_law 292 = .ok (.iadd, 1) := dz_96 (b_1 bL_law (by decide +kernel))
theorem dL_law_293 : decode cL_law 293 = .ok (.iaload, 1) := dz_46 (b_1 bL_law (by decide +kernel))
theorem dL_law_294 : decode cL_law 294 = .ok (.aload_n 0, 1) := dz_42 (b_1 bL_law (by decide +kernel))
theorem dL_law_295 : decode cL_law 295 = .ok (.iload 4, 2) := dz_21 (b_2 (a := 4) bL_law (by decide +kernel))
theorem dL_law_297 : decode cL_law 297 = .ok (.iconst 2, 1) := dz_5 (b_1 bL_law (by decide +kernel))
theorem dL_law_298 : decode cL_law 298 = .ok (.iadd, 1) := dz_96 (b_1 bL_law (by decide +kernel))
theorem dL_law_299 : decode cL_law 299 = .ok (.iaload, 1) := dz_46 (b_1 bL_law (by decide +kernel))
theorem dL_law_300 : decode cL_law 300 = .ok (.invokevirtual 43, 3) := dz_182 (b_3 (a := 0) (b := 43) bL_law (by decide +kernel))
theorem dL_law_303 : decode cL_law 303 = .ok (.pop, 1) := dz_87 (b_1 bL_law (by decide +kernel))
theorem dL_law_304 : decode cL_law 304 = .ok (.goto 1039, 3) := dz_167 (b_3 (a := 4) (b := 15) bL_law (by decide +kernel)) (by decide +kernel)
theorem dL_law_307 : decode cL_law 307 = .ok (.aload_n 1, 1) := dz_43 (b_1 bL_law (by decide +kernel))
theorem dL_law_308 : decode cL_law 308 = .ok (.aload_n 0, 1) := dz_42 (b_1 bL_law (by decide +kernel))
theorem dL_law_309 : decode cL_law 309 = .ok (.iload 4, 2) := dz_21 (b_2 (a := 4) bL_law (by decide +kernel))
theorem dL_law_311 : decode cL_law 311 = .ok (.iconst 1, 1) := dz_4 (b_1 bL_law (by decide +kernel))
theorem dL_law_312 : decode cL_law 312 = .ok (.iadd, 1) := dz_96 (b_1 bL_law (by decide +kernel))
theorem dL_law_313 : decode cL_law 313 = .ok (.iaload, 1) := dz_46 (b_1 bL_law (by decide +kernel))
theorem dL_law_314 : decode cL_law 314 = .ok (.aload_n 0, 1) := dz_42 (b_1 bL_law (by decide +kernel))
theorem dL_law_315 : decode cL_law 315 = .ok (.iload 4, 2) := dz_21 (b_2 (a := 4) bL_law (by decide +kernel))
theorem dL_law_317 : decode cL_law 317 = .ok (.iconst 2, 1) := dz_5 (b_1 bL_law (by decide +kernel))
theorem dL_law_318 : decode cL_law 318 = .ok (.iadd, 1) := dz_96 (b_1 bL_law (by decide +kernel))
theorem dL_law_319 : decode cL_law 319 = .ok (.iaload, 1) := dz_46 (b_1 bL_law (by decide +kernel))
theorem dL_law_320 : decode cL_law 320 = .ok (.aload_n 0, 1) := dz_42 (b_1 bL_law (by decide +kernel))
theorem dL_law_321 : decode cL_law 321 = .ok (.iload 4, 2) := dz_21 (b_2 (a := 4) bL_law (by decide +kernel))
theorem dL_law_323 : decode cL_law 323 = .ok (.iconst 3, 1) := dz_6 (b_1 bL_law (by decide +kernel))
theorem dL_law_324 : decode cL_law 324 = .ok (.iadd, 1) := dz_96 (b_1 bL_law (by decide +kernel))
theorem dL_law_325 : decode cL_law 325 = .ok (.iaload, 1) := dz_46 (b_1 bL_law (by decide +kernel))
theorem dL_law_326 : decode cL_law 326 = .ok (.ifCond .eq 7, 3) := dz_153 (b_3 (a := 0) (b := 7) bL_law (by decide +kernel)) (by decide +kernel)
theorem dL_law_329 : decode cL_law 329 = .ok (.iconst 1, 1) := dz_4 (b_1 bL_law (by decide +kernel))
theorem dL_law_330 : decode cL_law 330 = .ok (.goto 4, 3) := dz_167 (b_3 (a := 0) (b := 4) bL_law (by decide +kernel)) (by decide +kernel)
theorem dL_law_333 : decode cL_law 333 = .ok (.iconst 0, 1) := dz_3 (b_1 bL_law (by decide +kernel))
theorem dL_law_334 : decode cL_law 334 = .ok (.invokevirtual 44, 3) := dz_182 (b_3 (a := 0) (b := 44) bL_law (by decide +kernel))
theorem dL_law_337 : decode cL_law 337 = .ok (.pop, 1) := dz_87 (b_1 bL_law (by decide +kernel))
theorem dL_law_338 : decode cL_law 338 = .ok (.aload_n 2, 1) := dz_44 (b_1 bL_law (by decide +kernel))
theorem dL_law_339 : decode cL_law 339 = .ok (.aload_n 0, 1) := dz_42 (b_1 bL_law (by decide +kernel))
theorem dL_law_340 : decode cL_law 340 = .ok (.iload 4, 2) := dz_21 (b_2 (a := 4) bL_law (by decide +kernel))
theorem dL_law_342 : decode cL_law 342 = .ok (.iconst 1, 1) := dz_4 (b_1 bL_law (by decide +kernel))
theorem dL_law_343 : decode cL_law 343 = .ok (.iadd, 1) := dz_96 (b_1 bL_law (by decide +kernel))
theorem dL_law_344 : decode cL_law 344 = .ok (.iaload, 1) := dz_46 (b_1 bL_law (by decide +kernel))
theorem dL_law_345 : decode cL_law 345 = .ok (.aload_n 0, 1) := dz_42 (b_1 bL_law (by decide +kernel))
theorem dL_law_346 : decode cL_law 346 = .ok (.iload 4, 2) := dz_21 (b_2 (a := 4) bL_law (by decide +kernel))
theorem dL_law_348 : decode cL_law 348 = .ok (.iconst 2, 1) := dz_5 (b_1 bL_law (by decide +kernel))
theorem dL_law_349 : decode cL_law 349 = .ok (.iadd, 1) := dz_96 (b_1 bL_law (by decide +kernel))
theorem dL_law_350 : decode cL_law 350 = .ok (.iaload, 1) := dz_46 (b_1 bL_law (by decide +kernel))
theorem dL_law_351 : decode cL_law 351 = .ok (.aload_n 0, 1) := dz_42 (b_1 bL_law (by decide +kernel))
theorem dL_law_352 : decode cL_law 352 = .ok (.iload 4, 2) := dz_21 (b_2 (a := 4) bL_law (by decide +kernel))
theorem dL_law_354 : decode cL_law 354 = .ok (.iconst 3, 1) := dz_6 (b_1 bL_law (by decide +kernel))
theorem dL_law_355 : decode cL_law 355 = .ok (.iadd, 1) := dz_96 (b_1 bL_law (by decide +kernel))
theorem dL_law_356 : decode cL_law 356 = .ok (.iaload, 1) := dz_46 (b_1 bL_law (by decide +kernel))
theorem dL_law_357 : decode cL_law 357 = .ok (.ifCond .eq 7, 3) := dz_153 (b_3 (a := 0) (b := 7) bL_law (by decide +kernel)) (by decide +kernel)
theorem dL_law_360 : decode cL_law 360 = .ok (.iconst 1, 1) := dz_4 (b_1 bL_law (by decide +kernel))
theorem dL_law_361 : decode cL_law 361 = .ok (.goto 4, 3) := dz_167 (b_3 (a := 0) (b := 4) bL_law (by decide +kernel)) (by decide +kernel)
theorem dL_law_364 : decode cL_law 364 = .ok (.iconst 0, 1) := dz_3 (b_1 bL_law (by decide +kernel))
theorem dL_law_365 : decode cL_law 365 = .ok (.invokevirtual 48, 3) := dz_182 (b_3 (a := 0) (b := 48) bL_law (by decide +kernel))
theorem dL_law_368 : decode cL_law 368 = .ok (.pop, 1) := dz_87 (b_1 bL_law (by decide +kernel))
theorem dL_law_369 : decode cL_law 369 = .ok (.goto 974, 3) := dz_167 (b_3 (a := 3) (b := 206) bL_law (by decide +kernel)) (by decide +kernel)
theorem dL_law_372 : decode cL_law 372 = .ok (.aload_n 1, 1) := dz_43 (b_1 bL_law (by decide +kernel))
theorem dL_law_373 : decode cL_law 373 = .ok (.aload_n 0, 1) := dz_42 (b_1 bL_law (by decide +kernel))
theorem dL_law_374 : decode cL_law 374 = .ok (.iload 4, 2) := dz_21 (b_2 (a := 4) bL_law (by decide +kernel))
theorem dL_law_376 : decode cL_law 376 = .ok (.iconst 1, 1) := dz_4 (b_1 bL_law (by decide +kernel))
theorem dL_law_377 : decode cL_law 377 = .ok (.iadd, 1) := dz_96 (b_1 bL_law (by decide +kernel))
theorem dL_law_378 : decode cL_law 378 = .ok (.iaload, 1) := dz_46 (b_1 bL_law (by decide +kernel))
theorem dL_law_379 : decode cL_law 379 = .ok (.aload_n 0, 1) := dz_42 (b_1 bL_law (by decide +kernel))
theorem dL_law_380 : decode cL_law 380 = .ok (.iload 4, 2) := dz_21 (b_2 (a := 4) bL_law (by decide +kernel))
theorem dL_law_382 : decode cL_law 382 = .ok (.iconst 2, 1) := dz_5 (b_1 bL_law (by decide +kernel))
theorem dL_law_383 : decode cL_law 383 = .ok (.iadd, 1) := dz_96 (b_1 bL_law (by decide +kernel))
theorem dL_law_384 : decode cL_law 384 = .ok (.iaload, 1) := dz_46 (b_1 bL_law (by decide +kernel))
theorem dL_law_385 : decode cL_law 385 = .ok (.aload_n 0, 1) := dz_42 (b_1 bL_law (by decide +kernel))
theorem dL_law_386 : decode cL_law 386 = .ok (.iload 4, 2) := dz_21 (b_2 (a := 4) bL_law (by decide +kernel))
theorem dL_law_388 : decode cL_law 388 = .ok (.iconst 3, 1) := dz_6 (b_1 bL_law (by decide +kernel))
theorem dL_law_389 : decode cL_law 389 = .ok (.iadd, 1) := dz_96 (b_1 bL_law (by decide +kernel))
theorem dL_law_390 : decode cL_law 390 = .ok (.iaload, 1) := dz_46 (b_1 bL_law (by decide +kernel))
theorem dL_law_391 : decode cL_law 391 = .ok (.aload_n 0, 1) := dz_42 (b_1 bL_law (by decide +kernel))
theorem dL_law_392 : decode cL_law 392 = .ok (.iload 4, 2) := dz_21 (b_2 (a := 4) bL_law (by decide +kernel))
theorem dL_law_394 : decode cL_law 394 = .ok (.iconst 4, 1) := dz_7 (b_1 bL_law (by decide +kernel))
theorem dL_law_395 : decode cL_law 395 = .ok (.iadd, 1) := dz_96 (b_1 bL_law (by decide +kernel))
theorem dL_law_396 : decode cL_law 396 = .ok (.iaload, 1) := dz_46 (b_1 bL_law (by decide +kernel))
theorem dL_law_397 : decode cL_law 397 = .ok (.aload_n 0, 1) := dz_42 (b_1 bL_law (by decide +kernel))
theorem dL_law_398 : decode cL_law 398 = .ok (.iload 4, 2) := dz_21 (b_2 (a := 4) bL_law (by decide +kernel))
theorem dL_law_400 : decode cL_law 400 = .ok (.iconst 5, 1) := dz_8 (b_1 bL_law (by decide +kernel))
theorem dL_law_401 : decode cL_law 401 = .ok (.iadd, 1) := dz_96 (b_1 bL_law (by decide +kernel))
theorem dL_law_402 : decode cL_law 402 = .ok (.iaload, 1) := dz_46 (b_1 bL_law (by decide +kernel))
theorem dL_law_403 : decode cL_law 403 = .ok (.i2l, 1) := dz_133 (b_1 bL_law (by decide +kernel))
theorem dL_law_404 : decode cL_law 404 = .ok (.bipush 32, 2) := dz_16 (b_2 (a := 32) bL_law (by decide +kernel)) (by decide +kernel)
theorem dL_law_406 : decode cL_law 406 = .ok (.lshl, 1) := dz_121 (b_1 bL_law (by decide +kernel))
theorem dL_law_407 : decode cL_law 407 = .ok (.aload_n 0, 1) := dz_42 (b_1 bL_law (by decide +kernel))
theorem dL_law_408 : decode cL_law 408 = .ok (.iload 4, 2) := dz_21 (b_2 (a := 4) bL_law (by decide +kernel))
theorem dL_law_410 : decode cL_law 410 = .ok (.bipush 6, 2) := dz_16 (b_2 (a := 6) bL_law (by decide +kernel)) (by decide +kernel)
theorem dL_law_412 : decode cL_law 412 = .ok (.iadd, 1) := dz_96 (b_1 bL_law (by decide +kernel))
theorem dL_law_413 : decode cL_law 413 = .ok (.iaload, 1) := dz_46 (b_1 bL_law (by decide +kernel))
theorem dL_law_414 : decode cL_law 414 = .ok (.i2l, 1) := dz_133 (b_1 bL_law (by decide +kernel))
theorem dL_law_415 : decode cL_law 415 = .ok (.ldc2_w 32, 3) := dz_20 (b_3 (a := 0) (b := 32) bL_law (by decide +kernel))
theorem dL_law_418 : decode cL_law 418 = .ok (.land, 1) := dz_127 (b_1 bL_law (by decide +kernel))
theorem dL_law_419 : decode cL_law 419 = .ok (.lor, 1) := dz_129 (b_1 bL_law (by decide +kernel))
theorem dL_law_420 : decode cL_law 420 = .ok (.invokevirtual 49, 3) := dz_182 (b_3 (a := 0) (b := 49) bL_law (by decide +kernel))
theorem dL_law_423 : decode cL_law 423 = .ok (.pop, 1) := dz_87 (b_1 bL_law (by decide +kernel))
theorem dL_law_424 : decode cL_law 424 = .ok (.aload_n 2, 1) := dz_44 (b_1 bL_law (by decide +kernel))
theorem dL_law_425 : decode cL_law 425 = .ok (.aload_n 0, 1) := dz_42 (b_1 bL_law (by decide +kernel))
theorem dL_law_426 : decode cL_law 426 = .ok (.iload 4, 2) := dz_21 (b_2 (a := 4) bL_law (by decide +kernel))
theorem dL_law_428 : decode cL_law 428 = .ok (.iconst 1, 1) := dz_4 (b_1 bL_law (by decide +kernel))
theorem dL_law_429 : decode cL_law 429 = .ok (.iadd, 1) := dz_96 (b_1 bL_law (by decide +kernel))
theorem dL_law_430 : decode cL_law 430 = .ok (.iaload, 1) := dz_46 (b_1 bL_law (by decide +kernel))
theorem dL_law_431 : decode cL_law 431 = .ok (.aload_n 0, 1) := dz_42 (b_1 bL_law (by decide +kernel))
theorem dL_law_432 : decode cL_law 432 = .ok (.iload 4, 2) := dz_21 (b_2 (a := 4) bL_law (by decide +kernel))
theorem dL_law_434 : decode cL_law 434 = .ok (.iconst 2, 1) := dz_5 (b_1 bL_law (by decide +kernel))
theorem dL_law_435 : decode cL_law 435 = .ok (.iadd, 1) := dz_96 (b_1 bL_law (by decide +kernel))
theorem dL_law_436 : decode cL_law 436 = .ok (.iaload, 1) := dz_46 (b_1 bL_law (by decide +kernel))
theorem dL_law_437 : decode cL_law 437 = .ok (.aload_n 0, 1) := dz_42 (b_1 bL_law (by decide +kernel))
theorem dL_law_438 : decode cL_law 438 = .ok (.iload 4, 2) := dz_21 (b_2 (a := 4) bL_law (by decide +kernel))
theorem dL_law_440 : decode cL_law 440 = .ok (.iconst 3, 1) := dz_6 (b_1 bL_law (by decide +kernel))
theorem dL_law_441 : decode cL_law 441 = .ok (.iadd, 1) := dz_96 (b_1 bL_law (by decide +kernel))
theorem dL_law_442 : decode cL_law 442 = .ok (.iaload, 1) := dz_46 (b_1 bL_law (by decide +kernel))
theorem dL_law_443 : decode cL_law 443 = .ok (.aload_n 0, 1) := dz_42 (b_1 bL_law (by decide +kernel))
theorem dL_law_444 : decode cL_law 444 = .ok (.iload 4, 2) := dz_21 (b_2 (a := 4) bL_law (by decide +kernel))
theorem dL_law_446 : decode cL_law 446 = .ok (.iconst 4, 1) := dz_7 (b_1 bL_law (by decide +kernel))
theorem dL_law_447 : decode cL_law 447 = .ok (.iadd, 1) := dz_96 (b_1 bL_law (by decide +kernel))
theorem dL_law_448 : decode cL_law 448 = .ok (.iaload, 1) := dz_46 (b_1 bL_law (by decide +kernel))
theorem dL_law_449 : decode cL_law 449 = .ok (.aload_n 0, 1) := dz_42 (b_1 bL_law (by decide +kernel))
theorem dL_law_450 : decode cL_law 450 = .ok (.iload 4, 2) := dz_21 (b_2 (a := 4) bL_law (by decide +kernel))
theorem dL_law_452 : decode cL_law 452 = .ok (.iconst 5, 1) := dz_8 (b_1 bL_law (by decide +kernel))
theorem dL_law_453 : decode cL_law 453 = .ok (.iadd, 1) := dz_96 (b_1 bL_law (by decide +kernel))
theorem dL_law_454 : decode cL_law 454 = .ok (.iaload, 1) := dz_46 (b_1 bL_law (by decide +kernel))
theorem dL_law_455 : decode cL_law 455 = .ok (.i2l, 1) := dz_133 (b_1 bL_law (by decide +kernel))
theorem dL_law_456 : decode cL_law 456 = .ok (.bipush 32, 2) := dz_16 (b_2 (a := 32) bL_law (by decide +kernel)) (by decide +kernel)
theorem dL_law_458 : decode cL_law 458 = .ok (.lshl, 1) := dz_121 (b_1 bL_law (by decide +kernel))
theorem dL_law_459 : decode cL_law 459 = .ok (.aload_n 0, 1) := dz_42 (b_1 bL_law (by decide +kernel))
theorem dL_law_460 : decode cL_law 460 = .ok (.iload 4, 2) := dz_21 (b_2 (a := 4) bL_law (by decide +kernel))
theorem dL_law_462 : decode cL_law 462 = .ok (.bipush 6, 2) := dz_16 (b_2 (a := 6) bL_law (by decide +kernel)) (by decide +kernel)
theorem dL_law_464 : decode cL_law 464 = .ok (.iadd, 1) := dz_96 (b_1 bL_law (by decide +kernel))
theorem dL_law_465 : decode cL_law 465 = .ok (.iaload, 1) := dz_46 (b_1 bL_law (by decide +kernel))
theorem dL_law_466 : decode cL_law 466 = .ok (.i2l, 1) := dz_133 (b_1 bL_law (by decide +kernel))
theorem dL_law_467 : decode cL_law 467 = .ok (.ldc2_w 32, 3) := dz_20 (b_3 (a := 0) (b := 32) bL_law (by decide +kernel))
theorem dL_law_470 : decode cL_law 470 = .ok (.land, 1) := dz_127 (b_1 bL_law (by decide +kernel))
theorem dL_law_471 : decode cL_law 471 = .ok (.lor, 1) := dz_129 (b_1 bL_law (by decide +kernel))
theorem dL_law_472 : decode cL_law 472 = .ok (.invokevirtual 53, 3) := dz_182 (b_3 (a := 0) (b := 53) bL_law (by decide +kernel))
theorem dL_law_475 : decode cL_law 475 = .ok (.pop, 1) := dz_87 (b_1 bL_law (by decide +kernel))
theorem dL_law_476 : decode cL_law 476 = .ok (.goto 867, 3) := dz_167 (b_3 (a := 3) (b := 99) bL_law (by decide +kernel)) (by decide +kernel)
theorem dL_law_479 : decode cL_law 479 = .ok (.aload_n 1, 1) := dz_43 (b_1 bL_law (by decide +kernel))
theorem dL_law_480 : decode cL_law 480 = .ok (.aload_n 0, 1) := dz_42 (b_1 bL_law (by decide +kernel))
theorem dL_law_481 : decode cL_law 481 = .ok (.iload 4, 2) := dz_21 (b_2 (a := 4) bL_law (by decide +kernel))
theorem dL_law_483 : decode cL_law 483 = .ok (.iconst 1, 1) := dz_4 (b_1 bL_law (by decide +kernel))
theorem dL_law_484 : decode cL_law 484 = .ok (.iadd, 1) := dz_96 (b_1 bL_law (by decide +kernel))
theorem dL_law_485 : decode cL_law 485 = .ok (.iaload, 1) := dz_46 (b_1 bL_law (by decide +kernel))
theorem dL_law_486 : decode cL_law 486 = .ok (.invokevirtual 54, 3) := dz_182 (b_3 (a := 0) (b := 54) bL_law (by decide +kernel))
theorem dL_law_489 : decode cL_law 489 = .ok (.pop, 1) := dz_87 (b_1 bL_law (by decide +kernel))
theorem dL_law_490 : decode cL_law 490 = .ok (.aload_n 2, 1) := dz_44 (b_1 bL_law (by decide +kernel))
theorem dL_law_491 : decode cL_law 491 = .ok (.aload_n 0, 1) := dz_42 (b_1 bL_law (by decide +kernel))
theorem dL_law_492 : decode cL_law 492 = .ok (.iload 4, 2) := dz_21 (b_2 (a := 4) bL_law (by decide +kernel))
theorem dL_law_494 : decode cL_law 494 = .ok (.iconst 1, 1) := dz_4 (b_1 bL_law (by decide +kernel))
theorem dL_law_495 : decode cL_law 495 = .ok (.iadd, 1) := dz_96 (b_1 bL_law (by decide +kernel))
theorem dL_law_496 : decode cL_law 496 = .ok (.iaload, 1) := dz_46 (b_1 bL_law (by decide +kernel))
theorem dL_law_497 : decode cL_law 497 = .ok (.invokevirtual 58, 3) := dz_182 (b_3 (a := 0) (b := 58) bL_law (by decide +kernel))
theorem dL_law_500 : decode cL_law 500 = .ok (.pop, 1) := dz_87 (b_1 bL_law (by decide +kernel))
theorem dL_law_501 : decode cL_law 501 = .ok (.goto 842, 3) := dz_167 (b_3 (a := 3) (b := 74) bL_law (by decide +kernel)) (by decide +kernel)
theorem dL_law_504 : decode cL_law 504 = .ok (.aload_n 1, 1) := dz_43 (b_1 bL_law (by decide +kernel))
theorem dL_law_505 : decode cL_law 505 = .ok (.aload_n 0, 1) := dz_42 (b_1 bL_law (by decide +kernel))
theorem dL_law_506 : decode cL_law 506 = .ok (.iload 4, 2) := dz_21 (b_2 (a := 4) bL_law (by decide +kernel))
theorem dL_law_508 : decode cL_law 508 = .ok (.iconst 1, 1) := dz_4 (b_1 bL_law (by decide +kernel))
theorem dL_law_509 : decode cL_law 509 = .ok (.iadd, 1) := dz_96 (b_1 bL_law (by decide +kernel))
theorem dL_law_510 : decode cL_law 510 = .ok (.iaload, 1) := dz_46 (b_1 bL_law (by decide +kernel))
theorem dL_law_511 : decode cL_law 511 = .ok (.aload_n 0, 1) := dz_42 (b_1 bL_law (by decide +kernel))
theorem dL_law_512 : decode cL_law 512 = .ok (.iload 4, 2) := dz_21 (b_2 (a := 4) bL_law (by decide +kernel))
theorem dL_law_514 : decode cL_law 514 = .ok (.iconst 2, 1) := dz_5 (b_1 bL_law (by decide +kernel))
theorem dL_law_515 : decode cL_law 515 = .ok (.iadd, 1) := dz_96 (b_1 bL_law (by decide +kernel))
theorem dL_law_516 : decode cL_law 516 = .ok (.iaload, 1) := dz_46 (b_1 bL_law (by decide +kernel))
theorem dL_law_517 : decode cL_law 517 = .ok (.ifCond .eq 7, 3) := dz_153 (b_3 (a := 0) (b := 7) bL_law (by decide +kernel)) (by decide +kernel)
theorem dL_law_520 : decode cL_law 520 = .ok (.iconst 1, 1) := dz_4 (b_1 bL_law (by decide +kernel))
theorem dL_law_521 : decode cL_law 521 = .ok (.goto 4, 3) := dz_167 (b_3 (a := 0) (b := 4) bL_law (by decide +kernel)) (by decide +kernel)
theorem dL_law_524 : decode cL_law 524 = .ok (.iconst 0, 1) := dz_3 (b_1 bL_law (by decide +kernel))
theorem dL_law_525 : decode cL_law 525 = .ok (.invokevirtual 59, 3) := dz_182 (b_3 (a := 0) (b := 59) bL_law (by decide +kernel))
theorem dL_law_528 : decode cL_law 528 = .ok (.pop, 1) := dz_87 (b_1 bL_law (by decide +kernel))
theorem dL_law_529 : decode cL_law 529 = .ok (.aload_n 2, 1) := dz_44 (b_1 bL_law (by decide +kernel))
theorem dL_law_530 : decode cL_law 530 = .ok (.aload_n 0, 1) := dz_42 (b_1 bL_law (by decide +kernel))
theorem dL_law_531 : decode cL_law 531 = .ok (.iload 4, 2) := dz_21 (b_2 (a := 4) bL_law (by decide +kernel))
theorem dL_law_533 : decode cL_law 533 = .ok (.iconst 1, 1) := dz_4 (b_1 bL_law (by decide +kernel))
theorem dL_law_534 : decode cL_law 534 = .ok (.iadd, 1) := dz_96 (b_1 bL_law (by decide +kernel))
theorem dL_law_535 : decode cL_law 535 = .ok (.iaload, 1) := dz_46 (b_1 bL_law (by decide +kernel))
theorem dL_law_536 : decode cL_law 536 = .ok (.aload_n 0, 1) := dz_42 (b_1 bL_law (by decide +kernel))
theorem dL_law_537 : decode cL_law 537 = .ok (.iload 4, 2) := dz_21 (b_2 (a := 4) bL_law (by decide +kernel))
theorem dL_law_539 : decode cL_law 539 = .ok (.iconst 2, 1) := dz_5 (b_1 bL_law (by decide +kernel))
theorem dL_law_540 : decode cL_law 540 = .ok (.iadd, 1) := dz_96 (b_1 bL_law (by decide +kernel))
theorem dL_law_541 : decode cL_law 541 = .ok (.iaload, 1) := dz_46 (b_1 bL_law (by decide +kernel))
theorem dL_law_542 : decode cL_law 542 = .ok (.ifCond .eq 7, 3) := dz_153 (b_3 (a := 0) (b := 7) bL_law (by decide +kernel)) (by decide +kernel)
theorem dL_law_545 : decode cL_law 545 = .ok (.iconst 1, 1) := dz_4 (b_1 bL_law (by decide +kernel))
theorem dL_law_546 : decode cL_law 546 = .ok (.goto 4, 3) := dz_167 (b_3 (a := 0) (b := 4) bL_law (by decide +kernel)) (by decide +kernel)
theorem dL_law_549 : decode cL_law 549 = .ok (.iconst 0, 1) := dz_3 (b_1 bL_law (by decide +kernel))
theorem dL_law_550 : decode cL_law 550 = .ok (.invokevirtual 63, 3) := dz_182 (b_3 (a := 0) (b := 63) bL_law (by decide +kernel))
theorem dL_law_553 : decode cL_law 553 = .ok (.pop, 1) := dz_87 (b_1 bL_law (by decide +kernel))
theorem dL_law_554 : decode cL_law 554 = .ok (.goto 789, 3) := dz_167 (b_3 (a := 3) (b := 21) bL_law (by decide +kernel)) (by decide +kernel)
theorem dL_law_557 : decode cL_law 557 = .ok (.aload_n 1, 1) := dz_43 (b_1 bL_law (by decide +kernel))
theorem dL_law_558 : decode cL_law 558 = .ok (.aload_n 0, 1) := dz_42 (b_1 bL_law (by decide +kernel))
theorem dL_law_559 : decode cL_law 559 = .ok (.iload 4, 2) := dz_21 (b_2 (a := 4) bL_law (by decide +kernel))
theorem dL_law_561 : decode cL_law 561 = .ok (.iconst 1, 1) := dz_4 (b_1 bL_law (by decide +kernel))
theorem dL_law_562 : decode cL_law 562 = .ok (.iadd, 1) := dz_96 (b_1 bL_law (by decide +kernel))
theorem dL_law_563 : decode cL_law 563 = .ok (.iaload, 1) := dz_46 (b_1 bL_law (by decide +kernel))
theorem dL_law_564 : decode cL_law 564 = .ok (.invokevirtual 64, 3) := dz_182 (b_3 (a := 0) (b := 64) bL_law (by decide +kernel))
theorem dL_law_567 : decode cL_law 567 = .ok (.pop, 1) := dz_87 (b_1 bL_law (by decide +kernel))
theorem dL_law_568 : decode cL_law 568 = .ok (.aload_n 2, 1) := dz_44 (b_1 bL_law (by decide +kernel))
theorem dL_law_569 : decode cL_law 569 = .ok (.aload_n 0, 1) := dz_42 (b_1 bL_law (by decide +kernel))
theorem dL_law_570 : decode cL_law 570 = .ok (.iload 4, 2) := dz_21 (b_2 (a := 4) bL_law (by decide +kernel))
theorem dL_law_572 : decode cL_law 572 = .ok (.iconst 1, 1) := dz_4 (b_1 bL_law (by decide +kernel))
theorem dL_law_573 : decode cL_law 573 = .ok (.iadd, 1) := dz_96 (b_1 bL_law (by decide +kernel))
theorem dL_law_574 : decode cL_law 574 = .ok (.iaload, 1) := dz_46 (b_1 bL_law (by decide +kernel))
theorem dL_law_575 : decode cL_law 575 = .ok (.invokevirtual 67, 3) := dz_182 (b_3 (a := 0) (b := 67) bL_law (by decide +kernel))
theorem dL_law_578 : decode cL_law 578 = .ok (.pop, 1) := dz_87 (b_1 bL_law (by decide +kernel))
theorem dL_law_579 : decode cL_law 579 = .ok (.goto 764, 3) := dz_167 (b_3 (a := 2) (b := 252) bL_law (by decide +kernel)) (by decide +kernel)
theorem dL_law_582 : decode cL_law 582 = .ok (.aload_n 1, 1) := dz_43 (b_1 bL_law (by decide +kernel))
theorem dL_law_583 : decode cL_law 583 = .ok (.aload_n 0, 1) := dz_42 (b_1 bL_law (by decide +kernel))
theorem dL_law_584 : decode cL_law 584 = .ok (.iload 4, 2) := dz_21 (b_2 (a := 4) bL_law (by decide +kernel))
theorem dL_law_586 : decode cL_law 586 = .ok (.iconst 1, 1) := dz_4 (b_1 bL_law (by decide +kernel))
theorem dL_law_587 : decode cL_law 587 = .ok (.iadd, 1) := dz_96 (b_1 bL_law (by decide +kernel))
theorem dL_law_588 : decode cL_law 588 = .ok (.iaload, 1) := dz_46 (b_1 bL_law (by decide +kernel))
theorem dL_law_589 : decode cL_law 589 = .ok (.aload_n 0, 1) := dz_42 (b_1 bL_law (by decide +kernel))
theorem dL_law_590 : decode cL_law 590 = .ok (.iload 4, 2) := dz_21 (b_2 (a := 4) bL_law (by decide +kernel))
theorem dL_law_592 : decode cL_law 592 = .ok (.iconst 2, 1) := dz_5 (b_1 bL_law (by decide +kernel))
theorem dL_law_593 : decode cL_law 593 = .ok (.iadd, 1) := dz_96 (b_1 bL_law (by decide +kernel))
theorem dL_law_594 : decode cL_law 594 = .ok (.iaload, 1) := dz_46 (b_1 bL_law (by decide +kernel))
theorem dL_law_595 : decode cL_law 595 = .ok (.aload_n 0, 1) := dz_42 (b_1 bL_law (by decide +kernel))
theorem dL_law_596 : decode cL_law 596 = .ok (.iload 4, 2) := dz_21 (b_2 (a := 4) bL_law (by decide +kernel))
theorem dL_law_598 : decode cL_law 598 = .ok (.iconst 3, 1) := dz_6 (b_1 bL_law (by decide +kernel))
theorem dL_law_599 : decode cL_law 599 = .ok (.iadd, 1) := dz_96 (b_1 bL_law (by decide +kernel))
theorem dL_law_600 : decode cL_law 600 = .ok (.iaload, 1) := dz_46 (b_1 bL_law (by decide +kernel))
theorem dL_law_601 : decode cL_law 601 = .ok (.i2l, 1) := dz_133 (b_1 bL_law (by decide +kernel))
theorem dL_law_602 : decode cL_law 602 = .ok (.bipush 32, 2) := dz_16 (b_2 (a := 32) bL_law (by decide +kernel)) (by decide +kernel)
theorem dL_law_604 : decode cL_law 604 = .ok (.lshl, 1) := dz_121 (b_1 bL_law (by decide +kernel))
theorem dL_law_605 : decode cL_law 605 = .ok (.aload_n 0, 1) := dz_42 (b_1 bL_law (by decide +kernel))
theorem dL_law_606 : decode cL_law 606 = .ok (.iload 4, 2) := dz_21 (b_2 (a := 4) bL_law (by decide +kernel))
theorem dL_law_608 : decode cL_law 608 = .ok (.iconst 4, 1) := dz_7 (b_1 bL_law (by decide +kernel))
theorem dL_law_609 : decode cL_law 609 = .ok (.iadd, 1) := dz_96 (b_1 bL_law (by decide +kernel))
theorem dL_law_610 : decode cL_law 610 = .ok (.iaload, 1) := dz_46 (b_1 bL_law (by decide +kernel))
theorem dL_law_611 : decode cL_law 611 = .ok (.i2l, 1) := dz_133 (b_1 bL_law (by decide +kernel))
theorem dL_law_612 : decode cL_law 612 = .ok (.ldc2_w 32, 3) := dz_20 (b_3 (a := 0) (b := 32) bL_law (by decide +kernel))
theorem dL_law_615 : decode cL_law 615 = .ok (.land, 1) := dz_127 (b_1 bL_law (by decide +kernel))
theorem dL_law_616 : decode cL_law 616 = .ok (.lor, 1) := dz_129 (b_1 bL_law (by decide +kernel))
theorem dL_law_617 : decode cL_law 617 = .ok (.invokevirtual 68, 3) := dz_182 (b_3 (a := 0) (b := 68) bL_law (by decide +kernel))
theorem dL_law_620 : decode cL_law 620 = .ok (.pop, 1) := dz_87 (b_1 bL_law (by decide +kernel))
theorem dL_law_621 : decode cL_law 621 = .ok (.aload_n 2, 1) := dz_44 (b_1 bL_law (by decide +kernel))
theorem dL_law_622 : decode cL_law 622 = .ok (.aload_n 0, 1) := dz_42 (b_1 bL_law (by decide +kernel))
theorem dL_law_623 : decode cL_law 623 = .ok (.iload 4, 2) := dz_21 (b_2 (a := 4) bL_law (by decide +kernel))
theorem dL_law_625 : decode cL_law 625 = .ok (.iconst 1, 1) := dz_4 (b_1 bL_law (by decide +kernel))
theorem dL_law_626 : decode cL_law 626 = .ok (.iadd, 1) := dz_96 (b_1 bL_law (by decide +kernel))
theorem dL_law_627 : decode cL_law 627 = .ok (.iaload, 1) := dz_46 (b_1 bL_law (by decide +kernel))
theorem dL_law_628 : decode cL_law 628 = .ok (.aload_n 0, 1) := dz_42 (b_1 bL_law (by decide +kernel))
theorem dL_law_629 : decode cL_law 629 = .ok (.iload 4, 2) := dz_21 (b_2 (a := 4) bL_law (by decide +kernel))
theorem dL_law_631 : decode cL_law 631 = .ok (.iconst 2, 1) := dz_5 (b_1 bL_law (by decide +kernel))
theorem dL_law_632 : decode cL_law 632 = .ok (.iadd, 1) := dz_96 (b_1 bL_law (by decide +kernel))
theorem dL_law_633 : decode cL_law 633 = .ok (.iaload, 1) := dz_46 (b_1 bL_law (by decide +kernel))
theorem dL_law_634 : decode cL_law 634 = .ok (.aload_n 0, 1) := dz_42 (b_1 bL_law (by decide +kernel))
theorem dL_law_635 : decode cL_law 635 = .ok (.iload 4, 2) := dz_21 (b_2 (a := 4) bL_law (by decide +kernel))
theorem dL_law_637 : decode cL_law 637 = .ok (.iconst 3, 1) := dz_6 (b_1 bL_law (by decide +kernel))
theorem dL_law_638 : decode cL_law 638 = .ok (.iadd, 1) := dz_96 (b_1 bL_law (by decide +kernel))
theorem dL_law_639 : decode cL_law 639 = .ok (.iaload, 1) := dz_46 (b_1 bL_law (by decide +kernel))
theorem dL_law_640 : decode cL_law 640 = .ok (.i2l, 1) := dz_133 (b_1 bL_law (by decide +kernel))
theorem dL_law_641 : decode cL_law 641 = .ok (.bipush 32, 2) := dz_16 (b_2 (a := 32) bL_law (by decide +kernel)) (by decide +kernel)
theorem dL_law_643 : decode cL_law 643 = .ok (.lshl, 1) := dz_121 (b_1 bL_law (by decide +kernel))
theorem dL_law_644 : decode cL_law 644 = .ok (.aload_n 0, 1) := dz_42 (b_1 bL_law (by decide +kernel))
theorem dL_law_645 : decode cL_law 645 = .ok (.iload 4, 2) := dz_21 (b_2 (a := 4) bL_law (by decide +kernel))
theorem dL_law_647 : decode cL_law 647 = .ok (.iconst 4, 1) := dz_7 (b_1 bL_law (by decide +kernel))
theorem dL_law_648 : decode cL_law 648 = .ok (.iadd, 1) := dz_96 (b_1 bL_law (by decide +kernel))
theorem dL_law_649 : decode cL_law 649 = .ok (.iaload, 1) := dz_46 (b_1 bL_law (by decide +kernel))
theorem dL_law_650 : decode cL_law 650 = .ok (.i2l, 1) := dz_133 (b_1 bL_law (by decide +kernel))
theorem dL_law_651 : decode cL_law 651 = .ok (.ldc2_w 32, 3) := dz_20 (b_3 (a := 0) (b := 32) bL_law (by decide +kernel))
theorem dL_law_654 : decode cL_law 654 = .ok (.land, 1) := dz_127 (b_1 bL_law (by decide +kernel))
theorem dL_law_655 : decode cL_law 655 = .ok (.lor, 1) := dz_129 (b_1 bL_law (by decide +kernel))
theorem dL_law_656 : decode cL_law 656 = .ok (.invokevirtual 72, 3) := dz_182 (b_3 (a := 0) (b := 72) bL_law (by decide +kernel))
theorem dL_law_659 : decode cL_law 659 = .ok (.pop, 1) := dz_87 (b_1 bL_law (by decide +kernel))
theorem dL_law_660 : decode cL_law 660 = .ok (.goto 683, 3) := dz_167 (b_3 (a := 2) (b := 171) bL_law (by decide +kernel)) (by decide +kernel)
theorem dL_law_663 : decode cL_law 663 = .ok (.aload_n 1, 1) := dz_43 (b_1 bL_law (by decide +kernel))
theorem dL_law_664 : decode cL_law 664 = .ok (.aload_n 0, 1) := dz_42 (b_1 bL_law (by decide +kernel))
theorem dL_law_665 : decode cL_law 665 = .ok (.iload 4, 2) := dz_21 (b_2 (a := 4) bL_law (by decide +kernel))
theorem dL_law_667 : decode cL_law 667 = .ok (.iconst 1, 1) := dz_4 (b_1 bL_law (by decide +kernel))
theorem dL_law_668 : decode cL_law 668 = .ok (.iadd, 1) := dz_96 (b_1 bL_law (by decide +kernel))
theorem dL_law_669 : decode cL_law 669 = .ok (.iaload, 1) := dz_46 (b_1 bL_law (by decide +kernel))
theorem dL_law_670 : decode cL_law 670 = .ok (.aload_n 0, 1) := dz_42 (b_1 bL_law (by decide +kernel))
theorem dL_law_671 : decode cL_law 671 = .ok (.iload 4, 2) := dz_21 (b_2 (a := 4) bL_law (by decide +kernel))
theorem dL_law_673 : decode cL_law 673 = .ok (.iconst 2, 1) := dz_5 (b_1 bL_law (by decide +kernel))
theorem dL_law_674 : decode cL_law 674 = .ok (.iadd, 1) := dz_96 (b_1 bL_law (by decide +kernel))
theorem dL_law_675 : decode cL_law 675 = .ok (.iaload, 1) := dz_46 (b_1 bL_law (by decide +kernel))
theorem dL_law_676 : decode cL_law 676 = .ok (.aload_n 0, 1) := dz_42 (b_1 bL_law (by decide +kernel))
theorem dL_law_677 : decode cL_law 677 = .ok (.iload 4, 2) := dz_21 (b_2 (a := 4) bL_law (by decide +kernel))
theorem dL_law_679 : decode cL_law 679 = .ok (.iconst 3, 1) := dz_6 (b_1 bL_law (by decide +kernel))
theorem dL_law_680 : decode cL_law 680 = .ok (.iadd, 1) := dz_96 (b_1 bL_law (by decide +kernel))
theorem dL_law_681 : decode cL_law 681 = .ok (.iaload, 1) := dz_46 (b_1 bL_law (by decide +kernel))
theorem dL_law_682 : decode cL_law 682 = .ok (.invokevirtual 73, 3) := dz_182 (b_3 (a := 0) (b := 73) bL_law (by decide +kernel))
theorem dL_law_685 : decode cL_law 685 = .ok (.pop, 1) := dz_87 (b_1 bL_law (by decide +kernel))
theorem dL_law_686 : decode cL_law 686 = .ok (.aload_n 2, 1) := dz_44 (b_1 bL_law (by decide +kernel))
theorem dL_law_687 : decode cL_law 687 = .ok (.aload_n 0, 1) := dz_42 (b_1 bL_law (by decide +kernel))
theorem dL_law_688 : decode cL_law 688 = .ok (.iload 4, 2) := dz_21 (b_2 (a := 4) bL_law (by decide +kernel))
theorem dL_law_690 : decode cL_law 690 = .ok (.iconst 1, 1) := dz_4 (b_1 bL_law (by decide +kernel))
theorem dL_law_691 : decode cL_law 691 = .ok (.iadd, 1) := dz_96 (b_1 bL_law (by decide +kernel))
theorem dL_law_692 : decode cL_law 692 = .ok (.iaload, 1) := dz_46 (b_1 bL_law (by decide +kernel))
theorem dL_law_693 : decode cL_law 693 = .ok (.aload_n 0, 1) := dz_42 (b_1 bL_law (by decide +kernel))
theorem dL_law_694 : decode cL_law 694 = .ok (.iload 4, 2) := dz_21 (b_2 (a := 4) bL_law (by decide +kernel))
theorem dL_law_696 : decode cL_law 696 = .ok (.iconst 2, 1) := dz_5 (b_1 bL_law (by decide +kernel))
theorem dL_law_697 : decode cL_law 697 = .ok (.iadd, 1) := dz_96 (b_1 bL_law (by decide +kernel))
theorem dL_law_698 : decode cL_law 698 = .ok (.iaload, 1) := dz_46 (b_1 bL_law (by decide +kernel))
theorem dL_law_699 : decode cL_law 699 = .ok (.aload_n 0, 1) := dz_42 (b_1 bL_law (by decide +kernel))
theorem dL_law_700 : decode cL_law 700 = .ok (.iload 4, 2) := dz_21 (b_2 (a := 4) bL_law (by decide +kernel))
theorem dL_law_702 : decode cL_law 702 = .ok (.iconst 3, 1) := dz_6 (b_1 bL_law (by decide +kernel))
theorem dL_law_703 : decode cL_law 703 = .ok (.iadd, 1) := dz_96 (b_1 bL_law (by decide +kernel))
theorem dL_law_704 : decode cL_law 704 = .ok (.iaload, 1) := dz_46 (b_1 bL_law (by decide +kernel))
theorem dL_law_705 : decode cL_law 705 = .ok (.invokevirtual 77, 3) := dz_182 (b_3 (a := 0) (b := 77) bL_law (by decide +kernel))
theorem dL_law_708 : decode cL_law 708 = .ok (.pop, 1) := dz_87 (b_1 bL_law (by decide +kernel))
theorem dL_law_709 : decode cL_law 709 = .ok (.goto 634, 3) := dz_167 (b_3 (a := 2) (b := 122) bL_law (by decide +kernel)) (by decide +kernel)
theorem dL_law_712 : decode cL_law 712 = .ok (.aload_n 1, 1) := dz_43 (b_1 bL_law (by decide +kernel))
theorem dL_law_713 : decode cL_law 713 = .ok (.aload_n 0, 1) := dz_42 (b_1 bL_law (by decide +kernel))
theorem dL_law_714 : decode cL_law 714 = .ok (.iload 4, 2) := dz_21 (b_2 (a := 4) bL_law (by decide +kernel))
theorem dL_law_716 : decode cL_law 716 = .ok (.iconst 1, 1) := dz_4 (b_1 bL_law (by decide +kernel))
theorem dL_law_717 : decode cL_law 717 = .ok (.iadd, 1) := dz_96 (b_1 bL_law (by decide +kernel))
theorem dL_law_718 : decode cL_law 718 = .ok (.iaload, 1) := dz_46 (b_1 bL_law (by decide +kernel))
theorem dL_law_719 : decode cL_law 719 = .ok (.aload_n 0, 1) := dz_42 (b_1 bL_law (by decide +kernel))
theorem dL_law_720 : decode cL_law 720 = .ok (.iload 4, 2) := dz_21 (b_2 (a := 4) bL_law (by decide +kernel))
theorem dL_law_722 : decode cL_law 722 = .ok (.iconst 2, 1) := dz_5 (b_1 bL_law (by decide +kernel))
theorem dL_law_723 : decode cL_law 723 = .ok (.iadd, 1) := dz_96 (b_1 bL_law (by decide +kernel))
theorem dL_law_724 : decode cL_law 724 = .ok (.iaload, 1) := dz_46 (b_1 bL_law (by decide +kernel))
theorem dL_law_725 : decode cL_law 725 = .ok (.aload_n 0, 1) := dz_42 (b_1 bL_law (by decide +kernel))
theorem dL_law_726 : decode cL_law 726 = .ok (.iload 4, 2) := dz_21 (b_2 (a := 4) bL_law (by decide +kernel))
theorem dL_law_728 : decode cL_law 728 = .ok (.iconst 3, 1) := dz_6 (b_1 bL_law (by decide +kernel))
theorem dL_law_729 : decode cL_law 729 = .ok (.iadd, 1) := dz_96 (b_1 bL_law (by decide +kernel))
theorem dL_law_730 : decode cL_law 730 = .ok (.iaload, 1) := dz_46 (b_1 bL_law (by decide +kernel))
theorem dL_law_731 : decode cL_law 731 = .ok (.invokevirtual 78, 3) := dz_182 (b_3 (a := 0) (b := 78) bL_law (by decide +kernel))
theorem dL_law_734 : decode cL_law 734 = .ok (.pop, 1) := dz_87 (b_1 bL_law (by decide +kernel))
theorem dL_law_735 : decode cL_law 735 = .ok (.aload_n 2, 1) := dz_44 (b_1 bL_law (by decide +kernel))
theorem dL_law_736 : decode cL_law 736 = .ok (.aload_n 0, 1) := dz_42 (b_1 bL_law (by decide +kernel))
theorem dL_law_737 : decode cL_law 737 = .ok (.iload 4, 2) := dz_21 (b_2 (a := 4) bL_law (by decide +kernel))
theorem dL_law_739 : decode cL_law 739 = .ok (.iconst 1, 1) := dz_4 (b_1 bL_law (by decide +kernel))
theorem dL_law_740 : decode cL_law 740 = .ok (.iadd, 1) := dz_96 (b_1 bL_law (by decide +kernel))
theorem dL_law_741 : decode cL_law 741 = .ok (.iaload, 1) := dz_46 (b_1 bL_law (by decide +kernel))
theorem dL_law_742 : decode cL_law 742 = .ok (.aload_n 0, 1) := dz_42 (b_1 bL_law (by decide +kernel))
theorem dL_law_743 : decode cL_law 743 = .ok (.iload 4, 2) := dz_21 (b_2 (a := 4) bL_law (by decide +kernel))
theorem dL_law_745 : decode cL_law 745 = .ok (.iconst 2, 1) := dz_5 (b_1 bL_law (by decide +kernel))
theorem dL_law_746 : decode cL_law 746 = .ok (.iadd, 1) := dz_96 (b_1 bL_law (by decide +kernel))
theorem dL_law_747 : decode cL_law 747 = .ok (.iaload, 1) := dz_46 (b_1 bL_law (by decide +kernel))
theorem dL_law_748 : decode cL_law 748 = .ok (.aload_n 0, 1) := dz_42 (b_1 bL_law (by decide +kernel))
theorem dL_law_749 : decode cL_law 749 = .ok (.iload 4, 2) := dz_21 (b_2 (a := 4) bL_law (by decide +kernel))
theorem dL_law_751 : decode cL_law 751 = .ok (.iconst 3, 1) := dz_6 (b_1 bL_law (by decide +kernel))
theorem dL_law_752 : decode cL_law 752 = .ok (.iadd, 1) := dz_96 (b_1 bL_law (by decide +kernel))
theorem dL_law_753 : decode cL_law 753 = .ok (.iaload, 1) := dz_46 (b_1 bL_law (by decide +kernel))
theorem dL_law_754 : decode cL_law 754 = .ok (.invokevirtual 81, 3) := dz_182 (b_3 (a := 0) (b := 81) bL_law (by decide +kernel))
theorem dL_law_757 : decode cL_law 757 = .ok (.pop, 1) := dz_87 (b_1 bL_law (by decide +kernel))
theorem dL_law_758 : decode cL_law 758 = .ok (.goto 585, 3) := dz_167 (b_3 (a := 2) (b := 73) bL_law (by decide +kernel)) (by decide +kernel)
theorem dL_law_761 : decode cL_law 761 = .ok (.aload_n 1, 1) := dz_43 (b_1 bL_law (by decide +kernel))
theorem dL_law_762 : decode cL_law 762 = .ok (.aload_n 0, 1) := dz_42 (b_1 bL_law (by decide +kernel))
theorem dL_law_763 : decode cL_law 763 = .ok (.iload 4, 2) := dz_21 (b_2 (a := 4) bL_law (by decide +kernel))
theorem dL_law_765 : decode cL_law 765 = .ok (.iconst 1, 1) := dz_4 (b_1 bL_law (by decide +kernel))
theorem dL_law_766 : decode cL_law 766 = .ok (.iadd, 1) := dz_96 (b_1 bL_law (by decide +kernel))
theorem dL_law_767 : decode cL_law 767 = .ok (.iaload, 1) := dz_46 (b_1 bL_law (by decide +kernel))
theorem dL_law_768 : decode cL_law 768 = .ok (.aload_n 0, 1) := dz_42 (b_1 bL_law (by decide +kernel))
theorem dL_law_769 : decode cL_law 769 = .ok (.iload 4, 2) := dz_21 (b_2 (a := 4) bL_law (by decide +kernel))
theorem dL_law_771 : decode cL_law 771 = .ok (.iconst 2, 1) := dz_5 (b_1 bL_law (by decide +kernel))
theorem dL_law_772 : decode cL_law 772 = .ok (.iadd, 1) := dz_96 (b_1 bL_law (by decide +kernel))
theorem dL_law_773 : decode cL_law 773 = .ok (.iaload, 1) := dz_46 (b_1 bL_law (by decide +kernel))
theorem dL_law_774 : decode cL_law 774 = .ok (.aload_n 0, 1) := dz_42 (b_1 bL_law (by decide +kernel))
theorem dL_law_775 : decode cL_law 775 = .ok (.iload 4, 2) := dz_21 (b_2 (a := 4) bL_law (by decide +kernel))
theorem dL_law_777 : decode cL_law 777 = .ok (.iconst 3, 1) := dz_6 (b_1 bL_law (by decide +kernel))
theorem dL_law_778 : decode cL_law 778 = .ok (.iadd, 1) := dz_96 (b_1 bL_law (by decide +kernel))
theorem dL_law_779 : decode cL_law 779 = .ok (.iaload, 1) := dz_46 (b_1 bL_law (by decide +kernel))
theorem dL_law_780 : decode cL_law 780 = .ok (.aload_n 0, 1) := dz_42 (b_1 bL_law (by decide +kernel))
theorem dL_law_781 : decode cL_law 781 = .ok (.iload 4, 2) := dz_21 (b_2 (a := 4) bL_law (by decide +kernel))
theorem dL_law_783 : decode cL_law 783 = .ok (.iconst 4, 1) := dz_7 (b_1 bL_law (by decide +kernel))
theorem dL_law_784 : decode cL_law 784 = .ok (.iadd, 1) := dz_96 (b_1 bL_law (by decide +kernel))
theorem dL_law_785 : decode cL_law 785 = .ok (.iaload, 1) := dz_46 (b_1 bL_law (by decide +kernel))
theorem dL_law_786 : decode cL_law 786 = .ok (.invokevirtual 82, 3) := dz_182 (b_3 (a := 0) (b := 82) bL_law (by decide +kernel))
theorem dL_law_789 : decode cL_law 789 = .ok (.pop, 1) := dz_87 (b_1 bL_law (by decide +kernel))
theorem dL_law_790 : decode cL_law 790 = .ok (.aload_n 2, 1) := dz_44 (b_1 bL_law (by decide +kernel))
theorem dL_law_791 : decode cL_law 791 = .ok (.aload_n 0, 1) := dz_42 (b_1 bL_law (by decide +kernel))
theorem dL_law_792 : decode cL_law 792 = .ok (.iload 4, 2) := dz_21 (b_2 (a := 4) bL_law (by decide +kernel))
theorem dL_law_794 : decode cL_law 794 = .ok (.iconst 1, 1) := dz_4 (b_1 bL_law (by decide +kernel))
theorem dL_law_795 : decode cL_law 795 = .ok (.iadd, 1) := dz_96 (b_1 bL_law (by decide +kernel))
theorem dL_law_796 : decode cL_law 796 = .ok (.iaload, 1) := dz_46 (b_1 bL_law (by decide +kernel))
theorem dL_law_797 : decode cL_law 797 = .ok (.aload_n 0, 1) := dz_42 (b_1 bL_law (by decide +kernel))
theorem dL_law_798 : decode cL_law 798 = .ok (.iload 4, 2) := dz_21 (b_2 (a := 4) bL_law (by decide +kernel))
theorem dL_law_800 : decode cL_law 800 = .ok (.iconst 2, 1) := dz_5 (b_1 bL_law (by decide +kernel))
theorem dL_law_801 : decode cL_law 801 = .ok (.iadd, 1) := dz_96 (b_1 bL_law (by decide +kernel))
theorem dL_law_802 : decode cL_law 802 = .ok (.iaload, 1) := dz_46 (b_1 bL_law (by decide +kernel))
theorem dL_law_803 : decode cL_law 803 = .ok (.aload_n 0, 1) := dz_42 (b_1 bL_law (by decide +kernel))
theorem dL_law_804 : decode cL_law 804 = .ok (.iload 4, 2) := dz_21 (b_2 (a := 4) bL_law (by decide +kernel))
theorem dL_law_806 : decode cL_law 806 = .ok (.iconst 3, 1) := dz_6 (b_1 bL_law (by decide +kernel))
theorem dL_law_807 : decode cL_law 807 = .ok (.iadd, 1) := dz_96 (b_1 bL_law (by decide +kernel))
theorem dL_law_808 : decode cL_law 808 = .ok (.iaload, 1) := dz_46 (b_1 bL_law (by decide +kernel))
theorem dL_law_809 : decode cL_law 809 = .ok (.aload_n 0, 1) := dz_42 (b_1 bL_law (by decide +kernel))
theorem dL_law_810 : decode cL_law 810 = .ok (.iload 4, 2) := dz_21 (b_2 (a := 4) bL_law (by decide +kernel))
theorem dL_law_812 : decode cL_law 812 = .ok (.iconst 4, 1) := dz_7 (b_1 bL_law (by decide +kernel))
theorem dL_law_813 : decode cL_law 813 = .ok (.iadd, 1) := dz_96 (b_1 bL_law (by decide +kernel))
theorem dL_law_814 : decode cL_law 814 = .ok (.iaload, 1) := dz_46 (b_1 bL_law (by decide +kernel))
theorem dL_law_815 : decode cL_law 815 = .ok (.invokevirtual 86, 3) := dz_182 (b_3 (a := 0) (b := 86) bL_law (by decide +kernel))
theorem dL_law_818 : decode cL_law 818 = .ok (.pop, 1) := dz_87 (b_1 bL_law (by decide +kernel))
theorem dL_law_819 : decode cL_law 819 = .ok (.goto 524, 3) := dz_167 (b_3 (a := 2) (b := 12) bL_law (by decide +kernel)) (by decide +kernel)
theorem dL_law_822 : decode cL_law 822 = .ok (.aload_n 1, 1) := dz_43 (b_1 bL_law (by decide +kernel))
theorem dL_law_823 : decode cL_law 823 = .ok (.aload_n 0, 1) := dz_42 (b_1 bL_law (by decide +kernel))
theorem dL_law_824 : decode cL_law 824 = .ok (.iload 4, 2) := dz_21 (b_2 (a := 4) bL_law (by decide +kernel))
theorem dL_law_826 : decode cL_law 826 = .ok (.iconst 1, 1) := dz_4 (b_1 bL_law (by decide +kernel))
theorem dL_law_827 : decode cL_law 827 = .ok (.iadd, 1) := dz_96 (b_1 bL_law (by decide +kernel))
theorem dL_law_828 : decode cL_law 828 = .ok (.iaload, 1) := dz_46 (b_1 bL_law (by decide +kernel))
theorem dL_law_829 : decode cL_law 829 = .ok (.aload_n 0, 1) := dz_42 (b_1 bL_law (by decide +kernel))
theorem dL_law_830 : decode cL_law 830 = .ok (.iload 4, 2) := dz_21 (b_2 (a := 4) bL_law (by decide +kernel))
theorem dL_law_832 : decode cL_law 832 = .ok (.iconst 2, 1) := dz_5 (b_1 bL_law (by decide +kernel))
theorem dL_law_833 : decode cL_law 833 = .ok (.iadd, 1) := dz_96 (b_1 bL_law (by decide +kernel))
theorem dL_law_834 : decode cL_law 834 = .ok (.iaload, 1) := dz_46 (b_1 bL_law (by decide +kernel))
theorem dL_law_835 : decode cL_law 835 = .ok (.aload_n 0, 1) := dz_42 (b_1 bL_law (by decide +kernel))
theorem dL_law_836 : decode cL_law 836 = .ok (.iload 4, 2) := dz_21 (b_2 (a := 4) bL_law (by decide +kernel))
theorem dL_law_838 : decode cL_law 838 = .ok (.iconst 3, 1) := dz_6 (b_1 bL_law (by decide +kernel))
theorem dL_law_839 : decode cL_law 839 = .ok (.iadd, 1) := dz_96 (b_1 bL_law (by decide +kernel))
theorem dL_law_840 : decode cL_law 840 = .ok (.iaload, 1) := dz_46 (b_1 bL_law (by decide +kernel))
theorem dL_law_841 : decode cL_law 841 = .ok (.aload_n 0, 1) := dz_42 (b_1 bL_law (by decide +kernel))
theorem dL_law_842 : decode cL_law 842 = .ok (.iload 4, 2) := dz_21 (b_2 (a := 4) bL_law (by decide +kernel))
theorem dL_law_844 : decode cL_law 844 = .ok (.iconst 4, 1) := dz_7 (b_1 bL_law (by decide +kernel))
theorem dL_law_845 : decode cL_law 845 = .ok (.iadd, 1) := dz_96 (b_1 bL_law (by decide +kernel))
theorem dL_law_846 : decode cL_law 846 = .ok (.iaload, 1) := dz_46 (b_1 bL_law (by decide +kernel))
theorem dL_law_847 : decode cL_law 847 = .ok (.i2l, 1) := dz_133 (b_1 bL_law (by decide +kernel))
theorem dL_law_848 : decode cL_law 848 = .ok (.bipush 32, 2) := dz_16 (b_2 (a := 32) bL_law (by decide +kernel)) (by decide +kernel)
theorem dL_law_850 : decode cL_law 850 = .ok (.lshl, 1) := dz_121 (b_1 bL_law (by decide +kernel))
theorem dL_law_851 : decode cL_law 851 = .ok (.aload_n 0, 1) := dz_42 (b_1 bL_law (by decide +kernel))
theorem dL_law_852 : decode cL_law 852 = .ok (.iload 4, 2) := dz_21 (b_2 (a := 4) bL_law (by decide +kernel))
theorem dL_law_854 : decode cL_law 854 = .ok (.iconst 5, 1) := dz_8 (b_1 bL_law (by decide +kernel))
theorem dL_law_855 : decode cL_law 855 = .ok (.iadd, 1) := dz_96 (b_1 bL_law (by decide +kernel))
theorem dL_law_856 : decode cL_law 856 = .ok (.iaload, 1) := dz_46 (b_1 bL_law (by decide +kernel))
theorem dL_law_857 : decode cL_law 857 = .ok (.i2l, 1) := dz_133 (b_1 bL_law (by decide +kernel))
theorem dL_law_858 : decode cL_law 858 = .ok (.ldc2_w 32, 3) := dz_20 (b_3 (a := 0) (b := 32) bL_law (by decide +kernel))
theorem dL_law_861 : decode cL_law 861 = .ok (.land, 1) := dz_127 (b_1 bL_law (by decide +kernel))
theorem dL_law_862 : decode cL_law 862 = .ok (.lor, 1) := dz_129 (b_1 bL_law (by decide +kernel))
theorem dL_law_863 : decode cL_law 863 = .ok (.invokevirtual 87, 3) := dz_182 (b_3 (a := 0) (b := 87) bL_law (by decide +kernel))
theorem dL_law_866 : decode cL_law 866 = .ok (.pop, 1) := dz_87 (b_1 bL_law (by decide +kernel))
theorem dL_law_867 : decode cL_law 867 = .ok (.aload_n 2, 1) := dz_44 (b_1 bL_law (by decide +kernel))
theorem dL_law_868 : decode cL_law 868 = .ok (.aload_n 0, 1) := dz_42 (b_1 bL_law (by decide +kernel))
theorem dL_law_869 : decode cL_law 869 = .ok (.iload 4, 2) := dz_21 (b_2 (a := 4) bL_law (by decide +kernel))
theorem dL_law_871 : decode cL_law 871 = .ok (.iconst 1, 1) := dz_4 (b_1 bL_law (by decide +kernel))
theorem dL_law_872 : decode cL_law 872 = .ok (.iadd, 1) := dz_96 (b_1 bL_law (by decide +kernel))
theorem dL_law_873 : decode cL_law 873 = .ok (.iaload, 1) := dz_46 (b_1 bL_law (by decide +kernel))
theorem dL_law_874 : decode cL_law 874 = .ok (.aload_n 0, 1) := dz_42 (b_1 bL_law (by decide +kernel))
theorem dL_law_875 : decode cL_law 875 = .ok (.iload 4, 2) := dz_21 (b_2 (a := 4) bL_law (by decide +kernel))
theorem dL_law_877 : decode cL_law 877 = .ok (.iconst 2, 1) := dz_5 (b_1 bL_law (by decide +kernel))
theorem dL_law_878 : decode cL_law 878 = .ok (.iadd, 1) := dz_96 (b_1 bL_law (by decide +kernel))
theorem dL_law_879 : decode cL_law 879 = .ok (.iaload, 1) := dz_46 (b_1 bL_law (by decide +kernel))
theorem dL_law_880 : decode cL_law 880 = .ok (.aload_n 0, 1) := dz_42 (b_1 bL_law (by decide +kernel))
theorem dL_law_881 : decode cL_law 881 = .ok (.iload 4, 2) := dz_21 (b_2 (a := 4) bL_law (by decide +kernel))
theorem dL_law_883 : decode cL_law 883 = .ok (.iconst 3, 1) := dz_6 (b_1 bL_law (by decide +kernel))
theorem dL_law_884 : decode cL_law 884 = .ok (.iadd, 1) := dz_96 (b_1 bL_law (by decide +kernel))
theorem dL_law_885 : decode cL_law 885 = .ok (.iaload, 1) := dz_46 (b_1 bL_law (by decide +kernel))
theorem dL_law_886 : decode cL_law 886 = .ok (.aload_n 0, 1) := dz_42 (b_1 bL_law (by decide +kernel))
theorem dL_law_887 : decode cL_law 887 = .ok (.iload 4, 2) := dz_21 (b_2 (a := 4) bL_law (by decide +kernel))
theorem dL_law_889 : decode cL_law 889 = .ok (.iconst 4, 1) := dz_7 (b_1 bL_law (by decide +kernel))
theorem dL_law_890 : decode cL_law 890 = .ok (.iadd, 1) := dz_96 (b_1 bL_law (by decide +kernel))
theorem dL_law_891 : decode cL_law 891 = .ok (.iaload, 1) := dz_46 (b_1 bL_law (by decide +kernel))
theorem dL_law_892 : decode cL_law 892 = .ok (.i2l, 1) := dz_133 (b_1 bL_law (by decide +kernel))
theorem dL_law_893 : decode cL_law 893 = .ok (.bipush 32, 2) := dz_16 (b_2 (a := 32) bL_law (by decide +kernel)) (by decide +kernel)
theorem dL_law_895 : decode cL_law 895 = .ok (.lshl, 1) := dz_121 (b_1 bL_law (by decide +kernel))
theorem dL_law_896 : decode cL_law 896 = .ok (.aload_n 0, 1) := dz_42 (b_1 bL_law (by decide +kernel))
theorem dL_law_897 : decode cL_law 897 = .ok (.iload 4, 2) := dz_21 (b_2 (a := 4) bL_law (by decide +kernel))
theorem dL_law_899 : decode cL_law 899 = .ok (.iconst 5, 1) := dz_8 (b_1 bL_law (by decide +kernel))
theorem dL_law_900 : decode cL_law 900 = .ok (.iadd, 1) := dz_96 (b_1 bL_law (by decide +kernel))
theorem dL_law_901 : decode cL_law 901 = .ok (.iaload, 1) := dz_46 (b_1 bL_law (by decide +kernel))
theorem dL_law_902 : decode cL_law 902 = .ok (.i2l, 1) := dz_133 (b_1 bL_law (by decide +kernel))
theorem dL_law_903 : decode cL_law 903 = .ok (.ldc2_w 32, 3) := dz_20 (b_3 (a := 0) (b := 32) bL_law (by decide +kernel))
theorem dL_law_906 : decode cL_law 906 = .ok (.land, 1) := dz_127 (b_1 bL_law (by decide +kernel))
theorem dL_law_907 : decode cL_law 907 = .ok (.lor, 1) := dz_129 (b_1 bL_law (by decide +kernel))
theorem dL_law_908 : decode cL_law 908 = .ok (.invokevirtual 90, 3) := dz_182 (b_3 (a := 0) (b := 90) bL_law (by decide +kernel))
theorem dL_law_911 : decode cL_law 911 = .ok (.pop, 1) := dz_87 (b_1 bL_law (by decide +kernel))
theorem dL_law_912 : decode cL_law 912 = .ok (.goto 431, 3) := dz_167 (b_3 (a := 1) (b := 175) bL_law (by decide +kernel)) (by decide +kernel)
theorem dL_law_915 : decode cL_law 915 = .ok (.aload_n 1, 1) := dz_43 (b_1 bL_law (by decide +kernel))
theorem dL_law_916 : decode cL_law 916 = .ok (.aload_n 0, 1) := dz_42 (b_1 bL_law (by decide +kernel))
theorem dL_law_917 : decode cL_law 917 = .ok (.iload 4, 2) := dz_21 (b_2 (a := 4) bL_law (by decide +kernel))
theorem dL_law_919 : decode cL_law 919 = .ok (.iconst 1, 1) := dz_4 (b_1 bL_law (by decide +kernel))
theorem dL_law_920 : decode cL_law 920 = .ok (.iadd, 1) := dz_96 (b_1 bL_law (by decide +kernel))
theorem dL_law_921 : decode cL_law 921 = .ok (.iaload, 1) := dz_46 (b_1 bL_law (by decide +kernel))
theorem dL_law_922 : decode cL_law 922 = .ok (.aload_n 0, 1) := dz_42 (b_1 bL_law (by decide +kernel))
theorem dL_law_923 : decode cL_law 923 = .ok (.iload 4, 2) := dz_21 (b_2 (a := 4) bL_law (by decide +kernel))
theorem dL_law_925 : decode cL_law 925 = .ok (.iconst 2, 1) := dz_5 (b_1 bL_law (by decide +kernel))
theorem dL_law_926 : decode cL_law 926 = .ok (.iadd, 1) := dz_96 (b_1 bL_law (by decide +kernel))
theorem dL_law_927 : decode cL_law 927 = .ok (.iaload, 1) := dz_46 (b_1 bL_law (by decide +kernel))
theorem dL_law_928 : decode cL_law 928 = .ok (.aload_n 3, 1) := dz_45 (b_1 bL_law (by decide +kernel))
theorem dL_law_929 : decode cL_law 929 = .ok (.invokestatic 91, 3) := dz_184 (b_3 (a := 0) (b := 91) bL_law (by decide +kernel))
theorem dL_law_932 : decode cL_law 932 = .ok (.istore 5, 2) := dz_54 (b_2 (a := 5) bL_law (by decide +kernel))
theorem dL_law_934 : decode cL_law 934 = .ok (.aload_n 2, 1) := dz_44 (b_1 bL_law (by decide +kernel))
theorem dL_law_935 : decode cL_law 935 = .ok (.aload_n 0, 1) := dz_42 (b_1 bL_law (by decide +kernel))
theorem dL_law_936 : decode cL_law 936 = .ok (.iload 4, 2) := dz_21 (b_2 (a := 4) bL_law (by decide +kernel))
theorem dL_law_938 : decode cL_law 938 = .ok (.iconst 1, 1) := dz_4 (b_1 bL_law (by decide +kernel))
theorem dL_law_939 : decode cL_law 939 = .ok (.iadd, 1) := dz_96 (b_1 bL_law (by decide +kernel))
theorem dL_law_940 : decode cL_law 940 = .ok (.iaload, 1) := dz_46 (b_1 bL_law (by decide +kernel))
theorem dL_law_941 : decode cL_law 941 = .ok (.aload_n 0, 1) := dz_42 (b_1 bL_law (by decide +kernel))
theorem dL_law_942 : decode cL_law 942 = .ok (.iload 4, 2) := dz_21 (b_2 (a := 4) bL_law (by decide +kernel))
theorem dL_law_944 : decode cL_law 944 = .ok (.iconst 2, 1) := dz_5 (b_1 bL_law (by decide +kernel))
theorem dL_law_945 : decode cL_law 945 = .ok (.iadd, 1) := dz_96 (b_1 bL_law (by decide +kernel))
theorem dL_law_946 : decode cL_law 946 = .ok (.iaload, 1) := dz_46 (b_1 bL_law (by decide +kernel))
theorem dL_law_947 : decode cL_law 947 = .ok (.invokevirtual 96, 3) := dz_182 (b_3 (a := 0) (b := 96) bL_law (by decide +kernel))
theorem dL_law_950 : decode cL_law 950 = .ok (.lstore 6, 2) := dz_55 (b_2 (a := 6) bL_law (by decide +kernel))
theorem dL_law_952 : decode cL_law 952 = .ok (.goto 391, 3) := dz_167 (b_3 (a := 1) (b := 135) bL_law (by decide +kernel)) (by decide +kernel)
theorem dL_law_955 : decode cL_law 955 = .ok (.aload_n 1, 1) := dz_43 (b_1 bL_law (by decide +kernel))
theorem dL_law_956 : decode cL_law 956 = .ok (.aload_n 0, 1) := dz_42 (b_1 bL_law (by decide +kernel))
theorem dL_law_957 : decode cL_law 957 = .ok (.iload 4, 2) := dz_21 (b_2 (a := 4) bL_law (by decide +kernel))
theorem dL_law_959 : decode cL_law 959 = .ok (.iconst 1, 1) := dz_4 (b_1 bL_law (by decide +kernel))
theorem dL_law_960 : decode cL_law 960 = .ok (.iadd, 1) := dz_96 (b_1 bL_law (by decide +kernel))
theorem dL_law_961 : decode cL_law 961 = .ok (.iaload, 1) := dz_46 (b_1 bL_law (by decide +kernel))
theorem dL_law_962 : decode cL_law 962 = .ok (.aload_n 0, 1) := dz_42 (b_1 bL_law (by decide +kernel))
theorem dL_law_963 : decode cL_law 963 = .ok (.iload 4, 2) := dz_21 (b_2 (a := 4) bL_law (by decide +kernel))
theorem dL_law_965 : decode cL_law 965 = .ok (.iconst 2, 1) := dz_5 (b_1 bL_law (by decide +kernel))
theorem dL_law_966 : decode cL_law 966 = .ok (.iadd, 1) := dz_96 (b_1 bL_law (by decide +kernel))
theorem dL_law_967 : decode cL_law 967 = .ok (.iaload, 1) := dz_46 (b_1 bL_law (by decide +kernel))
theorem dL_law_968 : decode cL_law 968 = .ok (.aload_n 0, 1) := dz_42 (b_1 bL_law (by decide +kernel))
theorem dL_law_969 : decode cL_law 969 = .ok (.iload 4, 2) := dz_21 (b_2 (a := 4) bL_law (by decide +kernel))
theorem dL_law_971 : decode cL_law 971 = .ok (.iconst 3, 1) := dz_6 (b_1 bL_law (by decide +kernel))
theorem dL_law_972 : decode cL_law 972 = .ok (.iadd, 1) := dz_96 (b_1 bL_law (by decide +kernel))
theorem dL_law_973 : decode cL_law 973 = .ok (.iaload, 1) := dz_46 (b_1 bL_law (by decide +kernel))
theorem dL_law_974 : decode cL_law 974 = .ok (.aload_n 3, 1) := dz_45 (b_1 bL_law (by decide +kernel))
theorem dL_law_975 : decode cL_law 975 = .ok (.invokestatic 97, 3) := dz_184 (b_3 (a := 0) (b := 97) bL_law (by decide +kernel))
theorem dL_law_978 : decode cL_law 978 = .ok (.istore 5, 2) := dz_54 (b_2 (a := 5) bL_law (by decide +kernel))
theorem dL_law_980 : decode cL_law 980 = .ok (.aload_n 2, 1) := dz_44 (b_1 bL_law (by decide +kernel))
theorem dL_law_981 : decode cL_law 981 = .ok (.aload_n 0, 1) := dz_42 (b_1 bL_law (by decide +kernel))
theorem dL_law_982 : decode cL_law 982 = .ok (.iload 4, 2) := dz_21 (b_2 (a := 4) bL_law (by decide +kernel))
theorem dL_law_984 : decode cL_law 984 = .ok (.iconst 1, 1) := dz_4 (b_1 bL_law (by decide +kernel))
theorem dL_law_985 : decode cL_law 985 = .ok (.iadd, 1) := dz_96 (b_1 bL_law (by decide +kernel))
theorem dL_law_986 : decode cL_law 986 = .ok (.iaload, 1) := dz_46 (b_1 bL_law (by decide +kernel))
theorem dL_law_987 : decode cL_law 987 = .ok (.aload_n 0, 1) := dz_42 (b_1 bL_law (by decide +kernel))
theorem dL_law_988 : decode cL_law 988 = .ok (.iload 4, 2) := dz_21 (b_2 (a := 4) bL_law (by decide +kernel))
theorem dL_law_990 : decode cL_law 990 = .ok (.iconst 2, 1) := dz_5 (b_1 bL_law (by decide +kernel))
theorem dL_law_991 : decode cL_law 991 = .ok (.iadd, 1) := dz_96 (b_1 bL_law (by decide +kernel))
theorem dL_law_992 : decode cL_law 992 = .ok (.iaload, 1) := dz_46 (b_1 bL_law (by decide +kernel))
theorem dL_law_993 : decode cL_law 993 = .ok (.aload_n 0, 1) := dz_42 (b_1 bL_law (by decide +kernel))
theorem dL_law_994 : decode cL_law 994 = .ok (.iload 4, 2) := dz_21 (b_2 (a := 4) bL_law (by decide +kernel))
theorem dL_law_996 : decode cL_law 996 = .ok (.iconst 3, 1) := dz_6 (b_1 bL_law (by decide +kernel))
theorem dL_law_997 : decode cL_law 997 = .ok (.iadd, 1) := dz_96 (b_1 bL_law (by decide +kernel))
theorem dL_law_998 : decode cL_law 998 = .ok (.iaload, 1) := dz_46 (b_1 bL_law (by decide +kernel))
theorem dL_law_999 : decode cL_law 999 = .ok (.invokevirtual 100, 3) := dz_182 (b_3 (a := 0) (b := 100) bL_law (by decide +kernel))
theorem dL_law_1002 : decode cL_law 1002 = .ok (.lstore 6, 2) := dz_55 (b_2 (a := 6) bL_law (by decide +kernel))
theorem dL_law_1004 : decode cL_law 1004 = .ok (.goto 339, 3) := dz_167 (b_3 (a := 1) (b := 83) bL_law (by decide +kernel)) (by decide +kernel)
theorem dL_law_1007 : decode cL_law 1007 = .ok (.aload_n 1, 1) := dz_43 (b_1 bL_law (by decide +kernel))
theorem dL_law_1008 : decode cL_law 1008 = .ok (.invokevirtual 101, 3) := dz_182 (b_3 (a := 0) (b := 101) bL_law (by decide +kernel))
theorem dL_law_1011 : decode cL_law 1011 = .ok (.pop, 1) := dz_87 (b_1 bL_law (by decide +kernel))
theorem dL_law_1012 : decode cL_law 1012 = .ok (.aload_n 2, 1) := dz_44 (b_1 bL_law (by decide +kernel))
theorem dL_law_1013 : decode cL_law 1013 = .ok (.invokevirtual 104, 3) := dz_182 (b_3 (a := 0) (b := 104) bL_law (by decide +kernel))
theorem dL_law_1016 : decode cL_law 1016 = .ok (.pop, 1) := dz_87 (b_1 bL_law (by decide +kernel))
theorem dL_law_1017 : decode cL_law 1017 = .ok (.goto 326, 3) := dz_167 (b_3 (a := 1) (b := 70) bL_law (by decide +kernel)) (by decide +kernel)
theorem dL_law_1020 : decode cL_law 1020 = .ok (.aload_n 1, 1) := dz_43 (b_1 bL_law (by decide +kernel))
theorem dL_law_1021 : decode cL_law 1021 = .ok (.aload_n 0, 1) := dz_42 (b_1 bL_law (by decide +kernel))
theorem dL_law_1022 : decode cL_law 1022 = .ok (.iload 4, 2) := dz_21 (b_2 (a := 4) bL_law (by decide +kernel))
theorem dL_law_1024 : decode cL_law 1024 = .ok (.iconst 1, 1) := dz_4 (b_1 bL_law (by decide +kernel))
theorem dL_law_1025 : decode cL_law 1025 = .ok (.iadd, 1) := dz_96 (b_1 bL_law (by decide +kernel))
theorem dL_law_1026 : decode cL_law 1026 = .ok (.iaload, 1) := dz_46 (b_1 bL_law (by decide +kernel))
theorem dL_law_1027 : decode cL_law 1027 = .ok (.aload_n 0, 1) := dz_42 (b_1 bL_law (by decide +kernel))
theorem dL_law_1028 : decode cL_law 1028 = .ok (.iload 4, 2) := dz_21 (b_2 (a := 4) bL_law (by decide +kernel))
theorem dL_law_1030 : decode cL_law 1030 = .ok (.iconst 2, 1) := dz_5 (b_1 bL_law (by decide +kernel))
theorem dL_law_1031 : decode cL_law 1031 = .ok (.iadd, 1) := dz_96 (b_1 bL_law (by decide +kernel))
theorem dL_law_1032 : decode cL_law 1032 = .ok (.iaload, 1) := dz_46 (b_1 bL_law (by decide +kernel))
theorem dL_law_1033 : decode cL_law 1033 = .ok (.invokevirtual 105, 3) := dz_182 (b_3 (a := 0) (b := 105) bL_law (by decide +kernel))
theorem dL_law_1036 : decode cL_law 1036 = .ok (.pop, 1) := dz_87 (b_1 bL_law (by decide +kernel))
theorem dL_law_1037 : decode cL_law 1037 = .ok (.aload_n 2, 1) := dz_44 (b_1 bL_law (by decide +kernel))
theorem dL_law_1038 : decode cL_law 1038 = .ok (.aload_n 0, 1) := dz_42 (b_1 bL_law (by decide +kernel))
theorem dL_law_1039 : decode cL_law 1039 = .ok (.iload 4, 2) := dz_21 (b_2 (a := 4) bL_law (by decide +kernel))
theorem dL_law_1041 : decode cL_law 1041 = .ok (.iconst 1, 1) := dz_4 (b_1 bL_law (by decide +kernel))
theorem dL_law_1042 : decode cL_law 1042 = .ok (.iadd, 1) := dz_96 (b_1 bL_law (by decide +kernel))
theorem dL_law_1043 : decode cL_law 1043 = .ok (.iaload, 1) := dz_46 (b_1 bL_law (by decide +kernel))
theorem dL_law_1044 : decode cL_law 1044 = .ok (.aload_n 0, 1) := dz_42 (b_1 bL_law (by decide +kernel))
theorem dL_law_1045 : decode cL_law 1045 = .ok (.iload 4, 2) := dz_21 (b_2 (a := 4) bL_law (by decide +kernel))
theorem dL_law_1047 : decode cL_law 1047 = .ok (.iconst 2, 1) := dz_5 (b_1 bL_law (by decide +kernel))
theorem dL_law_1048 : decode cL_law 1048 = .ok (.iadd, 1) := dz_96 (b_1 bL_law (by decide +kernel))
theorem dL_law_1049 : decode cL_law 1049 = .ok (.iaload, 1) := dz_46 (b_1 bL_law (by decide +kernel))
theorem dL_law_1050 : decode cL_law 1050 = .ok (.invokevirtual 108, 3) := dz_182 (b_3 (a := 0) (b := 108) bL_law (by decide +kernel))
theorem dL_law_1053 : decode cL_law 1053 = .ok (.pop, 1) := dz_87 (b_1 bL_law (by decide +kernel))
theorem dL_law_1054 : decode cL_law 1054 = .ok (.goto 289, 3) := dz_167 (b_3 (a := 1) (b := 33) bL_law (by decide +kernel)) (by decide +kernel)
theorem dL_law_1057 : decode cL_law 1057 = .ok (.aload_n 1, 1) := dz_43 (b_1 bL_law (by decide +kernel))
theorem dL_law_1058 : decode cL_law 1058 = .ok (.aload_n 0, 1) := dz_42 (b_1 bL_law (by decide +kernel))
theorem dL_law_1059 : decode cL_law 1059 = .ok (.iload 4, 2) := dz_21 (b_2 (a := 4) bL_law (by decide +kernel))
theorem dL_law_1061 : decode cL_law 1061 = .ok (.iconst 1, 1) := dz_4 (b_1 bL_law (by decide +kernel))
theorem dL_law_1062 : decode cL_law 1062 = .ok (.iadd, 1) := dz_96 (b_1 bL_law (by decide +kernel))
theorem dL_law_1063 : decode cL_law 1063 = .ok (.iaload, 1) := dz_46 (b_1 bL_law (by decide +kernel))
theorem dL_law_1064 : decode cL_law 1064 = .ok (.invokevirtual 109, 3) := dz_182 (b_3 (a := 0) (b := 109) bL_law (by decide +kernel))
theorem dL_law_1067 : decode cL_law 1067 = .ok (.pop, 1) := dz_87 (b_1 bL_law (by decide +kernel))
theorem dL_law_1068 : decode cL_law 1068 = .ok (.aload_n 2, 1) := dz_44 (b_1 bL_law (by decide +kernel))
theorem dL_law_1069 : decode cL_law 1069 = .ok (.aload_n 0, 1) := dz_42 (b_1 bL_law (by decide +kernel))
theorem dL_law_1070 : decode cL_law 1070 = .ok (.iload 4, 2) := dz_21 (b_2 (a := 4) bL_law (by decide +kernel))
theorem dL_law_1072 : decode cL_law 1072 = .ok (.iconst 1, 1) := dz_4 (b_1 bL_law (by decide +kernel))
theorem dL_law_1073 : decode cL_law 1073 = .ok (.iadd, 1) := dz_96 (b_1 bL_law (by decide +kernel))
theorem dL_law_1074 : decode cL_law 1074 = .ok (.iaload, 1) := dz_46 (b_1 bL_law (by decide +kernel))
theorem dL_law_1075 : decode cL_law 1075 = .ok (.invokevirtual 112, 3) := dz_182 (b_3 (a := 0) (b := 112) bL_law (by decide +kernel))
theorem dL_law_1078 : decode cL_law 1078 = .ok (.pop, 1) := dz_87 (b_1 bL_law (by decide +kernel))
theorem dL_law_1079 : decode cL_law 1079 = .ok (.goto 264, 3) := dz_167 (b_3 (a := 1) (b := 8) bL_law (by decide +kernel)) (by decide +kernel)
theorem dL_law_1082 : decode cL_law 1082 = .ok (.aload_n 1, 1) := dz_43 (b_1 bL_law (by decide +kernel))
theorem dL_law_1083 : decode cL_law 1083 = .ok (.aload_n 0, 1) := dz_42 (b_1 bL_law (by decide +kernel))
theorem dL_law_1084 : decode cL_law 1084 = .ok (.iload 4, 2) := dz_21 (b_2 (a := 4) bL_law (by decide +kernel))
theorem dL_law_1086 : decode cL_law 1086 = .ok (.iconst 1, 1) := dz_4 (b_1 bL_law (by decide +kernel))
theorem dL_law_1087 : decode cL_law 1087 = .ok (.iadd, 1) := dz_96 (b_1 bL_law (by decide +kernel))
theorem dL_law_1088 : decode cL_law 1088 = .ok (.iaload, 1) := dz_46 (b_1 bL_law (by decide +kernel))
theorem dL_law_1089 : decode cL_law 1089 = .ok (.aload_n 0, 1) := dz_42 (b_1 bL_law (by decide +kernel))
theorem dL_law_1090 : decode cL_law 1090 = .ok (.iload 4, 2) := dz_21 (b_2 (a := 4) bL_law (by decide +kernel))
theorem dL_law_1092 : decode cL_law 1092 = .ok (.iconst 2, 1) := dz_5 (b_1 bL_law (by decide +kernel))
theorem dL_law_1093 : decode cL_law 1093 = .ok (.iadd, 1) := dz_96 (b_1 bL_law (by decide +kernel))
theorem dL_law_1094 : decode cL_law 1094 = .ok (.iaload, 1) := dz_46 (b_1 bL_law (by decide +kernel))
theorem dL_law_1095 : decode cL_law 1095 = .ok (.invokevirtual 113, 3) := dz_182 (b_3 (a := 0) (b := 113) bL_law (by decide +kernel))
theorem dL_law_1098 : decode cL_law 1098 = .ok (.pop, 1) := dz_87 (b_1 bL_law (by decide +kernel))
theorem dL_law_1099 : decode cL_law 1099 = .ok (.aload_n 2, 1) := dz_44 (b_1 bL_law (by decide +kernel))
theorem dL_law_1100 : decode cL_law 1100 = .ok (.aload_n 0, 1) := dz_42 (b_1 bL_law (by decide +kernel))
theorem dL_law_1101 : decode cL_law 1101 = .ok (.iload 4, 2) := dz_21 (b_2 (a := 4) bL_law (by decide +kernel))
theorem dL_law_1103 : decode cL_law 1103 = .ok (.iconst 1, 1) := dz_4 (b_1 bL_law (by decide +kernel))
theorem dL_law_1104 : decode cL_law 1104 = .ok (.iadd, 1) := dz_96 (b_1 bL_law (by decide +kernel))
theorem dL_law_1105 : decode cL_law 1105 = .ok (.iaload, 1) := dz_46 (b_1 bL_law (by decide +kernel))
theorem dL_law_1106 : decode cL_law 1106 = .ok (.aload_n 0, 1) := dz_42 (b_1 bL_law (by decide +kernel))
theorem dL_law_1107 : decode cL_law 1107 = .ok (.iload 4, 2) := dz_21 (b_2 (a := 4) bL_law (by decide +kernel))
theorem dL_law_1109 : decode cL_law 1109 = .ok (.iconst 2, 1) := dz_5 (b_1 bL_law (by decide +kernel))
theorem dL_law_1110 : decode cL_law 1110 = .ok (.iadd, 1) := dz_96 (b_1 bL_law (by decide +kernel))
theorem dL_law_1111 : decode cL_law 1111 = .ok (.iaload, 1) := dz_46 (b_1 bL_law (by decide +kernel))
theorem dL_law_1112 : decode cL_law 1112 = .ok (.invokevirtual 116, 3) := dz_182 (b_3 (a := 0) (b := 116) bL_law (by decide +kernel))
theorem dL_law_1115 : decode cL_law 1115 = .ok (.pop, 1) := dz_87 (b_1 bL_law (by decide +kernel))
theorem dL_law_1116 : decode cL_law 1116 = .ok (.goto 227, 3) := dz_167 (b_3 (a := 0) (b := 227) bL_law (by decide +kernel)) (by decide +kernel)
theorem dL_law_1119 : decode cL_law 1119 = .ok (.aload_n 1, 1) := dz_43 (b_1 bL_law (by decide +kernel))
theorem dL_law_1120 : decode cL_law 1120 = .ok (.aload_n 0, 1) := dz_42 (b_1 bL_law (by decide +kernel))
theorem dL_law_1121 : decode cL_law 1121 = .ok (.iload 4, 2) := dz_21 (b_2 (a := 4) bL_law (by decide +kernel))
theorem dL_law_1123 : decode cL_law 1123 = .ok (.iconst 1, 1) := dz_4 (b_1 bL_law (by decide +kernel))
theorem dL_law_1124 : decode cL_law 1124 = .ok (.iadd, 1) := dz_96 (b_1 bL_law (by decide +kernel))
theorem dL_law_1125 : decode cL_law 1125 = .ok (.iaload, 1) := dz_46 (b_1 bL_law (by decide +kernel))
theorem dL_law_1126 : decode cL_law 1126 = .ok (.aload_n 0, 1) := dz_42 (b_1 bL_law (by decide +kernel))
theorem dL_law_1127 : decode cL_law 1127 = .ok (.iload 4, 2) := dz_21 (b_2 (a := 4) bL_law (by decide +kernel))
theorem dL_law_1129 : decode cL_law 1129 = .ok (.iconst 2, 1) := dz_5 (b_1 bL_law (by decide +kernel))
theorem dL_law_1130 : decode cL_law 1130 = .ok (.iadd, 1) := dz_96 (b_1 bL_law (by decide +kernel))
theorem dL_law_1131 : decode cL_law 1131 = .ok (.iaload, 1) := dz_46 (b_1 bL_law (by decide +kernel))
theorem dL_law_1132 : decode cL_law 1132 = .ok (.invokevirtual 117, 3) := dz_182 (b_3 (a := 0) (b := 117) bL_law (by decide +kernel))
theorem dL_law_1135 : decode cL_law 1135 = .ok (.pop, 1) := dz_87 (b_1 bL_law (by decide +kernel))
theorem dL_law_1136 : decode cL_law 1136 = .ok (.aload_n 2, 1) := dz_44 (b_1 bL_law (by decide +kernel))
theorem dL_law_1137 : decode cL_law 1137 = .ok (.aload_n 0, 1) := dz_42 (b_1 bL_law (by decide +kernel))
theorem dL_law_1138 : decode cL_law 1138 = .ok (.iload 4, 2) := dz_21 (b_2 (a := 4) bL_law (by decide +kernel))
theorem dL_law_1140 : decode cL_law 1140 = .ok (.iconst 1, 1) := dz_4 (b_1 bL_law (by decide +kernel))
theorem dL_law_1141 : decode cL_law 1141 = .ok (.iadd, 1) := dz_96 (b_1 bL_law (by decide +kernel))
theorem dL_law_1142 : decode cL_law 1142 = .ok (.iaload, 1) := dz_46 (b_1 bL_law (by decide +kernel))
theorem dL_law_1143 : decode cL_law 1143 = .ok (.aload_n 0, 1) := dz_42 (b_1 bL_law (by decide +kernel))
theorem dL_law_1144 : decode cL_law 1144 = .ok (.iload 4, 2) := dz_21 (b_2 (a := 4) bL_law (by decide +kernel))
theorem dL_law_1146 : decode cL_law 1146 = .ok (.iconst 2, 1) := dz_5 (b_1 bL_law (by decide +kernel))
theorem dL_law_1147 : decode cL_law 1147 = .ok (.iadd, 1) := dz_96 (b_1 bL_law (by decide +kernel))
theorem dL_law_1148 : decode cL_law 1148 = .ok (.iaload, 1) := dz_46 (b_1 bL_law (by decide +kernel))
theorem dL_law_1149 : decode cL_law 1149 = .ok (.invokevirtual 120, 3) := dz_182 (b_3 (a := 0) (b := 120) bL_law (by decide +kernel))
theorem dL_law_1152 : decode cL_law 1152 = .ok (.pop, 1) := dz_87 (b_1 bL_law (by decide +kernel))
theorem dL_law_1153 : decode cL_law 1153 = .ok (.goto 190, 3) := dz_167 (b_3 (a := 0) (b := 190) bL_law (by decide +kernel)) (by decide +kernel)
theorem dL_law_1156 : decode cL_law 1156 = .ok (.aload_n 1, 1) := dz_43 (b_1 bL_law (by decide +kernel))
theorem dL_law_1157 : decode cL_law 1157 = .ok (.aload_n 0, 1) := dz_42 (b_1 bL_law (by decide +kernel))
theorem dL_law_1158 : decode cL_law 1158 = .ok (.iload 4, 2) := dz_21 (b_2 (a := 4) bL_law (by decide +kernel))
theorem dL_law_1160 : decode cL_law 1160 = .ok (.iconst 1, 1) := dz_4 (b_1 bL_law (by decide +kernel))
theorem dL_law_1161 : decode cL_law 1161 = .ok (.iadd, 1) := dz_96 (b_1 bL_law (by decide +kernel))
theorem dL_law_1162 : decode cL_law 1162 = .ok (.iaload, 1) := dz_46 (b_1 bL_law (by decide +kernel))
theorem dL_law_1163 : decode cL_law 1163 = .ok (.aload_n 0, 1) := dz_42 (b_1 bL_law (by decide +kernel))
theorem dL_law_1164 : decode cL_law 1164 = .ok (.iload 4, 2) := dz_21 (b_2 (a := 4) bL_law (by decide +kernel))
theorem dL_law_1166 : decode cL_law 1166 = .ok (.iconst 2, 1) := dz_5 (b_1 bL_law (by decide +kernel))
theorem dL_law_1167 : decode cL_law 1167 = .ok (.iadd, 1) := dz_96 (b_1 bL_law (by decide +kernel))
theorem dL_law_1168 : decode cL_law 1168 = .ok (.iaload, 1) := dz_46 (b_1 bL_law (by decide +kernel))
theorem dL_law_1169 : decode cL_law 1169 = .ok (.invokevirtual 121, 3) := dz_182 (b_3 (a := 0) (b := 121) bL_law (by decide +kernel))
theorem dL_law_1172 : decode cL_law 1172 = .ok (.aload_n 2, 1) := dz_44 (b_1 bL_law (by decide +kernel))
theorem dL_law_1173 : decode cL_law 1173 = .ok (.aload_n 0, 1) := dz_42 (b_1 bL_law (by decide +kernel))
theorem dL_law_1174 : decode cL_law 1174 = .ok (.iload 4, 2) := dz_21 (b_2 (a := 4) bL_law (by decide +kernel))
theorem dL_law_1176 : decode cL_law 1176 = .ok (.iconst 1, 1) := dz_4 (b_1 bL_law (by decide +kernel))
theorem dL_law_1177 : decode cL_law 1177 = .ok (.iadd, 1) := dz_96 (b_1 bL_law (by decide +kernel))
theorem dL_law_1178 : decode cL_law 1178 = .ok (.iaload, 1) := dz_46 (b_1 bL_law (by decide +kernel))
theorem dL_law_1179 : decode cL_law 1179 = .ok (.aload_n 0, 1) := dz_42 (b_1 bL_law (by decide +kernel))
theorem dL_law_1180 : decode cL_law 1180 = .ok (.iload 4, 2) := dz_21 (b_2 (a := 4) bL_law (by decide +kernel))
theorem dL_law_1182 : decode cL_law 1182 = .ok (.iconst 2, 1) := dz_5 (b_1 bL_law (by decide +kernel))
theorem dL_law_1183 : decode cL_law 1183 = .ok (.iadd, 1) := dz_96 (b_1 bL_law (by decide +kernel))
theorem dL_law_1184 : decode cL_law 1184 = .ok (.iaload, 1) := dz_46 (b_1 bL_law (by decide +kernel))
theorem dL_law_1185 : decode cL_law 1185 = .ok (.invokevirtual 124, 3) := dz_182 (b_3 (a := 0) (b := 124) bL_law (by decide +kernel))
theorem dL_law_1188 : decode cL_law 1188 = .ok (.if_icmp .eq 155, 3) := dz_159 (b_3 (a := 0) (b := 155) bL_law (by decide +kernel)) (by decide +kernel)
theorem dL_law_1191 : decode cL_law 1191 = .ok (.iconst 0, 1) := dz_3 (b_1 bL_law (by decide +kernel))
theorem dL_law_1192 : decode cL_law 1192 = .ok (.ireturn, 1) := dz_172 (b_1 bL_law (by decide +kernel))
theorem dL_law_1193 : decode cL_law 1193 = .ok (.aload_n 1, 1) := dz_43 (b_1 bL_law (by decide +kernel))
theorem dL_law_1194 : decode cL_law 1194 = .ok (.aload_n 0, 1) := dz_42 (b_1 bL_law (by decide +kernel))
theorem dL_law_1195 : decode cL_law 1195 = .ok (.iload 4, 2) := dz_21 (b_2 (a := 4) bL_law (by decide +kernel))
theorem dL_law_1197 : decode cL_law 1197 = .ok (.iconst 1, 1) := dz_4 (b_1 bL_law (by decide +kernel))
theorem dL_law_1198 : decode cL_law 1198 = .ok (.iadd, 1) := dz_96 (b_1 bL_law (by decide +kernel))
theorem dL_law_1199 : decode cL_law 1199 = .ok (.iaload, 1) := dz_46 (b_1 bL_law (by decide +kernel))
theorem dL_law_1200 : decode cL_law 1200 = .ok (.invokevirtual 125, 3) := dz_182 (b_3 (a := 0) (b := 125) bL_law (by decide +kernel))
theorem dL_law_1203 : decode cL_law 1203 = .ok (.pop, 1) := dz_87 (b_1 bL_law (by decide +kernel))
theorem dL_law_1204 : decode cL_law 1204 = .ok (.aload_n 2, 1) := dz_44 (b_1 bL_law (by decide +kernel))
theorem dL_law_1205 : decode cL_law 1205 = .ok (.aload_n 0, 1) := dz_42 (b_1 bL_law (by decide +kernel))
theorem dL_law_1206 : decode cL_law 1206 = .ok (.iload 4, 2) := dz_21 (b_2 (a := 4) bL_law (by decide +kernel))
theorem dL_law_1208 : decode cL_law 1208 = .ok (.iconst 1, 1) := dz_4 (b_1 bL_law (by decide +kernel))
theorem dL_law_1209 : decode cL_law 1209 = .ok (.iadd, 1) := dz_96 (b_1 bL_law (by decide +kernel))
theorem dL_law_1210 : decode cL_law 1210 = .ok (.iaload, 1) := dz_46 (b_1 bL_law (by decide +kernel))
theorem dL_law_1211 : decode cL_law 1211 = .ok (.invokevirtual 128, 3) := dz_182 (b_3 (a := 0) (b := 128) bL_law (by decide +kernel))
theorem dL_law_1214 : decode cL_law 1214 = .ok (.pop, 1) := dz_87 (b_1 bL_law (by decide +kernel))
theorem dL_law_1215 : decode cL_law 1215 = .ok (.goto 128, 3) := dz_167 (b_3 (a := 0) (b := 128) bL_law (by decide +kernel)) (by decide +kernel)
theorem dL_law_1218 : decode cL_law 1218 = .ok (.aload_n 1, 1) := dz_43 (b_1 bL_law (by decide +kernel))
theorem dL_law_1219 : decode cL_law 1219 = .ok (.aload_n 0, 1) := dz_42 (b_1 bL_law (by decide +kernel))
theorem dL_law_1220 : decode cL_law 1220 = .ok (.iload 4, 2) := dz_21 (b_2 (a := 4) bL_law (by decide +kernel))
theorem dL_law_1222 : decode cL_law 1222 = .ok (.iconst 1, 1) := dz_4 (b_1 bL_law (by decide +kernel))
theorem dL_law_1223 : decode cL_law 1223 = .ok (.iadd, 1) := dz_96 (b_1 bL_law (by decide +kernel))
theorem dL_law_1224 : decode cL_law 1224 = .ok (.iaload, 1) := dz_46 (b_1 bL_law (by decide +kernel))
theorem dL_law_1225 : decode cL_law 1225 = .ok (.aload_n 0, 1) := dz_42 (b_1 bL_law (by decide +kernel))
theorem dL_law_1226 : decode cL_law 1226 = .ok (.iload 4, 2) := dz_21 (b_2 (a := 4) bL_law (by decide +kernel))
theorem dL_law_1228 : decode cL_law 1228 = .ok (.iconst 2, 1) := dz_5 (b_1 bL_law (by decide +kernel))
theorem dL_law_1229 : decode cL_law 1229 = .ok (.iadd, 1) := dz_96 (b_1 bL_law (by decide +kernel))
theorem dL_law_1230 : decode cL_law 1230 = .ok (.iaload, 1) := dz_46 (b_1 bL_law (by decide +kernel))
theorem dL_law_1231 : decode cL_law 1231 = .ok (.invokevirtual 129, 3) := dz_182 (b_3 (a := 0) (b := 129) bL_law (by decide +kernel))
theorem dL_law_1234 : decode cL_law 1234 = .ok (.pop, 1) := dz_87 (b_1 bL_law (by decide +kernel))
theorem dL_law_1235 : decode cL_law 1235 = .ok (.aload_n 2, 1) := dz_44 (b_1 bL_law (by decide +kernel))
theorem dL_law_1236 : decode cL_law 1236 = .ok (.aload_n 0, 1) := dz_42 (b_1 bL_law (by decide +kernel))
theorem dL_law_1237 : decode cL_law 1237 = .ok (.iload 4, 2) := dz_21 (b_2 (a := 4) bL_law (by decide +kernel))
theorem dL_law_1239 : decode cL_law 1239 = .ok (.iconst 1, 1) := dz_4 (b_1 bL_law (by decide +kernel))
theorem dL_law_1240 : decode cL_law 1240 = .ok (.iadd, 1) := dz_96 (b_1 bL_law (by decide +kernel))
theorem dL_law_1241 : decode cL_law 1241 = .ok (.iaload, 1) := dz_46 (b_1 bL_law (by decide +kernel))
theorem dL_law_1242 : decode cL_law 1242 = .ok (.aload_n 0, 1) := dz_42 (b_1 bL_law (by decide +kernel))
theorem dL_law_1243 : decode cL_law 1243 = .ok (.iload 4, 2) := dz_21 (b_2 (a := 4) bL_law (by decide +kernel))
theorem dL_law_1245 : decode cL_law 1245 = .ok (.iconst 2, 1) := dz_5 (b_1 bL_law (by decide +kernel))
theorem dL_law_1246 : decode cL_law 1246 = .ok (.iadd, 1) := dz_96 (b_1 bL_law (by decide +kernel))
theorem dL_law_1247 : decode cL_law 1247 = .ok (.iaload, 1) := dz_46 (b_1 bL_law (by decide +kernel))
theorem dL_law_1248 : decode cL_law 1248 = .ok (.invokevirtual 132, 3) := dz_182 (b_3 (a := 0) (b := 132) bL_law (by decide +kernel))
theorem dL_law_1251 : decode cL_law 1251 = .ok (.pop, 1) := dz_87 (b_1 bL_law (by decide +kernel))
theorem dL_law_1252 : decode cL_law 1252 = .ok (.goto 91, 3) := dz_167 (b_3 (a := 0) (b := 91) bL_law (by decide +kernel)) (by decide +kernel)
theorem dL_law_1255 : decode cL_law 1255 = .ok (.aload_n 1, 1) := dz_43 (b_1 bL_law (by decide +kernel))
theorem dL_law_1256 : decode cL_law 1256 = .ok (.aload_n 0, 1) := dz_42 (b_1 bL_law (by decide +kernel))
theorem dL_law_1257 : decode cL_law 1257 = .ok (.iload 4, 2) := dz_21 (b_2 (a := 4) bL_law (by decide +kernel))
theorem dL_law_1259 : decode cL_law 1259 = .ok (.iconst 1, 1) := dz_4 (b_1 bL_law (by decide +kernel))
theorem dL_law_1260 : decode cL_law 1260 = .ok (.iadd, 1) := dz_96 (b_1 bL_law (by decide +kernel))
theorem dL_law_1261 : decode cL_law 1261 = .ok (.iaload, 1) := dz_46 (b_1 bL_law (by decide +kernel))
theorem dL_law_1262 : decode cL_law 1262 = .ok (.aload_n 0, 1) := dz_42 (b_1 bL_law (by decide +kernel))
theorem dL_law_1263 : decode cL_law 1263 = .ok (.iload 4, 2) := dz_21 (b_2 (a := 4) bL_law (by decide +kernel))
theorem dL_law_1265 : decode cL_law 1265 = .ok (.iconst 2, 1) := dz_5 (b_1 bL_law (by decide +kernel))
theorem dL_law_1266 : decode cL_law 1266 = .ok (.iadd, 1) := dz_96 (b_1 bL_law (by decide +kernel))
theorem dL_law_1267 : decode cL_law 1267 = .ok (.iaload, 1) := dz_46 (b_1 bL_law (by decide +kernel))
theorem dL_law_1268 : decode cL_law 1268 = .ok (.invokevirtual 133, 3) := dz_182 (b_3 (a := 0) (b := 133) bL_law (by decide +kernel))
theorem dL_law_1271 : decode cL_law 1271 = .ok (.pop, 1) := dz_87 (b_1 bL_law (by decide +kernel))
theorem dL_law_1272 : decode cL_law 1272 = .ok (.aload_n 2, 1) := dz_44 (b_1 bL_law (by decide +kernel))
theorem dL_law_1273 : decode cL_law 1273 = .ok (.aload_n 0, 1) := dz_42 (b_1 bL_law (by decide +kernel))
theorem dL_law_1274 : decode cL_law 1274 = .ok (.iload 4, 2) := dz_21 (b_2 (a := 4) bL_law (by decide +kernel))
theorem dL_law_1276 : decode cL_law 1276 = .ok (.iconst 1, 1) := dz_4 (b_1 bL_law (by decide +kernel))
theorem dL_law_1277 : decode cL_law 1277 = .ok (.iadd, 1) := dz_96 (b_1 bL_law (by decide +kernel))
theorem dL_law_1278 : decode cL_law 1278 = .ok (.iaload, 1) := dz_46 (b_1 bL_law (by decide +kernel))
theorem dL_law_1279 : decode cL_law 1279 = .ok (.aload_n 0, 1) := dz_42 (b_1 bL_law (by decide +kernel))
theorem dL_law_1280 : decode cL_law 1280 = .ok (.iload 4, 2) := dz_21 (b_2 (a := 4) bL_law (by decide +kernel))
theorem dL_law_1282 : decode cL_law 1282 = .ok (.iconst 2, 1) := dz_5 (b_1 bL_law (by decide +kernel))
theorem dL_law_1283 : decode cL_law 1283 = .ok (.iadd, 1) := dz_96 (b_1 bL_law (by decide +kernel))
theorem dL_law_1284 : decode cL_law 1284 = .ok (.iaload, 1) := dz_46 (b_1 bL_law (by decide +kernel))
theorem dL_law_1285 : decode cL_law 1285 = .ok (.invokevirtual 136, 3) := dz_182 (b_3 (a := 0) (b := 136) bL_law (by decide +kernel))
theorem dL_law_1288 : decode cL_law 1288 = .ok (.pop, 1) := dz_87 (b_1 bL_law (by decide +kernel))
theorem dL_law_1289 : decode cL_law 1289 = .ok (.goto 54, 3) := dz_167 (b_3 (a := 0) (b := 54) bL_law (by decide +kernel)) (by decide +kernel)
theorem dL_law_1292 : decode cL_law 1292 = .ok (.aload_n 1, 1) := dz_43 (b_1 bL_law (by decide +kernel))
theorem dL_law_1293 : decode cL_law 1293 = .ok (.invokevirtual 137, 3) := dz_182 (b_3 (a := 0) (b := 137) bL_law (by decide +kernel))
theorem dL_law_1296 : decode cL_law 1296 = .ok (.pop, 1) := dz_87 (b_1 bL_law (by decide +kernel))
theorem dL_law_1297 : decode cL_law 1297 = .ok (.aload_n 2, 1) := dz_44 (b_1 bL_law (by decide +kernel))
theorem dL_law_1298 : decode cL_law 1298 = .ok (.invokevirtual 140, 3) := dz_182 (b_3 (a := 0) (b := 140) bL_law (by decide +kernel))
theorem dL_law_1301 : decode cL_law 1301 = .ok (.pop, 1) := dz_87 (b_1 bL_law (by decide +kernel))
theorem dL_law_1302 : decode cL_law 1302 = .ok (.goto 41, 3) := dz_167 (b_3 (a := 0) (b := 41) bL_law (by decide +kernel)) (by decide +kernel)
theorem dL_law_1305 : decode cL_law 1305 = .ok (.aload_n 1, 1) := dz_43 (b_1 bL_law (by decide +kernel))
theorem dL_law_1306 : decode cL_law 1306 = .ok (.invokevirtual 141, 3) := dz_182 (b_3 (a := 0) (b := 141) bL_law (by decide +kernel))
theorem dL_law_1309 : decode cL_law 1309 = .ok (.pop, 1) := dz_87 (b_1 bL_law (by decide +kernel))
theorem dL_law_1310 : decode cL_law 1310 = .ok (.aload_n 2, 1) := dz_44 (b_1 bL_law (by decide +kernel))
theorem dL_law_1311 : decode cL_law 1311 = .ok (.invokevirtual 144, 3) := dz_182 (b_3 (a := 0) (b := 144) bL_law (by decide +kernel))
theorem dL_law_1314 : decode cL_law 1314 = .ok (.pop, 1) := dz_87 (b_1 bL_law (by decide +kernel))
theorem dL_law_1315 : decode cL_law 1315 = .ok (.goto 28, 3) := dz_167 (b_3 (a := 0) (b := 28) bL_law (by decide +kernel)) (by decide +kernel)
theorem dL_law_1318 : decode cL_law 1318 = .ok (.aload_n 1, 1) := dz_43 (b_1 bL_law (by decide +kernel))
theorem dL_law_1319 : decode cL_law 1319 = .ok (.aload_n 0, 1) := dz_42 (b_1 bL_law (by decide +kernel))
theorem dL_law_1320 : decode cL_law 1320 = .ok (.iload 4, 2) := dz_21 (b_2 (a := 4) bL_law (by decide +kernel))
theorem dL_law_1322 : decode cL_law 1322 = .ok (.iconst 1, 1) := dz_4 (b_1 bL_law (by decide +kernel))
theorem dL_law_1323 : decode cL_law 1323 = .ok (.iadd, 1) := dz_96 (b_1 bL_law (by decide +kernel))
theorem dL_law_1324 : decode cL_law 1324 = .ok (.iaload, 1) := dz_46 (b_1 bL_law (by decide +kernel))
theorem dL_law_1325 : decode cL_law 1325 = .ok (.invokevirtual 145, 3) := dz_182 (b_3 (a := 0) (b := 145) bL_law (by decide +kernel))
theorem dL_law_1328 : decode cL_law 1328 = .ok (.pop, 1) := dz_87 (b_1 bL_law (by decide +kernel))
theorem dL_law_1329 : decode cL_law 1329 = .ok (.aload_n 2, 1) := dz_44 (b_1 bL_law (by decide +kernel))
theorem dL_law_1330 : decode cL_law 1330 = .ok (.aload_n 0, 1) := dz_42 (b_1 bL_law (by decide +kernel))
theorem dL_law_1331 : decode cL_law 1331 = .ok (.iload 4, 2) := dz_21 (b_2 (a := 4) bL_law (by decide +kernel))
theorem dL_law_1333 : decode cL_law 1333 = .ok (.iconst 1, 1) := dz_4 (b_1 bL_law (by decide +kernel))
theorem dL_law_1334 : decode cL_law 1334 = .ok (.iadd, 1) := dz_96 (b_1 bL_law (by decide +kernel))
theorem dL_law_1335 : decode cL_law 1335 = .ok (.iaload, 1) := dz_46 (b_1 bL_law (by decide +kernel))
theorem dL_law_1336 : decode cL_law 1336 = .ok (.invokevirtual 148, 3) := dz_182 (b_3 (a := 0) (b := 148) bL_law (by decide +kernel))
theorem dL_law_1339 : decode cL_law 1339 = .ok (.pop, 1) := dz_87 (b_1 bL_law (by decide +kernel))
theorem dL_law_1340 : decode cL_law 1340 = .ok (.goto 3, 3) := dz_167 (b_3 (a := 0) (b := 3) bL_law (by decide +kernel)) (by decide +kernel)
theorem dL_law_1343 : decode cL_law 1343 = .ok (.iinc 4 7, 3) := dz_132 (b_3 (a := 4) (b := 7) bL_law (by decide +kernel)) (by decide +kernel)
theorem dL_law_1346 : decode cL_law 1346 = .ok (.goto (-1323), 3) := dz_167 (b_3 (a := 250) (b := 213) bL_law (by decide +kernel)) (by decide +kernel)
theorem dL_law_1349 : decode cL_law 1349 = .ok (.iconst 1, 1) := dz_4 (b_1 bL_law (by decide +kernel))
theorem dL_law_1350 : decode cL_law 1350 = .ok (.ireturn, 1) := dz_172 (b_1 bL_law (by decide +kernel))
abbrev vwCl : List vw_C := [(RX0, TX0, 4), (RX1, TX1, 4), (RX2, TX2, 4), (RX3, TX3, 4), (RX4, TX4, 9), (RX5, TX5, 2), (RX6, TX6, 4), (RX7, TX7, 8), (RX8, TX8, 12), (RX9, TX9, 51)]
theorem gj_X0_init_0 : GpS ([.methodLink RX0 1 objectInit, .instanceMethod objectInit, .code objectInit ⟨#[0xb1]⟩ 1 none, .fieldLink RX0 7 "StateRecords$Check" "kind" "I", .fieldLink RX0 13 "StateRecords$Check" "a" "I", .fieldLink RX0 16 "StateRecords$Check" "b" "I", .fieldLink RX0 19 "StateRecords$Check" "v" "J"]) wsX0_init := fun w h => List.mem_cons_of_mem _ (List.mem_append_left _ (h))
theorem gj_X1_init_0 : GpS ([.methodLink RX1 1 objectInit, .instanceMethod objectInit, .code objectInit ⟨#[0xb1]⟩ 1 none]) wsX1_init := fun w h => List.mem_cons_of_mem _ (h)
theorem gj_X1_tell_0 : GpS ([.fieldLink RX1 7 "StateRecords$Fault" "isTold" "Z", .fieldLink RX1 13 "StateRecords$Fault" "record" "I", .fieldLink RX1 17 "StateRecords$Fault" "name" "I", .fieldLink RX1 20 "StateRecords$Fault" "check" "I"]) wsX1_tell := fun w h => List.mem_cons_of_mem _ (List.mem_append_left _ (h))
theorem gj_X2_addMark_0 : GpS ([.fieldLink RX2 17 "StateRecords$Journal" "starts" "[I", .fieldLink RX2 45 "StateRecords$Journal" "markCount" "I", .fieldLink RX2 22 "StateRecords$Journal" "noteCount" "I"]) wsX2_addMark := fun w h => List.mem_cons_of_mem _ (List.mem_append_left _ (h))
theorem gj_X2_isFull_0 : GpS ([.fieldLink RX2 22 "StateRecords$Journal" "noteCount" "I"]) wsX2_isFull := fun w h => List.mem_cons_of_mem _ (List.mem_append_left _ (h))
theorem gj_X3_init_0 : GpS ([.methodLink RX3 1 objectInit, .instanceMethod objectInit, .code objectInit ⟨#[0xb1]⟩ 1 none]) wsX3_init := fun w h => List.mem_cons_of_mem _ (h)
theorem gj_X3_takeBack_0 : GpS ([.fieldLink RX3 7 "StateRecords$Note" "thing" "LStateRecords$Thing;", .fieldLink RX3 13 "StateRecords$Thing" "values" "[J", .fieldLink RX3 19 "StateRecords$Note" "index" "I", .fieldLink RX3 23 "StateRecords$Note" "value" "J", .fieldLink RX3 27 "StateRecords$Thing" "rows" "[LStateRecords$Row;", .fieldLink RX3 31 "StateRecords$Note" "row" "LStateRecords$Row;", .fieldLink RX3 35 "StateRecords$Row" "items" "[J"]) wsX3_takeBack := fun w h => List.mem_cons_of_mem _ (List.mem_append_left _ (List.mem_append_left _ (List.mem_append_left _ (h))))
theorem gj_X4_hasItemsOf_0 : GpS ([.fieldLink RX4 28 "StateRecords$Records" "rowLengths" "[I", .fieldLink RX4 31 "StateRecords$Records" "items" "[J"]) wsX4_hasItemsOf := fun w h => List.mem_cons_of_mem _ (List.mem_append_left _ (h))
theorem gj_X4_hasShapeOf_0 : GpS ([.fieldLink RX4 47 "StateRecords$Records" "recordCount" "I", .fieldLink RX4 9 "StateRecords$Records" "types" "[I", .fieldLink RX4 15 "StateRecords$Records" "fieldCounts" "[I", .fieldLink RX4 18 "StateRecords$Records" "names" "[I", .fieldLink RX4 21 "StateRecords$Records" "lanes" "[I"]) wsX4_hasShapeOf := fun w h => List.mem_cons_of_mem _ (List.mem_append_left _ (h))
theorem gj_X4_init_0 : GpS ([.methodLink RX4 3 objectInit, .instanceMethod objectInit, .code objectInit ⟨#[0xb1]⟩ 1 none, .arrayClass .int, .fieldLink RX4 9 "StateRecords$Records" "types" "[I", .fieldLink RX4 15 "StateRecords$Records" "fieldCounts" "[I", .fieldLink RX4 18 "StateRecords$Records" "names" "[I", .fieldLink RX4 21 "StateRecords$Records" "lanes" "[I", .arrayClass .long, .fieldLink RX4 24 "StateRecords$Records" "values" "[J", .fieldLink RX4 28 "StateRecords$Records" "rowLengths" "[I", .fieldLink RX4 31 "StateRecords$Records" "items" "[J"]) wsX4_init := fun w h => List.mem_cons_of_mem _ (List.mem_append_left _ (h))
theorem gj_X4_numberOf_0 : GpS ([.fieldLink RX4 34 "StateRecords$Row" "number" "I", .fieldLink RX4 40 "StateRecords$Records" "rowCount" "I", .fieldLink RX4 28 "StateRecords$Records" "rowLengths" "[I", .fieldLink RX4 43 "StateRecords$Row" "items" "[J", .fieldLink RX4 31 "StateRecords$Records" "items" "[J"]) wsX4_numberOf := fun w h => List.mem_cons_of_mem _ (List.mem_append_left _ (List.mem_append_left _ (h)))
theorem gj_X5_init_0 : GpS ([.methodLink RX5 1 objectInit, .instanceMethod objectInit, .code objectInit ⟨#[0xb1]⟩ 1 none, .arrayClass .long, .fieldLink RX5 7 "StateRecords$Row" "items" "[J"]) wsX5_init := fun w h => List.mem_cons_of_mem _ (List.mem_append_left _ (h))
theorem gj_X6_forgetNumbers_0 : GpS ([.fieldLink RX6 38 "StateRecords$Thing" "recordNumber" "I", .fieldLink RX6 21 "StateRecords$Thing" "type" "LStateRecords$Type;", .fieldLink RX6 25 "StateRecords$Type" "fieldCount" "I", .fieldLink RX6 17 "StateRecords$Thing" "rows" "[LStateRecords$Row;", .fieldLink RX6 41 "StateRecords$Row" "number" "I"]) wsX6_forgetNumbers := fun w h => List.mem_cons_of_mem _ (List.mem_append_left _ (List.mem_append_left _ (List.mem_append_left _ (h))))
theorem gj_X6_init_0 : GpS ([.methodLink RX6 3 objectInit, .instanceMethod objectInit, .code objectInit ⟨#[0xb1]⟩ 1 none, .arrayClass .long, .fieldLink RX6 9 "StateRecords$Thing" "values" "[J", .classLink RX6 15 RX5, .fieldLink RX6 17 "StateRecords$Thing" "rows" "[LStateRecords$Row;"]) wsX6_init := fun w h => List.mem_cons_of_mem _ (List.mem_append_left _ (h))
theorem gj_X6_removeField_0 : GpS ([.fieldLink RX6 9 "StateRecords$Thing" "values" "[J", .fieldLink RX6 17 "StateRecords$Thing" "rows" "[LStateRecords$Row;"]) wsX6_removeField := fun w h => List.mem_cons_of_mem _ (List.mem_append_left _ (h))
theorem gj_X6_setDefault_0 : GpS ([.fieldLink RX6 9 "StateRecords$Thing" "values" "[J", .fieldLink RX6 21 "StateRecords$Thing" "type" "LStateRecords$Type;", .fieldLink RX6 35 "StateRecords$Type" "defaults" "[J", .fieldLink RX6 17 "StateRecords$Thing" "rows" "[LStateRecords$Row;"]) wsX6_setDefault := fun w h => List.mem_cons_of_mem _ (List.mem_append_left _ (List.mem_append_left _ (h)))
theorem gj_X7_addField_0 : GpS ([.fieldLink RX7 36 "StateRecords$Type" "fieldCount" "I", .fieldLink RX7 9 "StateRecords$Type" "names" "[I", .fieldLink RX7 15 "StateRecords$Type" "lanes" "[I", .fieldLink RX7 18 "StateRecords$Type" "defaults" "[J", .fieldLink RX7 22 "StateRecords$Type" "shuts" "[Z"]) wsX7_addField := fun w h => List.mem_cons_of_mem _ (List.mem_append_left _ (h))
theorem gj_X7_fieldNamed_0 : GpS ([.fieldLink RX7 36 "StateRecords$Type" "fieldCount" "I", .fieldLink RX7 9 "StateRecords$Type" "names" "[I"]) wsX7_fieldNamed := fun w h => List.mem_cons_of_mem _ (List.mem_append_left _ (h))
theorem gj_X7_init_0 : GpS ([.methodLink RX7 3 objectInit, .instanceMethod objectInit, .code objectInit ⟨#[0xb1]⟩ 1 none, .arrayClass .int, .fieldLink RX7 9 "StateRecords$Type" "names" "[I", .fieldLink RX7 15 "StateRecords$Type" "lanes" "[I", .arrayClass .long, .fieldLink RX7 18 "StateRecords$Type" "defaults" "[J", .arrayClass .boolean, .fieldLink RX7 22 "StateRecords$Type" "shuts" "[Z", .classLink RX7 26 RX0, .fieldLink RX7 28 "StateRecords$Type" "checks" "[LStateRecords$Check;", .fieldLink RX7 32 "StateRecords$Type" "number" "I"]) wsX7_init := fun w h => List.mem_cons_of_mem _ (List.mem_append_left _ (h))
theorem gj_X7_removeField_0 : GpS ([.fieldLink RX7 36 "StateRecords$Type" "fieldCount" "I", .fieldLink RX7 9 "StateRecords$Type" "names" "[I", .fieldLink RX7 15 "StateRecords$Type" "lanes" "[I", .fieldLink RX7 18 "StateRecords$Type" "defaults" "[J", .fieldLink RX7 22 "StateRecords$Type" "shuts" "[Z"]) wsX7_removeField := fun w h => List.mem_cons_of_mem _ (List.mem_append_left _ (h))
theorem gj_X8_count_0 : GpS ([.fieldLink RX8 63 "StateRecords" "typeCount" "I", .fieldLink RX8 94 "StateRecords" "thingCount" "I", .fieldLink RX8 51 "StateRecords" "journal" "LStateRecords$Journal;", .fieldLink RX8 82 "StateRecords$Journal" "markCount" "I", .fieldLink RX8 272 "StateRecords$Journal" "noteCount" "I"]) wsX8_count := fun w h => List.mem_cons_of_mem _ (List.mem_append_left _ (List.mem_append_left _ (h)))
theorem gj_X8_failed_0 : GpS ([]) wsX8_failed := fun w h => List.mem_cons_of_mem _ (h)
theorem gj_X8_fault_0 : GpS ([.fieldLink RX8 58 "StateRecords" "latestFault" "LStateRecords$Fault;", .fieldLink RX8 248 "StateRecords$Fault" "isTold" "Z", .fieldLink RX8 252 "StateRecords$Fault" "record" "I", .fieldLink RX8 255 "StateRecords$Fault" "name" "I", .fieldLink RX8 258 "StateRecords$Fault" "check" "I"]) wsX8_fault := fun w h => List.mem_cons_of_mem _ (List.mem_append_left _ (List.mem_append_left _ (h)))
theorem gj_X8_firstShutSlot_0 : GpS ([.fieldLink RX8 231 "StateRecords$Records" "recordCount" "I", .fieldLink RX8 39 "StateRecords" "recorded" "[LStateRecords$Thing;", .fieldLink RX8 97 "StateRecords$Thing" "type" "LStateRecords$Type;", .fieldLink RX8 85 "StateRecords$Type" "fieldCount" "I", .fieldLink RX8 112 "StateRecords$Type" "shuts" "[Z"]) wsX8_firstShutSlot := fun w h => List.mem_cons_of_mem _ (List.mem_append_left _ (List.mem_append_left _ (List.mem_append_left _ (List.mem_append_left _ (h)))))
theorem gj_X8_forget_0 : GpS ([.fieldLink RX8 51 "StateRecords" "journal" "LStateRecords$Journal;", .fieldLink RX8 82 "StateRecords$Journal" "markCount" "I", .fieldLink RX8 94 "StateRecords" "thingCount" "I"]) wsX8_forget := fun w h => List.mem_cons_of_mem _ (List.mem_append_left _ (List.mem_append_left _ (h)))
theorem gj_X8_isBelow_0 : GpS ([]) wsX8_isBelow := fun w h => List.mem_cons_of_mem _ (h)
theorem gj_X8_isRowLane_0 : GpS ([]) wsX8_isRowLane := fun w h => List.mem_cons_of_mem _ (h)
theorem gj_X8_isWordInUse_0 : GpS ([.constantLong RX8 275 (16), .fieldLink RX8 21 "StateRecords" "wordsInUse" "[Z"]) wsX8_isWordInUse := fun w h => List.mem_cons_of_mem _ (List.mem_append_left _ (h))
theorem gj_X8_lowestBits_0 : GpS ([]) wsX8_lowestBits := fun w h => List.mem_cons_of_mem _ (h)
theorem gj_X8_recordNumberOf_0 : GpS ([.fieldLink RX8 333 "StateRecords$Thing" "recordNumber" "I", .fieldLink RX8 231 "StateRecords$Records" "recordCount" "I", .fieldLink RX8 39 "StateRecords" "recorded" "[LStateRecords$Thing;", .fieldLink RX8 336 "StateRecords$Records" "types" "[I", .fieldLink RX8 97 "StateRecords$Thing" "type" "LStateRecords$Type;", .fieldLink RX8 205 "StateRecords$Type" "number" "I", .fieldLink RX8 338 "StateRecords$Records" "fieldCounts" "[I", .fieldLink RX8 85 "StateRecords$Type" "fieldCount" "I"]) wsX8_recordNumberOf := fun w h => List.mem_cons_of_mem _ (List.mem_append_left _ (List.mem_append_left _ (List.mem_append_left _ (List.mem_append_left _ (h)))))
theorem gj_X8_thingNumbered_0 : GpS ([.fieldLink RX8 94 "StateRecords" "thingCount" "I", .fieldLink RX8 17 "StateRecords" "things" "[LStateRecords$Thing;"]) wsX8_thingNumbered := fun w h => List.mem_cons_of_mem _ (List.mem_append_left _ (h))
theorem gj_X9_count_0 : GpS ([.fieldLink RX9 145 "StateRecordsModel" "code" "I", .fieldLink RX9 148 "StateRecordsModel" "types" "I", .fieldLink RX9 151 "StateRecordsModel" "things" "I", .fieldLink RX9 165 "StateRecordsModel" "marks" "I", .fieldLink RX9 173 "StateRecordsModel" "notes" "I"]) wsX9_count := fun w h => List.mem_cons_of_mem _ (List.mem_append_left _ (h))
theorem gj_X9_cut_0 : GpS ([]) wsX9_cut := fun w h => List.mem_cons_of_mem _ (h)
theorem gj_X9_fault_0 : GpS ([.fieldLink RX9 145 "StateRecordsModel" "code" "I", .fieldLink RX9 117 "StateRecordsModel" "faultRecord" "I", .fieldLink RX9 121 "StateRecordsModel" "faultName" "I", .fieldLink RX9 124 "StateRecordsModel" "faultCheck" "I"]) wsX9_fault := fun w h => List.mem_cons_of_mem _ (List.mem_append_left _ (h))
theorem gj_X9_faulty_0 : GpS ([.fieldLink RX9 117 "StateRecordsModel" "faultRecord" "I", .fieldLink RX9 121 "StateRecordsModel" "faultName" "I", .fieldLink RX9 124 "StateRecordsModel" "faultCheck" "I"]) wsX9_faulty := fun w h => List.mem_cons_of_mem _ (List.mem_append_left _ (h))
theorem gj_X9_forget_0 : GpS ([.fieldLink RX9 145 "StateRecordsModel" "code" "I", .fieldLink RX9 165 "StateRecordsModel" "marks" "I", .fieldLink RX9 151 "StateRecordsModel" "things" "I"]) wsX9_forget := fun w h => List.mem_cons_of_mem _ (List.mem_append_left _ (h))
theorem gj_X9_goes_0 : GpS ([]) wsX9_goes := fun w h => List.mem_cons_of_mem _ (h)
theorem gj_X9_init_0 : GpS (wsX9_init_r1) wsX9_init := fun w h => List.mem_cons_of_mem _ (List.mem_append_left _ (List.mem_append_left _ (h)))
theorem gj_X9_init_1 : GpS (wsX9_init_r2) wsX9_init := fun w h => List.mem_cons_of_mem _ (List.mem_append_left _ (List.mem_append_right _ (List.mem_append_left _ (h))))
theorem gj_X9_init_2 : GpS (wsX9_init_r3) wsX9_init := fun w h => List.mem_cons_of_mem _ (List.mem_append_left _ (List.mem_append_right _ (List.mem_append_right _ (h))))
theorem gj_X9_isFull_0 : GpS ([.fieldLink RX9 165 "StateRecordsModel" "marks" "I", .fieldLink RX9 173 "StateRecordsModel" "notes" "I"]) wsX9_isFull := fun w h => List.mem_cons_of_mem _ (List.mem_append_left _ (h))
theorem gj_X9_isSave_0 : GpS ([]) wsX9_isSave := fun w h => List.mem_cons_of_mem _ (h)
theorem gj_X9_isThing_0 : GpS ([.fieldLink RX9 151 "StateRecordsModel" "things" "I"]) wsX9_isThing := fun w h => List.mem_cons_of_mem _ (List.mem_append_left _ (h))
theorem gj_X9_isType_0 : GpS ([.fieldLink RX9 148 "StateRecordsModel" "types" "I"]) wsX9_isType := fun w h => List.mem_cons_of_mem _ (List.mem_append_left _ (h))
theorem gj_X9_lane_0 : GpS ([.fieldLink RX9 20 "StateRecordsModel" "fLane" "[I", .fieldLink RX9 45 "StateRecordsModel" "xType" "[I"]) wsX9_lane := fun w h => List.mem_cons_of_mem _ (List.mem_append_left _ (h))
theorem gj_X9_mark_0 : GpS ([.fieldLink RX9 145 "StateRecordsModel" "code" "I", .fieldLink RX9 165 "StateRecordsModel" "marks" "I", .fieldLink RX9 63 "StateRecordsModel" "markAt" "[I", .fieldLink RX9 173 "StateRecordsModel" "notes" "I"]) wsX9_mark := fun w h => List.mem_cons_of_mem _ (List.mem_append_left _ (h))
theorem gj_X9_meets_0 : GpS ([.fieldLink RX9 130 "StateRecordsModel" "mate" "[I", .fieldLink RX9 133 "StateRecordsModel" "mateBack" "[I", .fieldLink RX9 142 "StateRecordsModel" "queue" "[I", .fieldLink RX9 240 "StateRecordsModel" "queued" "I"]) wsX9_meets := fun w h => List.mem_cons_of_mem _ (List.mem_append_left _ (h))
theorem gj_X9_named_0 : GpS ([.fieldLink RX9 13 "StateRecordsModel" "fMany" "[I", .fieldLink RX9 17 "StateRecordsModel" "fName" "[I"]) wsX9_named := fun w h => List.mem_cons_of_mem _ (List.mem_append_left _ (h))
theorem gj_X9_recordOf_0 : GpS ([.fieldLink RX9 81 "StateRecordsModel" "sMany" "[I", .fieldLink RX9 111 "StateRecordsModel" "order" "[I"]) wsX9_recordOf := fun w h => List.mem_cons_of_mem _ (List.mem_append_left _ (h))
theorem gj_X9_rowOf_0 : GpS ([.fieldLink RX9 99 "StateRecordsModel" "sRows" "[I", .fieldLink RX9 114 "StateRecordsModel" "rowOrder" "[I", .fieldLink RX9 102 "StateRecordsModel" "sRowLane" "[I", .fieldLink RX9 51 "StateRecordsModel" "rLane" "[I", .fieldLink RX9 105 "StateRecordsModel" "sRowMany" "[I", .fieldLink RX9 54 "StateRecordsModel" "rMany" "[I", .fieldLink RX9 108 "StateRecordsModel" "sRowItems" "[J", .fieldLink RX9 57 "StateRecordsModel" "rItems" "[J"]) wsX9_rowOf := fun w h => List.mem_cons_of_mem _ (List.mem_append_left _ (h))
theorem gj_X9_rowsDiffer_0 : GpS ([.fieldLink RX9 102 "StateRecordsModel" "sRowLane" "[I", .fieldLink RX9 105 "StateRecordsModel" "sRowMany" "[I", .fieldLink RX9 108 "StateRecordsModel" "sRowItems" "[J"]) wsX9_rowsDiffer := fun w h => List.mem_cons_of_mem _ (List.mem_append_left _ (h))
theorem gj_X9_rowsMeet_0 : GpS ([.fieldLink RX9 136 "StateRecordsModel" "rowMate" "[I", .fieldLink RX9 139 "StateRecordsModel" "rowMateBack" "[I", .fieldLink RX9 54 "StateRecordsModel" "rMany" "[I", .fieldLink RX9 57 "StateRecordsModel" "rItems" "[J"]) wsX9_rowsMeet := fun w h => List.mem_cons_of_mem _ (List.mem_append_left _ (h))
theorem gj_X9_type_0 : GpS ([.fieldLink RX9 145 "StateRecordsModel" "code" "I", .fieldLink RX9 148 "StateRecordsModel" "types" "I", .fieldLink RX9 13 "StateRecordsModel" "fMany" "[I", .fieldLink RX9 30 "StateRecordsModel" "cMany" "[I"]) wsX9_type := fun w h => List.mem_cons_of_mem _ (List.mem_append_left _ (h))
theorem gj_X9_undo_0 : GpS ([.fieldLink RX9 145 "StateRecordsModel" "code" "I", .fieldLink RX9 165 "StateRecordsModel" "marks" "I", .fieldLink RX9 173 "StateRecordsModel" "notes" "I", .fieldLink RX9 63 "StateRecordsModel" "markAt" "[I", .fieldLink RX9 75 "StateRecordsModel" "noteItem" "[I", .fieldLink RX9 48 "StateRecordsModel" "xVal" "[J", .fieldLink RX9 66 "StateRecordsModel" "noteThing" "[I", .fieldLink RX9 69 "StateRecordsModel" "noteField" "[I", .fieldLink RX9 78 "StateRecordsModel" "noteWas" "[J", .fieldLink RX9 57 "StateRecordsModel" "rItems" "[J", .fieldLink RX9 72 "StateRecordsModel" "noteRow" "[I"]) wsX9_undo := fun w h => List.mem_cons_of_mem _ (List.mem_append_left _ (h))
theorem gj_X9_word_0 : GpS ([.fieldLink RX9 145 "StateRecordsModel" "code" "I", .fieldLink RX9 7 "StateRecordsModel" "isOut" "[Z"]) wsX9_word := fun w h => List.mem_cons_of_mem _ (List.mem_append_left _ (h))
theorem hk_X1 : RX1 ≠ "java/lang/invoke/MethodHandle" ∧ RX1 ≠ "java/lang/invoke/VarHandle" := by decide +kernel
theorem hk_X2 : RX2 ≠ "java/lang/invoke/MethodHandle" ∧ RX2 ≠ "java/lang/invoke/VarHandle" := by decide +kernel
theorem hk_X3 : RX3 ≠ "java/lang/invoke/MethodHandle" ∧ RX3 ≠ "java/lang/invoke/VarHandle" := by decide +kernel
theorem hk_X4 : RX4 ≠ "java/lang/invoke/MethodHandle" ∧ RX4 ≠ "java/lang/invoke/VarHandle" := by decide +kernel
theorem hk_X6 : RX6 ≠ "java/lang/invoke/MethodHandle" ∧ RX6 ≠ "java/lang/invoke/VarHandle" := by decide +kernel
theorem hk_X7 : RX7 ≠ "java/lang/invoke/MethodHandle" ∧ RX7 ≠ "java/lang/invoke/VarHandle" := by decide +kernel
theorem hk_X8 : RX8 ≠ "java/lang/invoke/MethodHandle" ∧ RX8 ≠ "java/lang/invoke/VarHandle" := by decide +kernel
theorem hk_X9 : RX9 ≠ "java/lang/invoke/MethodHandle" ∧ RX9 ≠ "java/lang/invoke/VarHandle" := by decide +kernel
theorem pd_0 : (parseMethodDescriptor "(III)V").map (fun d => d.parameters.length) = some 3 := by decide +kernel
theorem hd_X1_tell : yX1_tell.cls = RX1 ∧ yX1_tell.cls ≠ "java/lang/invoke/MethodHandle" ∧ yX1_tell.cls ≠ "java/lang/invoke/VarHandle" ∧ (parseMethodDescriptor yX1_tell.desc).map (fun d => d.parameters.length) = some 3 := by first | exact ⟨rfl, hk_X1.1, hk_X1.2, pd_0⟩ | decide +kernel
theorem pd_1 : (parseMethodDescriptor "()V").map (fun d => d.parameters.length) = some 0 := by decide +kernel
theorem hd_X2_addMark : yX2_addMark.cls = RX2 ∧ yX2_addMark.cls ≠ "java/lang/invoke/MethodHandle" ∧ yX2_addMark.cls ≠ "java/lang/invoke/VarHandle" ∧ (parseMethodDescriptor yX2_addMark.desc).map (fun d => d.parameters.length) = some 0 := by first | exact ⟨rfl, hk_X2.1, hk_X2.2, pd_1⟩ | decide +kernel
theorem pd_2 : (parseMethodDescriptor "()Z").map (fun d => d.parameters.length) = some 0 := by decide +kernel
theorem hd_X2_isFull : yX2_isFull.cls = RX2 ∧ yX2_isFull.cls ≠ "java/lang/invoke/MethodHandle" ∧ yX2_isFull.cls ≠ "java/lang/invoke/VarHandle" ∧ (parseMethodDescriptor yX2_isFull.desc).map (fun d => d.parameters.length) = some 0 := by first | exact ⟨rfl, hk_X2.1, hk_X2.2, pd_2⟩ | decide +kernel
theorem pd_3 : (parseMethodDescriptor "(LStateRecords$Thing;I)V").map (fun d => d.parameters.length) = some 2 := by decide +kernel
theorem hd_X2_noteField : yX2_noteField.cls = RX2 ∧ yX2_noteField.cls ≠ "java/lang/invoke/MethodHandle" ∧ yX2_noteField.cls ≠ "java/lang/invoke/VarHandle" ∧ (parseMethodDescriptor yX2_noteField.desc).map (fun d => d.parameters.length) = some 2 := by first | exact ⟨rfl, hk_X2.1, hk_X2.2, pd_3⟩ | decide +kernel
theorem pd_4 : (parseMethodDescriptor "(LStateRecords$Row;I)V").map (fun d => d.parameters.length) = some 2 := by decide +kernel
theorem hd_X2_noteItem : yX2_noteItem.cls = RX2 ∧ yX2_noteItem.cls ≠ "java/lang/invoke/MethodHandle" ∧ yX2_noteItem.cls ≠ "java/lang/invoke/VarHandle" ∧ (parseMethodDescriptor yX2_noteItem.desc).map (fun d => d.parameters.length) = some 2 := by first | exact ⟨rfl, hk_X2.1, hk_X2.2, pd_4⟩ | decide +kernel
theorem pd_5 : (parseMethodDescriptor "()I").map (fun d => d.parameters.length) = some 0 := by decide +kernel
theorem hd_X2_undoLatestMark : yX2_undoLatestMark.cls = RX2 ∧ yX2_undoLatestMark.cls ≠ "java/lang/invoke/MethodHandle" ∧ yX2_undoLatestMark.cls ≠ "java/lang/invoke/VarHandle" ∧ (parseMethodDescriptor yX2_undoLatestMark.desc).map (fun d => d.parameters.length) = some 0 := by first | exact ⟨rfl, hk_X2.1, hk_X2.2, pd_5⟩ | decide +kernel
theorem pd_6 : (parseMethodDescriptor "(LStateRecords$Thing;IJLStateRecords$Row;)V").map (fun d => d.parameters.length) = some 4 := by decide +kernel
theorem hd_X2_write : yX2_write.cls = RX2 ∧ yX2_write.cls ≠ "java/lang/invoke/MethodHandle" ∧ yX2_write.cls ≠ "java/lang/invoke/VarHandle" ∧ (parseMethodDescriptor yX2_write.desc).map (fun d => d.parameters.length) = some 4 := by first | exact ⟨rfl, hk_X2.1, hk_X2.2, pd_6⟩ | decide +kernel
theorem hd_X3_takeBack : yX3_takeBack.cls = RX3 ∧ yX3_takeBack.cls ≠ "java/lang/invoke/MethodHandle" ∧ yX3_takeBack.cls ≠ "java/lang/invoke/VarHandle" ∧ (parseMethodDescriptor yX3_takeBack.desc).map (fun d => d.parameters.length) = some 0 := by first | exact ⟨rfl, hk_X3.1, hk_X3.2, pd_1⟩ | decide +kernel
theorem pd_7 : (parseMethodDescriptor "(I)LStateRecords$Row;").map (fun d => d.parameters.length) = some 1 := by decide +kernel
theorem hd_X4_copyOfRow : yX4_copyOfRow.cls = RX4 ∧ yX4_copyOfRow.cls ≠ "java/lang/invoke/MethodHandle" ∧ yX4_copyOfRow.cls ≠ "java/lang/invoke/VarHandle" ∧ (parseMethodDescriptor yX4_copyOfRow.desc).map (fun d => d.parameters.length) = some 1 := by first | exact ⟨rfl, hk_X4.1, hk_X4.2, pd_7⟩ | decide +kernel
theorem pd_8 : (parseMethodDescriptor "(LStateRecords$Records;I)Z").map (fun d => d.parameters.length) = some 2 := by decide +kernel
theorem hd_X4_hasItemsOf : yX4_hasItemsOf.cls = RX4 ∧ yX4_hasItemsOf.cls ≠ "java/lang/invoke/MethodHandle" ∧ yX4_hasItemsOf.cls ≠ "java/lang/invoke/VarHandle" ∧ (parseMethodDescriptor yX4_hasItemsOf.desc).map (fun d => d.parameters.length) = some 2 := by first | exact ⟨rfl, hk_X4.1, hk_X4.2, pd_8⟩ | decide +kernel
theorem hd_X4_hasShapeOf : yX4_hasShapeOf.cls = RX4 ∧ yX4_hasShapeOf.cls ≠ "java/lang/invoke/MethodHandle" ∧ yX4_hasShapeOf.cls ≠ "java/lang/invoke/VarHandle" ∧ (parseMethodDescriptor yX4_hasShapeOf.desc).map (fun d => d.parameters.length) = some 2 := by first | exact ⟨rfl, hk_X4.1, hk_X4.2, pd_8⟩ | decide +kernel
theorem hd_X4_hasValueOf : yX4_hasValueOf.cls = RX4 ∧ yX4_hasValueOf.cls ≠ "java/lang/invoke/MethodHandle" ∧ yX4_hasValueOf.cls ≠ "java/lang/invoke/VarHandle" ∧ (parseMethodDescriptor yX4_hasValueOf.desc).map (fun d => d.parameters.length) = some 2 := by first | exact ⟨rfl, hk_X4.1, hk_X4.2, pd_8⟩ | decide +kernel
theorem pd_9 : (parseMethodDescriptor "(LStateRecords$Row;)I").map (fun d => d.parameters.length) = some 1 := by decide +kernel
theorem hd_X4_numberOf : yX4_numberOf.cls = RX4 ∧ yX4_numberOf.cls ≠ "java/lang/invoke/MethodHandle" ∧ yX4_numberOf.cls ≠ "java/lang/invoke/VarHandle" ∧ (parseMethodDescriptor yX4_numberOf.desc).map (fun d => d.parameters.length) = some 1 := by first | exact ⟨rfl, hk_X4.1, hk_X4.2, pd_9⟩ | decide +kernel
theorem pd_10 : (parseMethodDescriptor "(LStateRecords$Type;)V").map (fun d => d.parameters.length) = some 1 := by decide +kernel
theorem hd_X6_become : yX6_become.cls = RX6 ∧ yX6_become.cls ≠ "java/lang/invoke/MethodHandle" ∧ yX6_become.cls ≠ "java/lang/invoke/VarHandle" ∧ (parseMethodDescriptor yX6_become.desc).map (fun d => d.parameters.length) = some 1 := by first | exact ⟨rfl, hk_X6.1, hk_X6.2, pd_10⟩ | decide +kernel
theorem hd_X6_forgetNumbers : yX6_forgetNumbers.cls = RX6 ∧ yX6_forgetNumbers.cls ≠ "java/lang/invoke/MethodHandle" ∧ yX6_forgetNumbers.cls ≠ "java/lang/invoke/VarHandle" ∧ (parseMethodDescriptor yX6_forgetNumbers.desc).map (fun d => d.parameters.length) = some 0 := by first | exact ⟨rfl, hk_X6.1, hk_X6.2, pd_1⟩ | decide +kernel
theorem pd_11 : (parseMethodDescriptor "(I)V").map (fun d => d.parameters.length) = some 1 := by decide +kernel
theorem hd_X6_removeField : yX6_removeField.cls = RX6 ∧ yX6_removeField.cls ≠ "java/lang/invoke/MethodHandle" ∧ yX6_removeField.cls ≠ "java/lang/invoke/VarHandle" ∧ (parseMethodDescriptor yX6_removeField.desc).map (fun d => d.parameters.length) = some 1 := by first | exact ⟨rfl, hk_X6.1, hk_X6.2, pd_11⟩ | decide +kernel
theorem hd_X6_setDefault : yX6_setDefault.cls = RX6 ∧ yX6_setDefault.cls ≠ "java/lang/invoke/MethodHandle" ∧ yX6_setDefault.cls ≠ "java/lang/invoke/VarHandle" ∧ (parseMethodDescriptor yX6_setDefault.desc).map (fun d => d.parameters.length) = some 1 := by first | exact ⟨rfl, hk_X6.1, hk_X6.2, pd_11⟩ | decide +kernel
theorem pd_12 : (parseMethodDescriptor "(IIJ)I").map (fun d => d.parameters.length) = some 3 := by decide +kernel
theorem hd_X7_addField : yX7_addField.cls = RX7 ∧ yX7_addField.cls ≠ "java/lang/invoke/MethodHandle" ∧ yX7_addField.cls ≠ "java/lang/invoke/VarHandle" ∧ (parseMethodDescriptor yX7_addField.desc).map (fun d => d.parameters.length) = some 3 := by first | exact ⟨rfl, hk_X7.1, hk_X7.2, pd_12⟩ | decide +kernel
theorem pd_13 : (parseMethodDescriptor "(I)I").map (fun d => d.parameters.length) = some 1 := by decide +kernel
theorem hd_X7_fieldNamed : yX7_fieldNamed.cls = RX7 ∧ yX7_fieldNamed.cls ≠ "java/lang/invoke/MethodHandle" ∧ yX7_fieldNamed.cls ≠ "java/lang/invoke/VarHandle" ∧ (parseMethodDescriptor yX7_fieldNamed.desc).map (fun d => d.parameters.length) = some 1 := by first | exact ⟨rfl, hk_X7.1, hk_X7.2, pd_13⟩ | decide +kernel
theorem pd_14 : (parseMethodDescriptor "(I)Z").map (fun d => d.parameters.length) = some 1 := by decide +kernel
theorem hd_X7_hasField : yX7_hasField.cls = RX7 ∧ yX7_hasField.cls ≠ "java/lang/invoke/MethodHandle" ∧ yX7_hasField.cls ≠ "java/lang/invoke/VarHandle" ∧ (parseMethodDescriptor yX7_hasField.desc).map (fun d => d.parameters.length) = some 1 := by first | exact ⟨rfl, hk_X7.1, hk_X7.2, pd_14⟩ | decide +kernel
theorem pd_15 : (parseMethodDescriptor "(II)Z").map (fun d => d.parameters.length) = some 2 := by decide +kernel
theorem hd_X7_hasLane : yX7_hasLane.cls = RX7 ∧ yX7_hasLane.cls ≠ "java/lang/invoke/MethodHandle" ∧ yX7_hasLane.cls ≠ "java/lang/invoke/VarHandle" ∧ (parseMethodDescriptor yX7_hasLane.desc).map (fun d => d.parameters.length) = some 2 := by first | exact ⟨rfl, hk_X7.1, hk_X7.2, pd_15⟩ | decide +kernel
theorem hd_X7_hasRowLane : yX7_hasRowLane.cls = RX7 ∧ yX7_hasRowLane.cls ≠ "java/lang/invoke/MethodHandle" ∧ yX7_hasRowLane.cls ≠ "java/lang/invoke/VarHandle" ∧ (parseMethodDescriptor yX7_hasRowLane.desc).map (fun d => d.parameters.length) = some 1 := by first | exact ⟨rfl, hk_X7.1, hk_X7.2, pd_14⟩ | decide +kernel
theorem hd_X7_removeField : yX7_removeField.cls = RX7 ∧ yX7_removeField.cls ≠ "java/lang/invoke/MethodHandle" ∧ yX7_removeField.cls ≠ "java/lang/invoke/VarHandle" ∧ (parseMethodDescriptor yX7_removeField.desc).map (fun d => d.parameters.length) = some 1 := by first | exact ⟨rfl, hk_X7.1, hk_X7.2, pd_11⟩ | decide +kernel
theorem pd_16 : (parseMethodDescriptor "(LStateRecords$Records;)V").map (fun d => d.parameters.length) = some 1 := by decide +kernel
theorem hd_X8_addThings : yX8_addThings.cls = RX8 ∧ yX8_addThings.cls ≠ "java/lang/invoke/MethodHandle" ∧ yX8_addThings.cls ≠ "java/lang/invoke/VarHandle" ∧ (parseMethodDescriptor yX8_addThings.desc).map (fun d => d.parameters.length) = some 1 := by first | exact ⟨rfl, hk_X8.1, hk_X8.2, pd_16⟩ | decide +kernel
theorem pd_17 : (parseMethodDescriptor "(II)J").map (fun d => d.parameters.length) = some 2 := by decide +kernel
theorem hd_X8_at : yX8_at.cls = RX8 ∧ yX8_at.cls ≠ "java/lang/invoke/MethodHandle" ∧ yX8_at.cls ≠ "java/lang/invoke/VarHandle" ∧ (parseMethodDescriptor yX8_at.desc).map (fun d => d.parameters.length) = some 2 := by first | exact ⟨rfl, hk_X8.1, hk_X8.2, pd_17⟩ | decide +kernel
theorem pd_18 : (parseMethodDescriptor "(LStateRecords$Thing;ILStateRecords$Row;)I").map (fun d => d.parameters.length) = some 3 := by decide +kernel
theorem hd_X8_changeRow : yX8_changeRow.cls = RX8 ∧ yX8_changeRow.cls ≠ "java/lang/invoke/MethodHandle" ∧ yX8_changeRow.cls ≠ "java/lang/invoke/VarHandle" ∧ (parseMethodDescriptor yX8_changeRow.desc).map (fun d => d.parameters.length) = some 3 := by first | exact ⟨rfl, hk_X8.1, hk_X8.2, pd_18⟩ | decide +kernel
theorem pd_19 : (parseMethodDescriptor "(LStateRecords$Thing;IJ)I").map (fun d => d.parameters.length) = some 3 := by decide +kernel
theorem hd_X8_changeValue : yX8_changeValue.cls = RX8 ∧ yX8_changeValue.cls ≠ "java/lang/invoke/MethodHandle" ∧ yX8_changeValue.cls ≠ "java/lang/invoke/VarHandle" ∧ (parseMethodDescriptor yX8_changeValue.desc).map (fun d => d.parameters.length) = some 3 := by first | exact ⟨rfl, hk_X8.1, hk_X8.2, pd_19⟩ | decide +kernel
theorem pd_20 : (parseMethodDescriptor "(IIIIJ)I").map (fun d => d.parameters.length) = some 5 := by decide +kernel
theorem hd_X8_check : yX8_check.cls = RX8 ∧ yX8_check.cls ≠ "java/lang/invoke/MethodHandle" ∧ yX8_check.cls ≠ "java/lang/invoke/VarHandle" ∧ (parseMethodDescriptor yX8_check.desc).map (fun d => d.parameters.length) = some 5 := by first | exact ⟨rfl, hk_X8.1, hk_X8.2, pd_20⟩ | decide +kernel
theorem hd_X8_count : yX8_count.cls = RX8 ∧ yX8_count.cls ≠ "java/lang/invoke/MethodHandle" ∧ yX8_count.cls ≠ "java/lang/invoke/VarHandle" ∧ (parseMethodDescriptor yX8_count.desc).map (fun d => d.parameters.length) = some 1 := by first | exact ⟨rfl, hk_X8.1, hk_X8.2, pd_13⟩ | decide +kernel
theorem pd_21 : (parseMethodDescriptor "(II)I").map (fun d => d.parameters.length) = some 2 := by decide +kernel
theorem hd_X8_differs : yX8_differs.cls = RX8 ∧ yX8_differs.cls ≠ "java/lang/invoke/MethodHandle" ∧ yX8_differs.cls ≠ "java/lang/invoke/VarHandle" ∧ (parseMethodDescriptor yX8_differs.desc).map (fun d => d.parameters.length) = some 2 := by first | exact ⟨rfl, hk_X8.1, hk_X8.2, pd_21⟩ | decide +kernel
theorem hd_X8_drop : yX8_drop.cls = RX8 ∧ yX8_drop.cls ≠ "java/lang/invoke/MethodHandle" ∧ yX8_drop.cls ≠ "java/lang/invoke/VarHandle" ∧ (parseMethodDescriptor yX8_drop.desc).map (fun d => d.parameters.length) = some 2 := by first | exact ⟨rfl, hk_X8.1, hk_X8.2, pd_21⟩ | decide +kernel
theorem hd_X8_failed : yX8_failed.cls = RX8 ∧ yX8_failed.cls ≠ "java/lang/invoke/MethodHandle" ∧ yX8_failed.cls ≠ "java/lang/invoke/VarHandle" ∧ (parseMethodDescriptor yX8_failed.desc).map (fun d => d.parameters.length) = some 1 := by first | exact ⟨rfl, hk_X8.1, hk_X8.2, pd_13⟩ | decide +kernel
theorem pd_22 : (parseMethodDescriptor "(LStateRecords$Thing;LStateRecords$Check;)I").map (fun d => d.parameters.length) = some 2 := by decide +kernel
theorem hd_X8_failureOf : yX8_failureOf.cls = RX8 ∧ yX8_failureOf.cls ≠ "java/lang/invoke/MethodHandle" ∧ yX8_failureOf.cls ≠ "java/lang/invoke/VarHandle" ∧ (parseMethodDescriptor yX8_failureOf.desc).map (fun d => d.parameters.length) = some 2 := by first | exact ⟨rfl, hk_X8.1, hk_X8.2, pd_22⟩ | decide +kernel
theorem hd_X8_failureOfDivides : yX8_failureOfDivides.cls = RX8 ∧ yX8_failureOfDivides.cls ≠ "java/lang/invoke/MethodHandle" ∧ yX8_failureOfDivides.cls ≠ "java/lang/invoke/VarHandle" ∧ (parseMethodDescriptor yX8_failureOfDivides.desc).map (fun d => d.parameters.length) = some 2 := by first | exact ⟨rfl, hk_X8.1, hk_X8.2, pd_22⟩ | decide +kernel
theorem hd_X8_failureOfHas : yX8_failureOfHas.cls = RX8 ∧ yX8_failureOfHas.cls ≠ "java/lang/invoke/MethodHandle" ∧ yX8_failureOfHas.cls ≠ "java/lang/invoke/VarHandle" ∧ (parseMethodDescriptor yX8_failureOfHas.desc).map (fun d => d.parameters.length) = some 2 := by first | exact ⟨rfl, hk_X8.1, hk_X8.2, pd_22⟩ | decide +kernel
theorem hd_X8_failureOfHolds : yX8_failureOfHolds.cls = RX8 ∧ yX8_failureOfHolds.cls ≠ "java/lang/invoke/MethodHandle" ∧ yX8_failureOfHolds.cls ≠ "java/lang/invoke/VarHandle" ∧ (parseMethodDescriptor yX8_failureOfHolds.desc).map (fun d => d.parameters.length) = some 2 := by first | exact ⟨rfl, hk_X8.1, hk_X8.2, pd_22⟩ | decide +kernel
theorem hd_X8_failureOfLeads : yX8_failureOfLeads.cls = RX8 ∧ yX8_failureOfLeads.cls ≠ "java/lang/invoke/MethodHandle" ∧ yX8_failureOfLeads.cls ≠ "java/lang/invoke/VarHandle" ∧ (parseMethodDescriptor yX8_failureOfLeads.desc).map (fun d => d.parameters.length) = some 2 := by first | exact ⟨rfl, hk_X8.1, hk_X8.2, pd_22⟩ | decide +kernel
theorem hd_X8_failureOfLeast : yX8_failureOfLeast.cls = RX8 ∧ yX8_failureOfLeast.cls ≠ "java/lang/invoke/MethodHandle" ∧ yX8_failureOfLeast.cls ≠ "java/lang/invoke/VarHandle" ∧ (parseMethodDescriptor yX8_failureOfLeast.desc).map (fun d => d.parameters.length) = some 2 := by first | exact ⟨rfl, hk_X8.1, hk_X8.2, pd_22⟩ | decide +kernel
theorem hd_X8_failureOfMeets : yX8_failureOfMeets.cls = RX8 ∧ yX8_failureOfMeets.cls ≠ "java/lang/invoke/MethodHandle" ∧ yX8_failureOfMeets.cls ≠ "java/lang/invoke/VarHandle" ∧ (parseMethodDescriptor yX8_failureOfMeets.desc).map (fun d => d.parameters.length) = some 2 := by first | exact ⟨rfl, hk_X8.1, hk_X8.2, pd_22⟩ | decide +kernel
theorem hd_X8_fault : yX8_fault.cls = RX8 ∧ yX8_fault.cls ≠ "java/lang/invoke/MethodHandle" ∧ yX8_fault.cls ≠ "java/lang/invoke/VarHandle" ∧ (parseMethodDescriptor yX8_fault.desc).map (fun d => d.parameters.length) = some 1 := by first | exact ⟨rfl, hk_X8.1, hk_X8.2, pd_13⟩ | decide +kernel
theorem pd_23 : (parseMethodDescriptor "(IIIJ)I").map (fun d => d.parameters.length) = some 4 := by decide +kernel
theorem hd_X8_field : yX8_field.cls = RX8 ∧ yX8_field.cls ≠ "java/lang/invoke/MethodHandle" ∧ yX8_field.cls ≠ "java/lang/invoke/VarHandle" ∧ (parseMethodDescriptor yX8_field.desc).map (fun d => d.parameters.length) = some 4 := by first | exact ⟨rfl, hk_X8.1, hk_X8.2, pd_23⟩ | decide +kernel
theorem pd_24 : (parseMethodDescriptor "(LStateRecords$Thing;LStateRecords$Records;III)I").map (fun d => d.parameters.length) = some 5 := by decide +kernel
theorem hd_X8_fillField : yX8_fillField.cls = RX8 ∧ yX8_fillField.cls ≠ "java/lang/invoke/MethodHandle" ∧ yX8_fillField.cls ≠ "java/lang/invoke/VarHandle" ∧ (parseMethodDescriptor yX8_fillField.desc).map (fun d => d.parameters.length) = some 5 := by first | exact ⟨rfl, hk_X8.1, hk_X8.2, pd_24⟩ | decide +kernel
theorem pd_25 : (parseMethodDescriptor "(LStateRecords$Records;II)I").map (fun d => d.parameters.length) = some 3 := by decide +kernel
theorem hd_X8_fillThings : yX8_fillThings.cls = RX8 ∧ yX8_fillThings.cls ≠ "java/lang/invoke/MethodHandle" ∧ yX8_fillThings.cls ≠ "java/lang/invoke/VarHandle" ∧ (parseMethodDescriptor yX8_fillThings.desc).map (fun d => d.parameters.length) = some 3 := by first | exact ⟨rfl, hk_X8.1, hk_X8.2, pd_25⟩ | decide +kernel
theorem pd_26 : (parseMethodDescriptor "(LStateRecords$Records;LStateRecords$Records;)I").map (fun d => d.parameters.length) = some 2 := by decide +kernel
theorem hd_X8_firstDifference : yX8_firstDifference.cls = RX8 ∧ yX8_firstDifference.cls ≠ "java/lang/invoke/MethodHandle" ∧ yX8_firstDifference.cls ≠ "java/lang/invoke/VarHandle" ∧ (parseMethodDescriptor yX8_firstDifference.desc).map (fun d => d.parameters.length) = some 2 := by first | exact ⟨rfl, hk_X8.1, hk_X8.2, pd_26⟩ | decide +kernel
theorem pd_27 : (parseMethodDescriptor "(LStateRecords$Thing;)I").map (fun d => d.parameters.length) = some 1 := by decide +kernel
theorem hd_X8_firstFailingCheck : yX8_firstFailingCheck.cls = RX8 ∧ yX8_firstFailingCheck.cls ≠ "java/lang/invoke/MethodHandle" ∧ yX8_firstFailingCheck.cls ≠ "java/lang/invoke/VarHandle" ∧ (parseMethodDescriptor yX8_firstFailingCheck.desc).map (fun d => d.parameters.length) = some 1 := by first | exact ⟨rfl, hk_X8.1, hk_X8.2, pd_27⟩ | decide +kernel
theorem pd_28 : (parseMethodDescriptor "(LStateRecords$Records;)I").map (fun d => d.parameters.length) = some 1 := by decide +kernel
theorem hd_X8_firstShutSlot : yX8_firstShutSlot.cls = RX8 ∧ yX8_firstShutSlot.cls ≠ "java/lang/invoke/MethodHandle" ∧ yX8_firstShutSlot.cls ≠ "java/lang/invoke/VarHandle" ∧ (parseMethodDescriptor yX8_firstShutSlot.desc).map (fun d => d.parameters.length) = some 1 := by first | exact ⟨rfl, hk_X8.1, hk_X8.2, pd_28⟩ | decide +kernel
theorem hd_X8_forget : yX8_forget.cls = RX8 ∧ yX8_forget.cls ≠ "java/lang/invoke/MethodHandle" ∧ yX8_forget.cls ≠ "java/lang/invoke/VarHandle" ∧ (parseMethodDescriptor yX8_forget.desc).map (fun d => d.parameters.length) = some 0 := by first | exact ⟨rfl, hk_X8.1, hk_X8.2, pd_5⟩ | decide +kernel
theorem hd_X8_forgetNumbers : yX8_forgetNumbers.cls = RX8 ∧ yX8_forgetNumbers.cls ≠ "java/lang/invoke/MethodHandle" ∧ yX8_forgetNumbers.cls ≠ "java/lang/invoke/VarHandle" ∧ (parseMethodDescriptor yX8_forgetNumbers.desc).map (fun d => d.parameters.length) = some 0 := by first | exact ⟨rfl, hk_X8.1, hk_X8.2, pd_1⟩ | decide +kernel
theorem hd_X8_isBelow : yX8_isBelow.cls = RX8 ∧ yX8_isBelow.cls ≠ "java/lang/invoke/MethodHandle" ∧ yX8_isBelow.cls ≠ "java/lang/invoke/VarHandle" ∧ (parseMethodDescriptor yX8_isBelow.desc).map (fun d => d.parameters.length) = some 2 := by first | exact ⟨rfl, hk_X8.1, hk_X8.2, pd_15⟩ | decide +kernel
theorem hd_X8_isRowLane : yX8_isRowLane.cls = RX8 ∧ yX8_isRowLane.cls ≠ "java/lang/invoke/MethodHandle" ∧ yX8_isRowLane.cls ≠ "java/lang/invoke/VarHandle" ∧ (parseMethodDescriptor yX8_isRowLane.desc).map (fun d => d.parameters.length) = some 1 := by first | exact ⟨rfl, hk_X8.1, hk_X8.2, pd_14⟩ | decide +kernel
theorem pd_29 : (parseMethodDescriptor "(J)Z").map (fun d => d.parameters.length) = some 1 := by decide +kernel
theorem hd_X8_isWordInUse : yX8_isWordInUse.cls = RX8 ∧ yX8_isWordInUse.cls ≠ "java/lang/invoke/MethodHandle" ∧ yX8_isWordInUse.cls ≠ "java/lang/invoke/VarHandle" ∧ (parseMethodDescriptor yX8_isWordInUse.desc).map (fun d => d.parameters.length) = some 1 := by first | exact ⟨rfl, hk_X8.1, hk_X8.2, pd_29⟩ | decide +kernel
theorem hd_X8_item : yX8_item.cls = RX8 ∧ yX8_item.cls ≠ "java/lang/invoke/MethodHandle" ∧ yX8_item.cls ≠ "java/lang/invoke/VarHandle" ∧ (parseMethodDescriptor yX8_item.desc).map (fun d => d.parameters.length) = some 4 := by first | exact ⟨rfl, hk_X8.1, hk_X8.2, pd_23⟩ | decide +kernel
theorem pd_30 : (parseMethodDescriptor "(III)J").map (fun d => d.parameters.length) = some 3 := by decide +kernel
theorem hd_X8_itemAt : yX8_itemAt.cls = RX8 ∧ yX8_itemAt.cls ≠ "java/lang/invoke/MethodHandle" ∧ yX8_itemAt.cls ≠ "java/lang/invoke/VarHandle" ∧ (parseMethodDescriptor yX8_itemAt.desc).map (fun d => d.parameters.length) = some 3 := by first | exact ⟨rfl, hk_X8.1, hk_X8.2, pd_30⟩ | decide +kernel
theorem hd_X8_judge : yX8_judge.cls = RX8 ∧ yX8_judge.cls ≠ "java/lang/invoke/MethodHandle" ∧ yX8_judge.cls ≠ "java/lang/invoke/VarHandle" ∧ (parseMethodDescriptor yX8_judge.desc).map (fun d => d.parameters.length) = some 1 := by first | exact ⟨rfl, hk_X8.1, hk_X8.2, pd_13⟩ | decide +kernel
theorem hd_X8_judgeThings : yX8_judgeThings.cls = RX8 ∧ yX8_judgeThings.cls ≠ "java/lang/invoke/MethodHandle" ∧ yX8_judgeThings.cls ≠ "java/lang/invoke/VarHandle" ∧ (parseMethodDescriptor yX8_judgeThings.desc).map (fun d => d.parameters.length) = some 1 := by first | exact ⟨rfl, hk_X8.1, hk_X8.2, pd_13⟩ | decide +kernel
theorem hd_X8_like : yX8_like.cls = RX8 ∧ yX8_like.cls ≠ "java/lang/invoke/MethodHandle" ∧ yX8_like.cls ≠ "java/lang/invoke/VarHandle" ∧ (parseMethodDescriptor yX8_like.desc).map (fun d => d.parameters.length) = some 2 := by first | exact ⟨rfl, hk_X8.1, hk_X8.2, pd_21⟩ | decide +kernel
theorem pd_31 : (parseMethodDescriptor "(JI)J").map (fun d => d.parameters.length) = some 2 := by decide +kernel
theorem hd_X8_lowestBits : yX8_lowestBits.cls = RX8 ∧ yX8_lowestBits.cls ≠ "java/lang/invoke/MethodHandle" ∧ yX8_lowestBits.cls ≠ "java/lang/invoke/VarHandle" ∧ (parseMethodDescriptor yX8_lowestBits.desc).map (fun d => d.parameters.length) = some 2 := by first | exact ⟨rfl, hk_X8.1, hk_X8.2, pd_31⟩ | decide +kernel
theorem hd_X8_mark : yX8_mark.cls = RX8 ∧ yX8_mark.cls ≠ "java/lang/invoke/MethodHandle" ∧ yX8_mark.cls ≠ "java/lang/invoke/VarHandle" ∧ (parseMethodDescriptor yX8_mark.desc).map (fun d => d.parameters.length) = some 0 := by first | exact ⟨rfl, hk_X8.1, hk_X8.2, pd_5⟩ | decide +kernel
theorem hd_X8_mayCome : yX8_mayCome.cls = RX8 ∧ yX8_mayCome.cls ≠ "java/lang/invoke/MethodHandle" ∧ yX8_mayCome.cls ≠ "java/lang/invoke/VarHandle" ∧ (parseMethodDescriptor yX8_mayCome.desc).map (fun d => d.parameters.length) = some 2 := by first | exact ⟨rfl, hk_X8.1, hk_X8.2, pd_15⟩ | decide +kernel
theorem hd_X8_put : yX8_put.cls = RX8 ∧ yX8_put.cls ≠ "java/lang/invoke/MethodHandle" ∧ yX8_put.cls ≠ "java/lang/invoke/VarHandle" ∧ (parseMethodDescriptor yX8_put.desc).map (fun d => d.parameters.length) = some 3 := by first | exact ⟨rfl, hk_X8.1, hk_X8.2, pd_12⟩ | decide +kernel
theorem pd_32 : (parseMethodDescriptor "(LStateRecords$Thing;ILStateRecords$Records;)V").map (fun d => d.parameters.length) = some 3 := by decide +kernel
theorem hd_X8_recordFields : yX8_recordFields.cls = RX8 ∧ yX8_recordFields.cls ≠ "java/lang/invoke/MethodHandle" ∧ yX8_recordFields.cls ≠ "java/lang/invoke/VarHandle" ∧ (parseMethodDescriptor yX8_recordFields.desc).map (fun d => d.parameters.length) = some 3 := by first | exact ⟨rfl, hk_X8.1, hk_X8.2, pd_32⟩ | decide +kernel
theorem pd_33 : (parseMethodDescriptor "(LStateRecords$Thing;LStateRecords$Records;)V").map (fun d => d.parameters.length) = some 2 := by decide +kernel
theorem hd_X8_recordFrom : yX8_recordFrom.cls = RX8 ∧ yX8_recordFrom.cls ≠ "java/lang/invoke/MethodHandle" ∧ yX8_recordFrom.cls ≠ "java/lang/invoke/VarHandle" ∧ (parseMethodDescriptor yX8_recordFrom.desc).map (fun d => d.parameters.length) = some 2 := by first | exact ⟨rfl, hk_X8.1, hk_X8.2, pd_33⟩ | decide +kernel
theorem pd_34 : (parseMethodDescriptor "(LStateRecords$Thing;LStateRecords$Records;)I").map (fun d => d.parameters.length) = some 2 := by decide +kernel
theorem hd_X8_recordNumberOf : yX8_recordNumberOf.cls = RX8 ∧ yX8_recordNumberOf.cls ≠ "java/lang/invoke/MethodHandle" ∧ yX8_recordNumberOf.cls ≠ "java/lang/invoke/VarHandle" ∧ (parseMethodDescriptor yX8_recordNumberOf.desc).map (fun d => d.parameters.length) = some 2 := by first | exact ⟨rfl, hk_X8.1, hk_X8.2, pd_34⟩ | decide +kernel
theorem pd_35 : (parseMethodDescriptor "(LStateRecords$Thing;ILStateRecords$Records;)J").map (fun d => d.parameters.length) = some 3 := by decide +kernel
theorem hd_X8_recordedValue : yX8_recordedValue.cls = RX8 ∧ yX8_recordedValue.cls ≠ "java/lang/invoke/MethodHandle" ∧ yX8_recordedValue.cls ≠ "java/lang/invoke/VarHandle" ∧ (parseMethodDescriptor yX8_recordedValue.desc).map (fun d => d.parameters.length) = some 3 := by first | exact ⟨rfl, hk_X8.1, hk_X8.2, pd_35⟩ | decide +kernel
theorem pd_36 : (parseMethodDescriptor "(III)I").map (fun d => d.parameters.length) = some 3 := by decide +kernel
theorem hd_X8_refer : yX8_refer.cls = RX8 ∧ yX8_refer.cls ≠ "java/lang/invoke/MethodHandle" ∧ yX8_refer.cls ≠ "java/lang/invoke/VarHandle" ∧ (parseMethodDescriptor yX8_refer.desc).map (fun d => d.parameters.length) = some 3 := by first | exact ⟨rfl, hk_X8.1, hk_X8.2, pd_36⟩ | decide +kernel
theorem hd_X8_restore : yX8_restore.cls = RX8 ∧ yX8_restore.cls ≠ "java/lang/invoke/MethodHandle" ∧ yX8_restore.cls ≠ "java/lang/invoke/VarHandle" ∧ (parseMethodDescriptor yX8_restore.desc).map (fun d => d.parameters.length) = some 2 := by first | exact ⟨rfl, hk_X8.1, hk_X8.2, pd_21⟩ | decide +kernel
theorem hd_X8_row : yX8_row.cls = RX8 ∧ yX8_row.cls ≠ "java/lang/invoke/MethodHandle" ∧ yX8_row.cls ≠ "java/lang/invoke/VarHandle" ∧ (parseMethodDescriptor yX8_row.desc).map (fun d => d.parameters.length) = some 3 := by first | exact ⟨rfl, hk_X8.1, hk_X8.2, pd_36⟩ | decide +kernel
theorem pd_37 : (parseMethodDescriptor "(LStateRecords$Records;II)LStateRecords$Row;").map (fun d => d.parameters.length) = some 3 := by decide +kernel
theorem hd_X8_rowPutBack : yX8_rowPutBack.cls = RX8 ∧ yX8_rowPutBack.cls ≠ "java/lang/invoke/MethodHandle" ∧ yX8_rowPutBack.cls ≠ "java/lang/invoke/VarHandle" ∧ (parseMethodDescriptor yX8_rowPutBack.desc).map (fun d => d.parameters.length) = some 3 := by first | exact ⟨rfl, hk_X8.1, hk_X8.2, pd_37⟩ | decide +kernel
theorem hd_X8_save : yX8_save.cls = RX8 ∧ yX8_save.cls ≠ "java/lang/invoke/MethodHandle" ∧ yX8_save.cls ≠ "java/lang/invoke/VarHandle" ∧ (parseMethodDescriptor yX8_save.desc).map (fun d => d.parameters.length) = some 2 := by first | exact ⟨rfl, hk_X8.1, hk_X8.2, pd_21⟩ | decide +kernel
theorem hd_X8_saved : yX8_saved.cls = RX8 ∧ yX8_saved.cls ≠ "java/lang/invoke/MethodHandle" ∧ yX8_saved.cls ≠ "java/lang/invoke/VarHandle" ∧ (parseMethodDescriptor yX8_saved.desc).map (fun d => d.parameters.length) = some 2 := by first | exact ⟨rfl, hk_X8.1, hk_X8.2, pd_21⟩ | decide +kernel
theorem pd_38 : (parseMethodDescriptor "(IIII)I").map (fun d => d.parameters.length) = some 4 := by decide +kernel
theorem hd_X8_share : yX8_share.cls = RX8 ∧ yX8_share.cls ≠ "java/lang/invoke/MethodHandle" ∧ yX8_share.cls ≠ "java/lang/invoke/VarHandle" ∧ (parseMethodDescriptor yX8_share.desc).map (fun d => d.parameters.length) = some 4 := by first | exact ⟨rfl, hk_X8.1, hk_X8.2, pd_38⟩ | decide +kernel
theorem pd_39 : (parseMethodDescriptor "(IIZ)I").map (fun d => d.parameters.length) = some 3 := by decide +kernel
theorem hd_X8_shut : yX8_shut.cls = RX8 ∧ yX8_shut.cls ≠ "java/lang/invoke/MethodHandle" ∧ yX8_shut.cls ≠ "java/lang/invoke/VarHandle" ∧ (parseMethodDescriptor yX8_shut.desc).map (fun d => d.parameters.length) = some 3 := by first | exact ⟨rfl, hk_X8.1, hk_X8.2, pd_39⟩ | decide +kernel
theorem hd_X8_thing : yX8_thing.cls = RX8 ∧ yX8_thing.cls ≠ "java/lang/invoke/MethodHandle" ∧ yX8_thing.cls ≠ "java/lang/invoke/VarHandle" ∧ (parseMethodDescriptor yX8_thing.desc).map (fun d => d.parameters.length) = some 1 := by first | exact ⟨rfl, hk_X8.1, hk_X8.2, pd_13⟩ | decide +kernel
theorem pd_40 : (parseMethodDescriptor "(J)LStateRecords$Thing;").map (fun d => d.parameters.length) = some 1 := by decide +kernel
theorem hd_X8_thingNumbered : yX8_thingNumbered.cls = RX8 ∧ yX8_thingNumbered.cls ≠ "java/lang/invoke/MethodHandle" ∧ yX8_thingNumbered.cls ≠ "java/lang/invoke/VarHandle" ∧ (parseMethodDescriptor yX8_thingNumbered.desc).map (fun d => d.parameters.length) = some 1 := by first | exact ⟨rfl, hk_X8.1, hk_X8.2, pd_40⟩ | decide +kernel
theorem pd_41 : (parseMethodDescriptor "(II)LStateRecords$Thing;").map (fun d => d.parameters.length) = some 2 := by decide +kernel
theorem hd_X8_thingWithField : yX8_thingWithField.cls = RX8 ∧ yX8_thingWithField.cls ≠ "java/lang/invoke/MethodHandle" ∧ yX8_thingWithField.cls ≠ "java/lang/invoke/VarHandle" ∧ (parseMethodDescriptor yX8_thingWithField.desc).map (fun d => d.parameters.length) = some 2 := by first | exact ⟨rfl, hk_X8.1, hk_X8.2, pd_41⟩ | decide +kernel
theorem hd_X8_told : yX8_told.cls = RX8 ∧ yX8_told.cls ≠ "java/lang/invoke/MethodHandle" ∧ yX8_told.cls ≠ "java/lang/invoke/VarHandle" ∧ (parseMethodDescriptor yX8_told.desc).map (fun d => d.parameters.length) = some 2 := by first | exact ⟨rfl, hk_X8.1, hk_X8.2, pd_21⟩ | decide +kernel
theorem hd_X8_type : yX8_type.cls = RX8 ∧ yX8_type.cls ≠ "java/lang/invoke/MethodHandle" ∧ yX8_type.cls ≠ "java/lang/invoke/VarHandle" ∧ (parseMethodDescriptor yX8_type.desc).map (fun d => d.parameters.length) = some 0 := by first | exact ⟨rfl, hk_X8.1, hk_X8.2, pd_5⟩ | decide +kernel
theorem pd_42 : (parseMethodDescriptor "(I)LStateRecords$Type;").map (fun d => d.parameters.length) = some 1 := by decide +kernel
theorem hd_X8_typeNumbered : yX8_typeNumbered.cls = RX8 ∧ yX8_typeNumbered.cls ≠ "java/lang/invoke/MethodHandle" ∧ yX8_typeNumbered.cls ≠ "java/lang/invoke/VarHandle" ∧ (parseMethodDescriptor yX8_typeNumbered.desc).map (fun d => d.parameters.length) = some 1 := by first | exact ⟨rfl, hk_X8.1, hk_X8.2, pd_42⟩ | decide +kernel
theorem hd_X8_unchecked : yX8_unchecked.cls = RX8 ∧ yX8_unchecked.cls ≠ "java/lang/invoke/MethodHandle" ∧ yX8_unchecked.cls ≠ "java/lang/invoke/VarHandle" ∧ (parseMethodDescriptor yX8_unchecked.desc).map (fun d => d.parameters.length) = some 1 := by first | exact ⟨rfl, hk_X8.1, hk_X8.2, pd_13⟩ | decide +kernel
theorem hd_X8_undo : yX8_undo.cls = RX8 ∧ yX8_undo.cls ≠ "java/lang/invoke/MethodHandle" ∧ yX8_undo.cls ≠ "java/lang/invoke/VarHandle" ∧ (parseMethodDescriptor yX8_undo.desc).map (fun d => d.parameters.length) = some 0 := by first | exact ⟨rfl, hk_X8.1, hk_X8.2, pd_5⟩ | decide +kernel
theorem pd_43 : (parseMethodDescriptor "(IZ)I").map (fun d => d.parameters.length) = some 2 := by decide +kernel
theorem hd_X8_word : yX8_word.cls = RX8 ∧ yX8_word.cls ≠ "java/lang/invoke/MethodHandle" ∧ yX8_word.cls ≠ "java/lang/invoke/VarHandle" ∧ (parseMethodDescriptor yX8_word.desc).map (fun d => d.parameters.length) = some 2 := by first | exact ⟨rfl, hk_X8.1, hk_X8.2, pd_43⟩ | decide +kernel
theorem hd_X9_at : yX9_at.cls = RX9 ∧ yX9_at.cls ≠ "java/lang/invoke/MethodHandle" ∧ yX9_at.cls ≠ "java/lang/invoke/VarHandle" ∧ (parseMethodDescriptor yX9_at.desc).map (fun d => d.parameters.length) = some 2 := by first | exact ⟨rfl, hk_X9.1, hk_X9.2, pd_17⟩ | decide +kernel
theorem pd_44 : (parseMethodDescriptor "(IIJ)V").map (fun d => d.parameters.length) = some 3 := by decide +kernel
theorem hd_X9_becomes : yX9_becomes.cls = RX9 ∧ yX9_becomes.cls ≠ "java/lang/invoke/MethodHandle" ∧ yX9_becomes.cls ≠ "java/lang/invoke/VarHandle" ∧ (parseMethodDescriptor yX9_becomes.desc).map (fun d => d.parameters.length) = some 3 := by first | exact ⟨rfl, hk_X9.1, hk_X9.2, pd_44⟩ | decide +kernel
theorem hd_X9_check : yX9_check.cls = RX9 ∧ yX9_check.cls ≠ "java/lang/invoke/MethodHandle" ∧ yX9_check.cls ≠ "java/lang/invoke/VarHandle" ∧ (parseMethodDescriptor yX9_check.desc).map (fun d => d.parameters.length) = some 5 := by first | exact ⟨rfl, hk_X9.1, hk_X9.2, pd_20⟩ | decide +kernel
theorem hd_X9_checked : yX9_checked.cls = RX9 ∧ yX9_checked.cls ≠ "java/lang/invoke/MethodHandle" ∧ yX9_checked.cls ≠ "java/lang/invoke/VarHandle" ∧ (parseMethodDescriptor yX9_checked.desc).map (fun d => d.parameters.length) = some 2 := by first | exact ⟨rfl, hk_X9.1, hk_X9.2, pd_21⟩ | decide +kernel
theorem hd_X9_count : yX9_count.cls = RX9 ∧ yX9_count.cls ≠ "java/lang/invoke/MethodHandle" ∧ yX9_count.cls ≠ "java/lang/invoke/VarHandle" ∧ (parseMethodDescriptor yX9_count.desc).map (fun d => d.parameters.length) = some 1 := by first | exact ⟨rfl, hk_X9.1, hk_X9.2, pd_13⟩ | decide +kernel
theorem pd_45 : (parseMethodDescriptor "(IJ)J").map (fun d => d.parameters.length) = some 2 := by decide +kernel
theorem hd_X9_cut : yX9_cut.cls = RX9 ∧ yX9_cut.cls ≠ "java/lang/invoke/MethodHandle" ∧ yX9_cut.cls ≠ "java/lang/invoke/VarHandle" ∧ (parseMethodDescriptor yX9_cut.desc).map (fun d => d.parameters.length) = some 2 := by first | exact ⟨rfl, hk_X9.1, hk_X9.2, pd_45⟩ | decide +kernel
theorem hd_X9_differs : yX9_differs.cls = RX9 ∧ yX9_differs.cls ≠ "java/lang/invoke/MethodHandle" ∧ yX9_differs.cls ≠ "java/lang/invoke/VarHandle" ∧ (parseMethodDescriptor yX9_differs.desc).map (fun d => d.parameters.length) = some 2 := by first | exact ⟨rfl, hk_X9.1, hk_X9.2, pd_21⟩ | decide +kernel
theorem hd_X9_drop : yX9_drop.cls = RX9 ∧ yX9_drop.cls ≠ "java/lang/invoke/MethodHandle" ∧ yX9_drop.cls ≠ "java/lang/invoke/VarHandle" ∧ (parseMethodDescriptor yX9_drop.desc).map (fun d => d.parameters.length) = some 2 := by first | exact ⟨rfl, hk_X9.1, hk_X9.2, pd_21⟩ | decide +kernel
theorem hd_X9_fault : yX9_fault.cls = RX9 ∧ yX9_fault.cls ≠ "java/lang/invoke/MethodHandle" ∧ yX9_fault.cls ≠ "java/lang/invoke/VarHandle" ∧ (parseMethodDescriptor yX9_fault.desc).map (fun d => d.parameters.length) = some 1 := by first | exact ⟨rfl, hk_X9.1, hk_X9.2, pd_13⟩ | decide +kernel
theorem hd_X9_faulty : yX9_faulty.cls = RX9 ∧ yX9_faulty.cls ≠ "java/lang/invoke/MethodHandle" ∧ yX9_faulty.cls ≠ "java/lang/invoke/VarHandle" ∧ (parseMethodDescriptor yX9_faulty.desc).map (fun d => d.parameters.length) = some 4 := by first | exact ⟨rfl, hk_X9.1, hk_X9.2, pd_38⟩ | decide +kernel
theorem hd_X9_field : yX9_field.cls = RX9 ∧ yX9_field.cls ≠ "java/lang/invoke/MethodHandle" ∧ yX9_field.cls ≠ "java/lang/invoke/VarHandle" ∧ (parseMethodDescriptor yX9_field.desc).map (fun d => d.parameters.length) = some 4 := by first | exact ⟨rfl, hk_X9.1, hk_X9.2, pd_23⟩ | decide +kernel
theorem hd_X9_fieldsBack : yX9_fieldsBack.cls = RX9 ∧ yX9_fieldsBack.cls ≠ "java/lang/invoke/MethodHandle" ∧ yX9_fieldsBack.cls ≠ "java/lang/invoke/VarHandle" ∧ (parseMethodDescriptor yX9_fieldsBack.desc).map (fun d => d.parameters.length) = some 4 := by first | exact ⟨rfl, hk_X9.1, hk_X9.2, pd_38⟩ | decide +kernel
theorem hd_X9_forget : yX9_forget.cls = RX9 ∧ yX9_forget.cls ≠ "java/lang/invoke/MethodHandle" ∧ yX9_forget.cls ≠ "java/lang/invoke/VarHandle" ∧ (parseMethodDescriptor yX9_forget.desc).map (fun d => d.parameters.length) = some 0 := by first | exact ⟨rfl, hk_X9.1, hk_X9.2, pd_5⟩ | decide +kernel
theorem hd_X9_goes : yX9_goes.cls = RX9 ∧ yX9_goes.cls ≠ "java/lang/invoke/MethodHandle" ∧ yX9_goes.cls ≠ "java/lang/invoke/VarHandle" ∧ (parseMethodDescriptor yX9_goes.desc).map (fun d => d.parameters.length) = some 2 := by first | exact ⟨rfl, hk_X9.1, hk_X9.2, pd_15⟩ | decide +kernel
theorem hd_X9_isField : yX9_isField.cls = RX9 ∧ yX9_isField.cls ≠ "java/lang/invoke/MethodHandle" ∧ yX9_isField.cls ≠ "java/lang/invoke/VarHandle" ∧ (parseMethodDescriptor yX9_isField.desc).map (fun d => d.parameters.length) = some 2 := by first | exact ⟨rfl, hk_X9.1, hk_X9.2, pd_15⟩ | decide +kernel
theorem hd_X9_isFull : yX9_isFull.cls = RX9 ∧ yX9_isFull.cls ≠ "java/lang/invoke/MethodHandle" ∧ yX9_isFull.cls ≠ "java/lang/invoke/VarHandle" ∧ (parseMethodDescriptor yX9_isFull.desc).map (fun d => d.parameters.length) = some 0 := by first | exact ⟨rfl, hk_X9.1, hk_X9.2, pd_2⟩ | decide +kernel
theorem pd_46 : (parseMethodDescriptor "(IIII)Z").map (fun d => d.parameters.length) = some 4 := by decide +kernel
theorem hd_X9_isLane : yX9_isLane.cls = RX9 ∧ yX9_isLane.cls ≠ "java/lang/invoke/MethodHandle" ∧ yX9_isLane.cls ≠ "java/lang/invoke/VarHandle" ∧ (parseMethodDescriptor yX9_isLane.desc).map (fun d => d.parameters.length) = some 4 := by first | exact ⟨rfl, hk_X9.1, hk_X9.2, pd_46⟩ | decide +kernel
theorem hd_X9_isSave : yX9_isSave.cls = RX9 ∧ yX9_isSave.cls ≠ "java/lang/invoke/MethodHandle" ∧ yX9_isSave.cls ≠ "java/lang/invoke/VarHandle" ∧ (parseMethodDescriptor yX9_isSave.desc).map (fun d => d.parameters.length) = some 1 := by first | exact ⟨rfl, hk_X9.1, hk_X9.2, pd_14⟩ | decide +kernel
theorem hd_X9_isThing : yX9_isThing.cls = RX9 ∧ yX9_isThing.cls ≠ "java/lang/invoke/MethodHandle" ∧ yX9_isThing.cls ≠ "java/lang/invoke/VarHandle" ∧ (parseMethodDescriptor yX9_isThing.desc).map (fun d => d.parameters.length) = some 1 := by first | exact ⟨rfl, hk_X9.1, hk_X9.2, pd_14⟩ | decide +kernel
theorem hd_X9_isType : yX9_isType.cls = RX9 ∧ yX9_isType.cls ≠ "java/lang/invoke/MethodHandle" ∧ yX9_isType.cls ≠ "java/lang/invoke/VarHandle" ∧ (parseMethodDescriptor yX9_isType.desc).map (fun d => d.parameters.length) = some 1 := by first | exact ⟨rfl, hk_X9.1, hk_X9.2, pd_14⟩ | decide +kernel
theorem hd_X9_item : yX9_item.cls = RX9 ∧ yX9_item.cls ≠ "java/lang/invoke/MethodHandle" ∧ yX9_item.cls ≠ "java/lang/invoke/VarHandle" ∧ (parseMethodDescriptor yX9_item.desc).map (fun d => d.parameters.length) = some 4 := by first | exact ⟨rfl, hk_X9.1, hk_X9.2, pd_23⟩ | decide +kernel
theorem hd_X9_itemAt : yX9_itemAt.cls = RX9 ∧ yX9_itemAt.cls ≠ "java/lang/invoke/MethodHandle" ∧ yX9_itemAt.cls ≠ "java/lang/invoke/VarHandle" ∧ (parseMethodDescriptor yX9_itemAt.desc).map (fun d => d.parameters.length) = some 3 := by first | exact ⟨rfl, hk_X9.1, hk_X9.2, pd_30⟩ | decide +kernel
theorem hd_X9_judge : yX9_judge.cls = RX9 ∧ yX9_judge.cls ≠ "java/lang/invoke/MethodHandle" ∧ yX9_judge.cls ≠ "java/lang/invoke/VarHandle" ∧ (parseMethodDescriptor yX9_judge.desc).map (fun d => d.parameters.length) = some 1 := by first | exact ⟨rfl, hk_X9.1, hk_X9.2, pd_13⟩ | decide +kernel
theorem hd_X9_judged : yX9_judged.cls = RX9 ∧ yX9_judged.cls ≠ "java/lang/invoke/MethodHandle" ∧ yX9_judged.cls ≠ "java/lang/invoke/VarHandle" ∧ (parseMethodDescriptor yX9_judged.desc).map (fun d => d.parameters.length) = some 1 := by first | exact ⟨rfl, hk_X9.1, hk_X9.2, pd_13⟩ | decide +kernel
theorem hd_X9_lane : yX9_lane.cls = RX9 ∧ yX9_lane.cls ≠ "java/lang/invoke/MethodHandle" ∧ yX9_lane.cls ≠ "java/lang/invoke/VarHandle" ∧ (parseMethodDescriptor yX9_lane.desc).map (fun d => d.parameters.length) = some 2 := by first | exact ⟨rfl, hk_X9.1, hk_X9.2, pd_21⟩ | decide +kernel
theorem hd_X9_like : yX9_like.cls = RX9 ∧ yX9_like.cls ≠ "java/lang/invoke/MethodHandle" ∧ yX9_like.cls ≠ "java/lang/invoke/VarHandle" ∧ (parseMethodDescriptor yX9_like.desc).map (fun d => d.parameters.length) = some 2 := by first | exact ⟨rfl, hk_X9.1, hk_X9.2, pd_21⟩ | decide +kernel
theorem hd_X9_mark : yX9_mark.cls = RX9 ∧ yX9_mark.cls ≠ "java/lang/invoke/MethodHandle" ∧ yX9_mark.cls ≠ "java/lang/invoke/VarHandle" ∧ (parseMethodDescriptor yX9_mark.desc).map (fun d => d.parameters.length) = some 0 := by first | exact ⟨rfl, hk_X9.1, hk_X9.2, pd_5⟩ | decide +kernel
theorem hd_X9_meets : yX9_meets.cls = RX9 ∧ yX9_meets.cls ≠ "java/lang/invoke/MethodHandle" ∧ yX9_meets.cls ≠ "java/lang/invoke/VarHandle" ∧ (parseMethodDescriptor yX9_meets.desc).map (fun d => d.parameters.length) = some 2 := by first | exact ⟨rfl, hk_X9.1, hk_X9.2, pd_15⟩ | decide +kernel
theorem hd_X9_named : yX9_named.cls = RX9 ∧ yX9_named.cls ≠ "java/lang/invoke/MethodHandle" ∧ yX9_named.cls ≠ "java/lang/invoke/VarHandle" ∧ (parseMethodDescriptor yX9_named.desc).map (fun d => d.parameters.length) = some 2 := by first | exact ⟨rfl, hk_X9.1, hk_X9.2, pd_21⟩ | decide +kernel
theorem hd_X9_newRow : yX9_newRow.cls = RX9 ∧ yX9_newRow.cls ≠ "java/lang/invoke/MethodHandle" ∧ yX9_newRow.cls ≠ "java/lang/invoke/VarHandle" ∧ (parseMethodDescriptor yX9_newRow.desc).map (fun d => d.parameters.length) = some 2 := by first | exact ⟨rfl, hk_X9.1, hk_X9.2, pd_21⟩ | decide +kernel
theorem hd_X9_put : yX9_put.cls = RX9 ∧ yX9_put.cls ≠ "java/lang/invoke/MethodHandle" ∧ yX9_put.cls ≠ "java/lang/invoke/VarHandle" ∧ (parseMethodDescriptor yX9_put.desc).map (fun d => d.parameters.length) = some 3 := by first | exact ⟨rfl, hk_X9.1, hk_X9.2, pd_12⟩ | decide +kernel
theorem hd_X9_recordOf : yX9_recordOf.cls = RX9 ∧ yX9_recordOf.cls ≠ "java/lang/invoke/MethodHandle" ∧ yX9_recordOf.cls ≠ "java/lang/invoke/VarHandle" ∧ (parseMethodDescriptor yX9_recordOf.desc).map (fun d => d.parameters.length) = some 2 := by first | exact ⟨rfl, hk_X9.1, hk_X9.2, pd_21⟩ | decide +kernel
theorem hd_X9_refer : yX9_refer.cls = RX9 ∧ yX9_refer.cls ≠ "java/lang/invoke/MethodHandle" ∧ yX9_refer.cls ≠ "java/lang/invoke/VarHandle" ∧ (parseMethodDescriptor yX9_refer.desc).map (fun d => d.parameters.length) = some 3 := by first | exact ⟨rfl, hk_X9.1, hk_X9.2, pd_36⟩ | decide +kernel
theorem hd_X9_restore : yX9_restore.cls = RX9 ∧ yX9_restore.cls ≠ "java/lang/invoke/MethodHandle" ∧ yX9_restore.cls ≠ "java/lang/invoke/VarHandle" ∧ (parseMethodDescriptor yX9_restore.desc).map (fun d => d.parameters.length) = some 2 := by first | exact ⟨rfl, hk_X9.1, hk_X9.2, pd_21⟩ | decide +kernel
theorem hd_X9_row : yX9_row.cls = RX9 ∧ yX9_row.cls ≠ "java/lang/invoke/MethodHandle" ∧ yX9_row.cls ≠ "java/lang/invoke/VarHandle" ∧ (parseMethodDescriptor yX9_row.desc).map (fun d => d.parameters.length) = some 3 := by first | exact ⟨rfl, hk_X9.1, hk_X9.2, pd_36⟩ | decide +kernel
theorem hd_X9_rowBack : yX9_rowBack.cls = RX9 ∧ yX9_rowBack.cls ≠ "java/lang/invoke/MethodHandle" ∧ yX9_rowBack.cls ≠ "java/lang/invoke/VarHandle" ∧ (parseMethodDescriptor yX9_rowBack.desc).map (fun d => d.parameters.length) = some 3 := by first | exact ⟨rfl, hk_X9.1, hk_X9.2, pd_36⟩ | decide +kernel
theorem hd_X9_rowOf : yX9_rowOf.cls = RX9 ∧ yX9_rowOf.cls ≠ "java/lang/invoke/MethodHandle" ∧ yX9_rowOf.cls ≠ "java/lang/invoke/VarHandle" ∧ (parseMethodDescriptor yX9_rowOf.desc).map (fun d => d.parameters.length) = some 2 := by first | exact ⟨rfl, hk_X9.1, hk_X9.2, pd_21⟩ | decide +kernel
theorem hd_X9_rowsDiffer : yX9_rowsDiffer.cls = RX9 ∧ yX9_rowsDiffer.cls ≠ "java/lang/invoke/MethodHandle" ∧ yX9_rowsDiffer.cls ≠ "java/lang/invoke/VarHandle" ∧ (parseMethodDescriptor yX9_rowsDiffer.desc).map (fun d => d.parameters.length) = some 2 := by first | exact ⟨rfl, hk_X9.1, hk_X9.2, pd_15⟩ | decide +kernel
theorem hd_X9_rowsMeet : yX9_rowsMeet.cls = RX9 ∧ yX9_rowsMeet.cls ≠ "java/lang/invoke/MethodHandle" ∧ yX9_rowsMeet.cls ≠ "java/lang/invoke/VarHandle" ∧ (parseMethodDescriptor yX9_rowsMeet.desc).map (fun d => d.parameters.length) = some 2 := by first | exact ⟨rfl, hk_X9.1, hk_X9.2, pd_15⟩ | decide +kernel
theorem hd_X9_save : yX9_save.cls = RX9 ∧ yX9_save.cls ≠ "java/lang/invoke/MethodHandle" ∧ yX9_save.cls ≠ "java/lang/invoke/VarHandle" ∧ (parseMethodDescriptor yX9_save.desc).map (fun d => d.parameters.length) = some 2 := by first | exact ⟨rfl, hk_X9.1, hk_X9.2, pd_21⟩ | decide +kernel
theorem hd_X9_saved : yX9_saved.cls = RX9 ∧ yX9_saved.cls ≠ "java/lang/invoke/MethodHandle" ∧ yX9_saved.cls ≠ "java/lang/invoke/VarHandle" ∧ (parseMethodDescriptor yX9_saved.desc).map (fun d => d.parameters.length) = some 2 := by first | exact ⟨rfl, hk_X9.1, hk_X9.2, pd_21⟩ | decide +kernel
theorem hd_X9_saves : yX9_saves.cls = RX9 ∧ yX9_saves.cls ≠ "java/lang/invoke/MethodHandle" ∧ yX9_saves.cls ≠ "java/lang/invoke/VarHandle" ∧ (parseMethodDescriptor yX9_saves.desc).map (fun d => d.parameters.length) = some 2 := by first | exact ⟨rfl, hk_X9.1, hk_X9.2, pd_43⟩ | decide +kernel
theorem hd_X9_share : yX9_share.cls = RX9 ∧ yX9_share.cls ≠ "java/lang/invoke/MethodHandle" ∧ yX9_share.cls ≠ "java/lang/invoke/VarHandle" ∧ (parseMethodDescriptor yX9_share.desc).map (fun d => d.parameters.length) = some 4 := by first | exact ⟨rfl, hk_X9.1, hk_X9.2, pd_38⟩ | decide +kernel
theorem hd_X9_shut : yX9_shut.cls = RX9 ∧ yX9_shut.cls ≠ "java/lang/invoke/MethodHandle" ∧ yX9_shut.cls ≠ "java/lang/invoke/VarHandle" ∧ (parseMethodDescriptor yX9_shut.desc).map (fun d => d.parameters.length) = some 3 := by first | exact ⟨rfl, hk_X9.1, hk_X9.2, pd_39⟩ | decide +kernel
theorem hd_X9_thing : yX9_thing.cls = RX9 ∧ yX9_thing.cls ≠ "java/lang/invoke/MethodHandle" ∧ yX9_thing.cls ≠ "java/lang/invoke/VarHandle" ∧ (parseMethodDescriptor yX9_thing.desc).map (fun d => d.parameters.length) = some 1 := by first | exact ⟨rfl, hk_X9.1, hk_X9.2, pd_13⟩ | decide +kernel
theorem hd_X9_told : yX9_told.cls = RX9 ∧ yX9_told.cls ≠ "java/lang/invoke/MethodHandle" ∧ yX9_told.cls ≠ "java/lang/invoke/VarHandle" ∧ (parseMethodDescriptor yX9_told.desc).map (fun d => d.parameters.length) = some 2 := by first | exact ⟨rfl, hk_X9.1, hk_X9.2, pd_21⟩ | decide +kernel
theorem hd_X9_type : yX9_type.cls = RX9 ∧ yX9_type.cls ≠ "java/lang/invoke/MethodHandle" ∧ yX9_type.cls ≠ "java/lang/invoke/VarHandle" ∧ (parseMethodDescriptor yX9_type.desc).map (fun d => d.parameters.length) = some 0 := by first | exact ⟨rfl, hk_X9.1, hk_X9.2, pd_5⟩ | decide +kernel
theorem hd_X9_unchecked : yX9_unchecked.cls = RX9 ∧ yX9_unchecked.cls ≠ "java/lang/invoke/MethodHandle" ∧ yX9_unchecked.cls ≠ "java/lang/invoke/VarHandle" ∧ (parseMethodDescriptor yX9_unchecked.desc).map (fun d => d.parameters.length) = some 1 := by first | exact ⟨rfl, hk_X9.1, hk_X9.2, pd_13⟩ | decide +kernel
theorem hd_X9_undo : yX9_undo.cls = RX9 ∧ yX9_undo.cls ≠ "java/lang/invoke/MethodHandle" ∧ yX9_undo.cls ≠ "java/lang/invoke/VarHandle" ∧ (parseMethodDescriptor yX9_undo.desc).map (fun d => d.parameters.length) = some 0 := by first | exact ⟨rfl, hk_X9.1, hk_X9.2, pd_5⟩ | decide +kernel
theorem hd_X9_word : yX9_word.cls = RX9 ∧ yX9_word.cls ≠ "java/lang/invoke/MethodHandle" ∧ yX9_word.cls ≠ "java/lang/invoke/VarHandle" ∧ (parseMethodDescriptor yX9_word.desc).map (fun d => d.parameters.length) = some 2 := by first | exact ⟨rfl, hk_X9.1, hk_X9.2, pd_43⟩ | decide +kernel
end
section
/-! numbers: every int and long as an integer -/
def jI (z : Int) : Int32 := Int32.ofInt z
def jL (z : Int) : Int64 := Int64.ofInt z
theorem jI_add (a b : Int) : jI a + jI b = jI (a + b) := (Int32.ofInt_add a b).symm
theorem jI_sub (a b : Int) : jI a - jI b = jI (a - b) := (Int32.ofInt_sub a b).symm
theorem jI_mul (a b : Int) : jI a * jI b = jI (a * b) := (Int32.ofInt_mul a b).symm
theorem jL_add (a b : Int) : jL a + jL b = jL (a + b) := (Int64.ofInt_add a b).symm
theorem jI_toInt {a : Int} (h : -2147483648 ≤ a ∧ a ≤ 2147483647) : (jI a).toInt = a := Int32.toInt_ofInt_of_le (by omega) (by omega)
theorem jL_toInt {a : Int} (h : -9223372036854775808 ≤ a ∧ a ≤ 9223372036854775807) : (jL a).toInt = a := Int64.toInt_ofInt_of_le (by omega) (by omega)
theorem jI_of (x : Int32) : ∃ z : Int, (-2147483648 ≤ z ∧ z ≤ 2147483647) ∧ x = jI z := ⟨x.toInt, ⟨by have := x.le_toInt; omega, by have := x.toInt_lt; omega⟩, (Int32.ofInt_toInt x).symm⟩
theorem jL_of (x : Int64) : ∃ z : Int, (-9223372036854775808 ≤ z ∧ z ≤ 9223372036854775807) ∧ x = jL z := ⟨x.toInt, ⟨by have := x.le_toInt; omega, by have := x.toInt_lt; omega⟩, (Int64.ofInt_toInt x).symm⟩
theorem jI_lt {a b : Int} (ha : -2147483648 ≤ a ∧ a ≤ 2147483647) (hb : -2147483648 ≤ b ∧ b ≤ 2147483647) : jI a < jI b ↔ a < b := by rw [Int32.lt_iff_toInt_lt, jI_toInt ha, jI_toInt hb]
theorem jI_le {a b : Int} (ha : -2147483648 ≤ a ∧ a ≤ 2147483647) (hb : -2147483648 ≤ b ∧ b ≤ 2147483647) : jI a ≤ jI b ↔ a ≤ b := by rw [Int32.le_iff_toInt_le, jI_toInt ha, jI_toInt hb]
theorem jI_eq {a b : Int} (ha : -2147483648 ≤ a ∧ a ≤ 2147483647) (hb : -2147483648 ≤ b ∧ b ≤ 2147483647) : jI a = jI b ↔ a = b := by rw [← Int32.toInt_inj, jI_toInt ha, jI_toInt hb]
theorem jL_lt {a b : Int} (ha : -9223372036854775808 ≤ a ∧ a ≤ 9223372036854775807) (hb : -9223372036854775808 ≤ b ∧ b ≤ 9223372036854775807) : jL a < jL b ↔ a < b := by rw [Int64.lt_iff_toInt_lt, jL_toInt ha, jL_toInt hb]
theorem jL_eq {a b : Int} (ha : -9223372036854775808 ≤ a ∧ a ≤ 9223372036854775807) (hb : -9223372036854775808 ≤ b ∧ b ≤ 9223372036854775807) : jL a = jL b ↔ a = b := by rw [← Int64.toInt_inj, jL_toInt ha, jL_toInt hb]
theorem jI_0 : (0 : Int32) = jI 0 := by decide
theorem jI_cl {a : Int} (h0 : 0 ≤ a) (h1 : a ≤ 2147483647) : ((jI a).toNatClampNeg : Int) = a := by
  have := Int32.toNatClampNeg_ofInt_of_le (n := a) (by omega) (by omega)
  unfold jI
  rw [this]
  omega
theorem jI_in {a : Int} {n : Nat} (h0 : 0 ≤ a) (h1 : a < n) (hn : a ≤ 2147483647) : vp_in (jI a) n := by
  rw [vp_in_iff, jI_toInt (by omega)]
  exact ⟨h0, h1⟩
theorem jI_i2l {a : Int} (h : -2147483648 ≤ a ∧ a ≤ 2147483647) : (jI a).toInt64 = jL a := by
  rw [← Int64.toInt_inj, Int32.toInt_toInt64, jI_toInt h, jL_toInt (by omega)]
theorem jL_l2i (a : Int) : (jL a).toInt32 = jI a := Int64.toInt32_ofInt
def cmpZ (a b : Int) : Int := if b < a then 1 else if a = b then 0 else -1
theorem cmpZ_r (a b : Int) : -1 ≤ cmpZ a b ∧ cmpZ a b ≤ 1 := by unfold cmpZ; split <;> (try split) <;> omega
theorem cmpZ_lt {a b : Int} : cmpZ a b < 0 ↔ a < b := by unfold cmpZ; split <;> (try split) <;> omega
theorem cmpZ_eq {a b : Int} : cmpZ a b = 0 ↔ a = b := by unfold cmpZ; split <;> (try split) <;> omega
theorem cmpZ_gt {a b : Int} : 0 < cmpZ a b ↔ b < a := by unfold cmpZ; split <;> (try split) <;> omega
theorem lg_cmpZ {a b : Int} (ha : -9223372036854775808 ≤ a ∧ a ≤ 9223372036854775807) (hb : -9223372036854775808 ≤ b ∧ b ≤ 9223372036854775807) : lg_cmp (jL a) (jL b) = jI (cmpZ a b) := by
  unfold lg_cmp cmpZ
  simp only [gt_iff_lt, jL_lt hb ha, jL_eq ha hb]
  split
  · decide
  · split <;> decide
/-! the state: what each slot of each cell holds, by kind and number -/
def u3 {α : Type} (X : Nat → Int → Int → α) (k : Nat) (i j : Int) (v : α) : Nat → Int → Int → α := fun k' i' j' => if k' = k ∧ i' = i ∧ j' = j then v else X k' i' j'
theorem u3_s {α : Type} (X : Nat → Int → Int → α) (k : Nat) (i j : Int) (v : α) : u3 X k i j v k i j = v := by simp [u3]
theorem u3_k {α : Type} (X : Nat → Int → Int → α) {k k' : Nat} (i j : Int) (v : α) (h : k' ≠ k) : u3 X k i j v k' = X k' := by funext i' j'; simp [u3, h]
theorem u3_i {α : Type} (X : Nat → Int → Int → α) (k : Nat) {i i' : Int} (j : Int) (v : α) (h : i' ≠ i) : u3 X k i j v k i' = X k i' := by funext j'; simp [u3, h]
theorem u3_j {α : Type} (X : Nat → Int → Int → α) (k : Nat) (i : Int) {j j' : Int} (v : α) (h : j' ≠ j) : u3 X k i j v k i j' = X k i j' := by simp [u3, h]
theorem u3_ne {α : Type} (X : Nat → Int → Int → α) (k k' : Nat) (i i' : Int) (j : Int) (v : α) (h : ¬ (k' = k ∧ i' = i)) : u3 X k i j v k' i' = X k' i' := by
  funext j'
  simp only [u3]
  rw [if_neg (fun q => h ⟨q.1, q.2.1⟩)]
theorem zlt {c : Int} (h : c = 1) : 0 < c := by rw [h]; decide
/-! lists of numbers: whether one stands in another, by a function that the elaborator runs fast -/
def nlm (a : Nat) : List Nat → Bool
  | [] => false
  | b :: l => cond (Nat.beq a b) true (nlm a l)
theorem nlm_iff {a : Nat} {l : List Nat} : nlm a l = true ↔ a ∈ l := by
  induction l with
  | nil => simp [nlm]
  | cons b l ih =>
    simp only [nlm, List.mem_cons]
    cases e : Nat.beq a b with
    | true => exact ⟨fun _ => Or.inl (Nat.eq_of_beq_eq_true e), fun _ => rfl⟩
    | false => exact ⟨fun h => Or.inr (ih.mp h), fun h => h.elim (fun q => absurd q (Nat.ne_of_beq_eq_false e)) ih.mpr⟩
theorem nlm_in {a : Nat} {l : List Nat} (h : nlm a l = true) : a ∈ l := nlm_iff.mp h
theorem nlm_ni {a : Nat} {l : List Nat} (h : nlm a l = false) : a ∉ l := fun q => by rw [nlm_iff.mpr q] at h; cases h
def nls (m : List Nat) : List Nat → Bool
  | [] => true
  | a :: l => cond (nlm a m) (nls m l) false
theorem nls_of {m l : List Nat} (h : nls m l = true) : ∀ c ∈ l, c ∈ m := by
  induction l with
  | nil => intro c hc; cases hc
  | cons a l ih =>
    intro c hc
    simp only [nls] at h
    cases e : nlm a m with
    | true => rw [e] at h; exact (List.mem_cons.mp hc).elim (fun q => by rw [q]; exact nlm_in e) (ih h c)
    | false => rw [e] at h; cases h
def nlx (m : List Nat) : List Nat → Bool
  | [] => true
  | a :: l => cond (nlm a m) false (nlx m l)
theorem nlx_of {m l : List Nat} (h : nlx m l = true) : ∀ q ∈ l, q ∉ m := by
  induction l with
  | nil => intro c hc; cases hc
  | cons a l ih =>
    intro c hc
    simp only [nlx] at h
    cases e : nlm a m with
    | true => rw [e] at h; cases h
    | false => rw [e] at h; exact (List.mem_cons.mp hc).elim (fun q => by rw [q]; exact nlm_ni e) (ih h c)
def nll (n : Nat) : List Nat → Bool
  | [] => true
  | a :: l => cond (Nat.ble (a + 1) n) (nll n l) false
theorem nll_of {n : Nat} {l : List Nat} (h : nll n l = true) : ∀ q ∈ l, q < n := by
  induction l with
  | nil => intro c hc; cases hc
  | cons a l ih =>
    intro c hc
    simp only [nll] at h
    cases e : Nat.ble (a + 1) n with
    | true => rw [e] at h; exact (List.mem_cons.mp hc).elim (fun q => by rw [q]; exact Nat.le_of_ble_eq_true e) (ih h c)
    | false => rw [e] at h; cases h
def nlg (n : Nat) : List Nat → Bool
  | [] => true
  | a :: l => cond (Nat.ble (n + 1) a) (nlg n l) false
theorem nlg_of {n : Nat} {l : List Nat} (h : nlg n l = true) : ∀ q ∈ l, n < q := by
  induction l with
  | nil => intro c hc; cases hc
  | cons a l ih =>
    intro c hc
    simp only [nlg] at h
    cases e : Nat.ble (n + 1) a with
    | true => rw [e] at h; exact (List.mem_cons.mp hc).elim (fun q => by rw [q]; exact Nat.le_of_ble_eq_true e) (ih h c)
    | false => rw [e] at h; cases h
/-! the layout of the kinds: printed by wip/tools/layout.py -/
def layL : List (Nat × List (Nat × Nat) × (Nat × Nat × Nat) × Int) := [(9, [(3, 1), (0, 0), (3, 2), (0, 0), (3, 3), (3, 4), (4, 7), (4, 7), (3, 5), (3, 6), (3, 29), (3, 32)], (9, 0, 0), 0),
  (0, [], (4, 8, 19), 8),
  (0, [], (4, 7, 15), 30),
  (0, [], (0, 2, 0), 16),
  (0, [], (4, 5, 7), 4),
  (0, [], (4, 7, 15), 30),
  (0, [], (4, 6, 26), 450),
  (5, [(0, 0), (3, 8), (3, 9), (3, 10), (3, 11), (3, 12), (0, 0), (3, 13), (3, 14)], (9, 0, 0), 0),
  (0, [], (0, 0, 0), 30),
  (0, [], (0, 0, 0), 30),
  (0, [], (0, 0, 0), 150),
  (0, [], (0, 0, 0), 150),
  (0, [], (1, 1, 0), 150),
  (0, [], (0, 0, 0), 150),
  (0, [], (1, 1, 0), 1800),
  (7, [(4, 19), (3, 16), (3, 17), (0, 0)], (9, 0, 0), 0),
  (0, [], (1, 1, 0), 5),
  (0, [], (4, 6, 26), 5),
  (0, [], (9, 0, 0), 0),
  (8, [(0, 0), (0, 0), (3, 20), (3, 21), (3, 22), (3, 23), (0, 0), (3, 24)], (9, 0, 0), 0),
  (0, [], (0, 0, 0), 5),
  (0, [], (0, 0, 0), 5),
  (0, [], (1, 1, 0), 5),
  (0, [], (0, 2, 0), 5),
  (0, [], (4, 3, 25), 4),
  (1, [(0, 0), (0, 0), (0, 0), (1, 0)], (9, 0, 0), 0),
  (6, [(3, 27), (0, 0)], (9, 0, 0), 0),
  (0, [], (1, 1, 0), (-1)),
  (4, [(4, 15), (0, 0), (1, 0), (4, 26)], (9, 0, 0), 0),
  (3, [(3, 30), (0, 0), (3, 31), (0, 0)], (9, 0, 0), 0),
  (0, [], (4, 4, 28), 80),
  (0, [], (0, 0, 0), 4),
  (2, [(0, 0), (0, 0), (0, 0), (0, 0)], (9, 0, 0), 0),
  (0, [], (9, 0, 0), 0),
  (0, [], (9, 0, 0), 0),
  (0, [], (9, 0, 0), 0),
  (0, [], (9, 0, 0), 0),
  (0, [], (9, 0, 0), 0),
  (0, [], (9, 0, 0), 0),
  (0, [], (9, 0, 0), 0),
  (10, [(0, 0), (3, 42), (0, 0), (3, 44), (3, 45), (3, 46), (3, 47), (3, 48), (3, 49), (3, 50), (3, 51), (3, 52), (3, 53), (0, 0), (3, 55), (3, 56), (3, 57), (3, 58), (3, 59), (3, 60), (0, 0), (3, 62), (0, 0), (3, 64), (3, 65), (3, 66), (3, 67), (3, 68), (0, 0), (3, 70), (3, 71), (3, 72), (3, 73), (3, 74), (3, 75), (3, 76), (3, 77), (3, 78), (3, 79), (3, 80), (3, 81), (0, 0), (0, 0), (0, 0), (3, 85), (3, 86), (3, 87), (3, 88), (3, 89), (3, 90), (0, 0)], (9, 0, 0), 0),
  (0, [], (9, 0, 0), 0),
  (0, [], (0, 2, 0), 16),
  (0, [], (9, 0, 0), 0),
  (0, [], (0, 0, 0), 8),
  (0, [], (0, 0, 0), 40),
  (0, [], (0, 0, 0), 40),
  (0, [], (1, 1, 0), 40),
  (0, [], (0, 2, 0), 40),
  (0, [], (0, 0, 0), 8),
  (0, [], (0, 0, 0), 32),
  (0, [], (0, 0, 0), 32),
  (0, [], (0, 0, 0), 32),
  (0, [], (1, 1, 0), 32),
  (0, [], (9, 0, 0), 0),
  (0, [], (0, 0, 0), 30),
  (0, [], (1, 1, 0), 150),
  (0, [], (0, 0, 0), 400),
  (0, [], (0, 0, 0), 400),
  (0, [], (1, 1, 0), 4800),
  (0, [], (0, 2, 0), 400),
  (0, [], (9, 0, 0), 0),
  (0, [], (0, 0, 0), 4),
  (0, [], (9, 0, 0), 0),
  (0, [], (0, 0, 0), 80),
  (0, [], (0, 0, 0), 80),
  (0, [], (0, 0, 0), 80),
  (0, [], (0, 0, 0), 80),
  (0, [], (1, 1, 0), 80),
  (0, [], (9, 0, 0), 0),
  (0, [], (0, 0, 0), 5),
  (0, [], (0, 0, 0), 150),
  (0, [], (0, 0, 0), 150),
  (0, [], (0, 0, 0), 750),
  (0, [], (0, 0, 0), 750),
  (0, [], (1, 1, 0), 750),
  (0, [], (0, 0, 0), 5),
  (0, [], (0, 0, 0), 750),
  (0, [], (0, 0, 0), 750),
  (0, [], (1, 1, 0), 9000),
  (0, [], (0, 0, 0), 30),
  (0, [], (0, 0, 0), 150),
  (0, [], (9, 0, 0), 0),
  (0, [], (9, 0, 0), 0),
  (0, [], (9, 0, 0), 0),
  (0, [], (0, 0, 0), 450),
  (0, [], (0, 0, 0), 30),
  (0, [], (0, 0, 0), 30),
  (0, [], (0, 0, 0), 400),
  (0, [], (0, 0, 0), 400),
  (0, [], (0, 0, 0), 30),
  (0, [], (9, 0, 0), 0),
  (0, [], (9, 0, 0), 0),
  (0, [], (9, 0, 0), 0),
  (0, [], (9, 0, 0), 0),
  (0, [], (9, 0, 0), 0),
  (0, [], (9, 0, 0), 0),
  (0, [], (9, 0, 0), 0),
  (0, [], (9, 0, 0), 0),
  (0, [], (9, 0, 0), 0),
  (0, [], (1, 1, 0), 1)]
def lay (k : Nat) : Nat × List (Nat × Nat) × (Nat × Nat × Nat) × Int := layL.getD k (0, [], (9, 0, 0), 0)
def slo (k j : Nat) : Nat × Nat := (lay k).2.1.getD j (9, 0)
def SL (k j ci code tgt N : Nat) : Prop := (lay k).1 = ci + 1 ∧ (lay k).2.1.length = N ∧ slo k j = (code, tgt) ∧ j < N
def AR (k code t tgt : Nat) (len : Int) : Prop := (lay k).1 = 0 ∧ (lay k).2.2.1 = (code, t, tgt) ∧ (lay k).2.2.2 = len
theorem sl_0_0 : SL 0 0 8 3 1 12 := by unfold SL slo; decide +kernel
theorem sl_0_1 : SL 0 1 8 0 0 12 := by unfold SL slo; decide +kernel
theorem sl_0_2 : SL 0 2 8 3 2 12 := by unfold SL slo; decide +kernel
theorem sl_0_3 : SL 0 3 8 0 0 12 := by unfold SL slo; decide +kernel
theorem sl_0_4 : SL 0 4 8 3 3 12 := by unfold SL slo; decide +kernel
theorem sl_0_5 : SL 0 5 8 3 4 12 := by unfold SL slo; decide +kernel
theorem sl_0_6 : SL 0 6 8 4 7 12 := by unfold SL slo; decide +kernel
theorem sl_0_7 : SL 0 7 8 4 7 12 := by unfold SL slo; decide +kernel
theorem sl_0_8 : SL 0 8 8 3 5 12 := by unfold SL slo; decide +kernel
theorem sl_0_9 : SL 0 9 8 3 6 12 := by unfold SL slo; decide +kernel
theorem sl_0_10 : SL 0 10 8 3 29 12 := by unfold SL slo; decide +kernel
theorem sl_0_11 : SL 0 11 8 3 32 12 := by unfold SL slo; decide +kernel
theorem sl_7_0 : SL 7 0 4 0 0 9 := by unfold SL slo; decide +kernel
theorem sl_7_1 : SL 7 1 4 3 8 9 := by unfold SL slo; decide +kernel
theorem sl_7_2 : SL 7 2 4 3 9 9 := by unfold SL slo; decide +kernel
theorem sl_7_3 : SL 7 3 4 3 10 9 := by unfold SL slo; decide +kernel
theorem sl_7_4 : SL 7 4 4 3 11 9 := by unfold SL slo; decide +kernel
theorem sl_7_5 : SL 7 5 4 3 12 9 := by unfold SL slo; decide +kernel
theorem sl_7_6 : SL 7 6 4 0 0 9 := by unfold SL slo; decide +kernel
theorem sl_7_7 : SL 7 7 4 3 13 9 := by unfold SL slo; decide +kernel
theorem sl_7_8 : SL 7 8 4 3 14 9 := by unfold SL slo; decide +kernel
theorem sl_15_0 : SL 15 0 6 4 19 4 := by unfold SL slo; decide +kernel
theorem sl_15_1 : SL 15 1 6 3 16 4 := by unfold SL slo; decide +kernel
theorem sl_15_2 : SL 15 2 6 3 17 4 := by unfold SL slo; decide +kernel
theorem sl_15_3 : SL 15 3 6 0 0 4 := by unfold SL slo; decide +kernel
theorem sl_19_0 : SL 19 0 7 0 0 8 := by unfold SL slo; decide +kernel
theorem sl_19_1 : SL 19 1 7 0 0 8 := by unfold SL slo; decide +kernel
theorem sl_19_2 : SL 19 2 7 3 20 8 := by unfold SL slo; decide +kernel
theorem sl_19_3 : SL 19 3 7 3 21 8 := by unfold SL slo; decide +kernel
theorem sl_19_4 : SL 19 4 7 3 22 8 := by unfold SL slo; decide +kernel
theorem sl_19_5 : SL 19 5 7 3 23 8 := by unfold SL slo; decide +kernel
theorem sl_19_6 : SL 19 6 7 0 0 8 := by unfold SL slo; decide +kernel
theorem sl_19_7 : SL 19 7 7 3 24 8 := by unfold SL slo; decide +kernel
theorem sl_25_0 : SL 25 0 0 0 0 4 := by unfold SL slo; decide +kernel
theorem sl_25_1 : SL 25 1 0 0 0 4 := by unfold SL slo; decide +kernel
theorem sl_25_2 : SL 25 2 0 0 0 4 := by unfold SL slo; decide +kernel
theorem sl_25_3 : SL 25 3 0 1 0 4 := by unfold SL slo; decide +kernel
theorem sl_26_0 : SL 26 0 5 3 27 2 := by unfold SL slo; decide +kernel
theorem sl_26_1 : SL 26 1 5 0 0 2 := by unfold SL slo; decide +kernel
theorem sl_28_0 : SL 28 0 3 4 15 4 := by unfold SL slo; decide +kernel
theorem sl_28_1 : SL 28 1 3 0 0 4 := by unfold SL slo; decide +kernel
theorem sl_28_2 : SL 28 2 3 1 0 4 := by unfold SL slo; decide +kernel
theorem sl_28_3 : SL 28 3 3 4 26 4 := by unfold SL slo; decide +kernel
theorem sl_29_0 : SL 29 0 2 3 30 4 := by unfold SL slo; decide +kernel
theorem sl_29_1 : SL 29 1 2 0 0 4 := by unfold SL slo; decide +kernel
theorem sl_29_2 : SL 29 2 2 3 31 4 := by unfold SL slo; decide +kernel
theorem sl_29_3 : SL 29 3 2 0 0 4 := by unfold SL slo; decide +kernel
theorem sl_32_0 : SL 32 0 1 0 0 4 := by unfold SL slo; decide +kernel
theorem sl_32_1 : SL 32 1 1 0 0 4 := by unfold SL slo; decide +kernel
theorem sl_32_2 : SL 32 2 1 0 0 4 := by unfold SL slo; decide +kernel
theorem sl_32_3 : SL 32 3 1 0 0 4 := by unfold SL slo; decide +kernel
theorem sl_40_0 : SL 40 0 9 0 0 51 := by unfold SL slo; decide +kernel
theorem sl_40_1 : SL 40 1 9 3 42 51 := by unfold SL slo; decide +kernel
theorem sl_40_2 : SL 40 2 9 0 0 51 := by unfold SL slo; decide +kernel
theorem sl_40_3 : SL 40 3 9 3 44 51 := by unfold SL slo; decide +kernel
theorem sl_40_4 : SL 40 4 9 3 45 51 := by unfold SL slo; decide +kernel
theorem sl_40_5 : SL 40 5 9 3 46 51 := by unfold SL slo; decide +kernel
theorem sl_40_6 : SL 40 6 9 3 47 51 := by unfold SL slo; decide +kernel
theorem sl_40_7 : SL 40 7 9 3 48 51 := by unfold SL slo; decide +kernel
theorem sl_40_8 : SL 40 8 9 3 49 51 := by unfold SL slo; decide +kernel
theorem sl_40_9 : SL 40 9 9 3 50 51 := by unfold SL slo; decide +kernel
theorem sl_40_10 : SL 40 10 9 3 51 51 := by unfold SL slo; decide +kernel
theorem sl_40_11 : SL 40 11 9 3 52 51 := by unfold SL slo; decide +kernel
theorem sl_40_12 : SL 40 12 9 3 53 51 := by unfold SL slo; decide +kernel
theorem sl_40_13 : SL 40 13 9 0 0 51 := by unfold SL slo; decide +kernel
theorem sl_40_14 : SL 40 14 9 3 55 51 := by unfold SL slo; decide +kernel
theorem sl_40_15 : SL 40 15 9 3 56 51 := by unfold SL slo; decide +kernel
theorem sl_40_16 : SL 40 16 9 3 57 51 := by unfold SL slo; decide +kernel
theorem sl_40_17 : SL 40 17 9 3 58 51 := by unfold SL slo; decide +kernel
theorem sl_40_18 : SL 40 18 9 3 59 51 := by unfold SL slo; decide +kernel
theorem sl_40_19 : SL 40 19 9 3 60 51 := by unfold SL slo; decide +kernel
theorem sl_40_20 : SL 40 20 9 0 0 51 := by unfold SL slo; decide +kernel
theorem sl_40_21 : SL 40 21 9 3 62 51 := by unfold SL slo; decide +kernel
theorem sl_40_22 : SL 40 22 9 0 0 51 := by unfold SL slo; decide +kernel
theorem sl_40_23 : SL 40 23 9 3 64 51 := by unfold SL slo; decide +kernel
theorem sl_40_24 : SL 40 24 9 3 65 51 := by unfold SL slo; decide +kernel
theorem sl_40_25 : SL 40 25 9 3 66 51 := by unfold SL slo; decide +kernel
theorem sl_40_26 : SL 40 26 9 3 67 51 := by unfold SL slo; decide +kernel
theorem sl_40_27 : SL 40 27 9 3 68 51 := by unfold SL slo; decide +kernel
theorem sl_40_28 : SL 40 28 9 0 0 51 := by unfold SL slo; decide +kernel
theorem sl_40_29 : SL 40 29 9 3 70 51 := by unfold SL slo; decide +kernel
theorem sl_40_30 : SL 40 30 9 3 71 51 := by unfold SL slo; decide +kernel
theorem sl_40_31 : SL 40 31 9 3 72 51 := by unfold SL slo; decide +kernel
theorem sl_40_32 : SL 40 32 9 3 73 51 := by unfold SL slo; decide +kernel
theorem sl_40_33 : SL 40 33 9 3 74 51 := by unfold SL slo; decide +kernel
theorem sl_40_34 : SL 40 34 9 3 75 51 := by unfold SL slo; decide +kernel
theorem sl_40_35 : SL 40 35 9 3 76 51 := by unfold SL slo; decide +kernel
theorem sl_40_36 : SL 40 36 9 3 77 51 := by unfold SL slo; decide +kernel
theorem sl_40_37 : SL 40 37 9 3 78 51 := by unfold SL slo; decide +kernel
theorem sl_40_38 : SL 40 38 9 3 79 51 := by unfold SL slo; decide +kernel
theorem sl_40_39 : SL 40 39 9 3 80 51 := by unfold SL slo; decide +kernel
theorem sl_40_40 : SL 40 40 9 3 81 51 := by unfold SL slo; decide +kernel
theorem sl_40_41 : SL 40 41 9 0 0 51 := by unfold SL slo; decide +kernel
theorem sl_40_42 : SL 40 42 9 0 0 51 := by unfold SL slo; decide +kernel
theorem sl_40_43 : SL 40 43 9 0 0 51 := by unfold SL slo; decide +kernel
theorem sl_40_44 : SL 40 44 9 3 85 51 := by unfold SL slo; decide +kernel
theorem sl_40_45 : SL 40 45 9 3 86 51 := by unfold SL slo; decide +kernel
theorem sl_40_46 : SL 40 46 9 3 87 51 := by unfold SL slo; decide +kernel
theorem sl_40_47 : SL 40 47 9 3 88 51 := by unfold SL slo; decide +kernel
theorem sl_40_48 : SL 40 48 9 3 89 51 := by unfold SL slo; decide +kernel
theorem sl_40_49 : SL 40 49 9 3 90 51 := by unfold SL slo; decide +kernel
theorem sl_40_50 : SL 40 50 9 0 0 51 := by unfold SL slo; decide +kernel
theorem ar_1 : AR 1 4 8 19 8 := by unfold AR; decide +kernel
theorem ar_2 : AR 2 4 7 15 30 := by unfold AR; decide +kernel
theorem ar_3 : AR 3 0 2 0 16 := by unfold AR; decide +kernel
theorem ar_4 : AR 4 4 5 7 4 := by unfold AR; decide +kernel
theorem ar_5 : AR 5 4 7 15 30 := by unfold AR; decide +kernel
theorem ar_6 : AR 6 4 6 26 450 := by unfold AR; decide +kernel
theorem ar_8 : AR 8 0 0 0 30 := by unfold AR; decide +kernel
theorem ar_9 : AR 9 0 0 0 30 := by unfold AR; decide +kernel
theorem ar_10 : AR 10 0 0 0 150 := by unfold AR; decide +kernel
theorem ar_11 : AR 11 0 0 0 150 := by unfold AR; decide +kernel
theorem ar_12 : AR 12 1 1 0 150 := by unfold AR; decide +kernel
theorem ar_13 : AR 13 0 0 0 150 := by unfold AR; decide +kernel
theorem ar_14 : AR 14 1 1 0 1800 := by unfold AR; decide +kernel
theorem ar_16 : AR 16 1 1 0 5 := by unfold AR; decide +kernel
theorem ar_17 : AR 17 4 6 26 5 := by unfold AR; decide +kernel
theorem ar_20 : AR 20 0 0 0 5 := by unfold AR; decide +kernel
theorem ar_21 : AR 21 0 0 0 5 := by unfold AR; decide +kernel
theorem ar_22 : AR 22 1 1 0 5 := by unfold AR; decide +kernel
theorem ar_23 : AR 23 0 2 0 5 := by unfold AR; decide +kernel
theorem ar_24 : AR 24 4 3 25 4 := by unfold AR; decide +kernel
theorem ar_27 : AR 27 1 1 0 (-1) := by unfold AR; decide +kernel
theorem ar_30 : AR 30 4 4 28 80 := by unfold AR; decide +kernel
theorem ar_31 : AR 31 0 0 0 4 := by unfold AR; decide +kernel
theorem ar_42 : AR 42 0 2 0 16 := by unfold AR; decide +kernel
theorem ar_44 : AR 44 0 0 0 8 := by unfold AR; decide +kernel
theorem ar_45 : AR 45 0 0 0 40 := by unfold AR; decide +kernel
theorem ar_46 : AR 46 0 0 0 40 := by unfold AR; decide +kernel
theorem ar_47 : AR 47 1 1 0 40 := by unfold AR; decide +kernel
theorem ar_48 : AR 48 0 2 0 40 := by unfold AR; decide +kernel
theorem ar_49 : AR 49 0 0 0 8 := by unfold AR; decide +kernel
theorem ar_50 : AR 50 0 0 0 32 := by unfold AR; decide +kernel
theorem ar_51 : AR 51 0 0 0 32 := by unfold AR; decide +kernel
theorem ar_52 : AR 52 0 0 0 32 := by unfold AR; decide +kernel
theorem ar_53 : AR 53 1 1 0 32 := by unfold AR; decide +kernel
theorem ar_55 : AR 55 0 0 0 30 := by unfold AR; decide +kernel
theorem ar_56 : AR 56 1 1 0 150 := by unfold AR; decide +kernel
theorem ar_57 : AR 57 0 0 0 400 := by unfold AR; decide +kernel
theorem ar_58 : AR 58 0 0 0 400 := by unfold AR; decide +kernel
theorem ar_59 : AR 59 1 1 0 4800 := by unfold AR; decide +kernel
theorem ar_60 : AR 60 0 2 0 400 := by unfold AR; decide +kernel
theorem ar_62 : AR 62 0 0 0 4 := by unfold AR; decide +kernel
theorem ar_64 : AR 64 0 0 0 80 := by unfold AR; decide +kernel
theorem ar_65 : AR 65 0 0 0 80 := by unfold AR; decide +kernel
theorem ar_66 : AR 66 0 0 0 80 := by unfold AR; decide +kernel
theorem ar_67 : AR 67 0 0 0 80 := by unfold AR; decide +kernel
theorem ar_68 : AR 68 1 1 0 80 := by unfold AR; decide +kernel
theorem ar_70 : AR 70 0 0 0 5 := by unfold AR; decide +kernel
theorem ar_71 : AR 71 0 0 0 150 := by unfold AR; decide +kernel
theorem ar_72 : AR 72 0 0 0 150 := by unfold AR; decide +kernel
theorem ar_73 : AR 73 0 0 0 750 := by unfold AR; decide +kernel
theorem ar_74 : AR 74 0 0 0 750 := by unfold AR; decide +kernel
theorem ar_75 : AR 75 1 1 0 750 := by unfold AR; decide +kernel
theorem ar_76 : AR 76 0 0 0 5 := by unfold AR; decide +kernel
theorem ar_77 : AR 77 0 0 0 750 := by unfold AR; decide +kernel
theorem ar_78 : AR 78 0 0 0 750 := by unfold AR; decide +kernel
theorem ar_79 : AR 79 1 1 0 9000 := by unfold AR; decide +kernel
theorem ar_80 : AR 80 0 0 0 30 := by unfold AR; decide +kernel
theorem ar_81 : AR 81 0 0 0 150 := by unfold AR; decide +kernel
theorem ar_85 : AR 85 0 0 0 450 := by unfold AR; decide +kernel
theorem ar_86 : AR 86 0 0 0 30 := by unfold AR; decide +kernel
theorem ar_87 : AR 87 0 0 0 30 := by unfold AR; decide +kernel
theorem ar_88 : AR 88 0 0 0 400 := by unfold AR; decide +kernel
theorem ar_89 : AR 89 0 0 0 400 := by unfold AR; decide +kernel
theorem ar_90 : AR 90 0 0 0 30 := by unfold AR; decide +kernel
theorem ar_100 : AR 100 1 1 0 1 := by unfold AR; decide +kernel

/-! the world: every cell of the class and of the reference, by kind and number -/
abbrev St : Type := (Nat → Int → Nat) × (Nat → Int) × (Nat → Int → Int → Int) × (Nat → Int → Int → Option Int) × (Int → Int)
def slV (ad : Nat → Int → Nat) (X : Nat → Int → Int → Int) (R : Nat → Int → Int → Option Int) (k : Nat) (i : Int) (j : Nat) (c : Nat × Nat) : Value :=
  if c.1 = 0 then .int (jI (X k i j)) else if c.1 = 1 then .long (jL (X k i j)) else if c.1 = 3 then .ref (ad c.2 i) else va_rf ((R k i j).map (ad c.2))
def lenE (ln : Int → Int) (k : Nat) (i : Int) : Int := if k = 27 then ln i else (lay k).2.2.2
def ceE (tc : Nat → ClassId) (ad : Nat → Int → Nat) (X : Nat → Int → Int → Int) (R : Nat → Int → Int → Option Int) (ln : Int → Int) (k : Nat) (i : Int) : va_E :=
  if (lay k).1 = 0 then
    (if (lay k).2.2.1.1 = 0 then .inl (tc (lay k).2.2.1.2.1, (lenE ln k i).toNat, .inl (fun q => jI (X k i q)))
    else if (lay k).2.2.1.1 = 1 then .inl (tc (lay k).2.2.1.2.1, (lenE ln k i).toNat, .inr (.inl (fun q => jL (X k i q))))
    else .inl (tc (lay k).2.2.1.2.1, (lenE ln k i).toNat, .inr (.inr (.inr (.inr (fun q => (R k i q).map (ad (lay k).2.2.1.2.2)))))))
  else .inr ((lay k).1 - 1, (List.range (lay k).2.1.length).map (fun j => slV ad X R k i j (slo k j)))
def tysL (tc : Nat → ClassId) : List (ClassId × FieldType) := [(tc 0, .int), (tc 1, .long), (tc 2, .boolean), (tc 3, .object RX0), (tc 4, .object RX3), (tc 5, .object RX4), (tc 6, .object RX5), (tc 7, .object RX6), (tc 8, .object RX7)]
def rfK (k j t : Nat) : Prop := ((lay k).1 = 0 ∧ (lay k).2.2.1.1 = 4 ∧ (lay k).2.2.1.2.2 = t) ∨ ((lay k).1 ≠ 0 ∧ slo k j = (4, t))
def RefOK (cnt : Nat → Int) (R : Nat → Int → Int → Option Int) : Prop := ∀ (k : Nat) (i : Int) (j t : Nat) (i' : Int), 0 ≤ i → i < cnt k → rfK k j t → R k i j = some i' → 0 ≤ i' ∧ i' < cnt t
def wlE (tc : Nat → ClassId) (ad : Nat → Int → Nat) (X : Nat → Int → Int → Int) (R : Nat → Int → Int → Option Int) (ln : Int → Int) (RL : List (Nat × Int)) : va_W := RL.map fun r => (ad r.1 r.2, ceE tc ad X R ln r.1 r.2)
def wd (D : va_G) (tc : Nat → ClassId) (base : Nat) (u : St) (H : Heap) : Prop :=
  (∃ RL : List (Nat × Int), (∀ k i, (k, i) ∈ RL ↔ (0 ≤ i ∧ i < u.2.1 k)) ∧ va_P D vwCl (wlE tc u.1 u.2.2.1 u.2.2.2.1 u.2.2.2.2 RL) H ∧ va_D (fun q => base ≤ q) (wlE tc u.1 u.2.2.1 u.2.2.2.1 u.2.2.2.2 RL)) ∧ RefOK u.2.1 u.2.2.2.1 ∧ base ≤ H.size
theorem ceE_congr {tc : Nat → ClassId} {ad : Nat → Int → Nat} {X X' : Nat → Int → Int → Int} {R R' : Nat → Int → Int → Option Int} {ln : Int → Int} {k : Nat} {i : Int} (hX : X' k i = X k i) (hR : R' k i = R k i) : ceE tc ad X' R' ln k i = ceE tc ad X R ln k i := by
  unfold ceE slV
  rw [hX, hR]
theorem wd_pos {D : va_G} {tc : Nat → ClassId} {base : Nat} {ad : Nat → Int → Nat} {cnt : Nat → Int} {X : Nat → Int → Int → Int} {R : Nat → Int → Int → Option Int} {ln : Int → Int} {H : Heap} {k : Nat} {i : Int}
    (hw : wd D tc base (ad, cnt, X, R, ln) H) (h0 : 0 ≤ i) (h1 : i < cnt k) : ∃ (ws : va_W) (q0 : Nat), va_P D vwCl ws H ∧ va_D (fun q => base ≤ q) ws ∧ ws[q0]? = some (ad k i, ceE tc ad X R ln k i) ∧
      (∀ (k' : Nat) (i' : Int), 0 ≤ i' → i' < cnt k' → ∃ q1 : Nat, ws[q1]? = some (ad k' i', ceE tc ad X R ln k' i')) ∧
      ∀ (X' : Nat → Int → Int → Int) (R' : Nat → Int → Int → Option Int) (H' : Heap), (∀ k' i', ¬ (k' = k ∧ i' = i) → X' k' i' = X k' i' ∧ R' k' i' = R k' i') → RefOK cnt R' → va_P D vwCl (ws.set q0 (ad k i, ceE tc ad X' R' ln k i)) H' → va_D (fun q => base ≤ q) (ws.set q0 (ad k i, ceE tc ad X' R' ln k i)) → wd D tc base (ad, cnt, X', R', ln) H' := by
  obtain ⟨⟨RL, hRL, hP, hD⟩, -, -⟩ := hw
  have hget : ∀ (k' : Nat) (i' : Int), 0 ≤ i' → i' < cnt k' → ∃ q1 : Nat, RL[q1]? = some (k', i') ∧ (wlE tc ad X R ln RL)[q1]? = some (ad k' i', ceE tc ad X R ln k' i') := by
    intro k' i' g0 g1
    obtain ⟨q1, hq1⟩ := List.getElem?_of_mem ((hRL k' i').mpr ⟨g0, g1⟩)
    exact ⟨q1, hq1, by simp [wlE, hq1]⟩
  obtain ⟨q0, hr, hq⟩ := hget k i h0 h1
  refine ⟨wlE tc ad X R ln RL, q0, hP, hD, hq, fun k' i' g0 g1 => by obtain ⟨q1, -, h⟩ := hget k' i' g0 g1; exact ⟨q1, h⟩, ?_⟩
  intro X' R' H' hne hrf hP' hD'
  have hb : base ≤ H'.size := by
    have hl := (List.getElem?_eq_some_iff.mp hq).1
    have hz := List.getElem?_set_self (a := (ad k i, ceE tc ad X' R' ln k i)) hl
    have h5 := hD'.2 q0 _ hz
    have h6 := (hP' q0 _ hz).lt
    dsimp only at h5 h6
    omega
  have hset : (wlE tc ad X R ln RL).set q0 (ad k i, ceE tc ad X' R' ln k i) = wlE tc ad X' R' ln RL := by
    apply List.ext_getElem?
    intro p
    by_cases hp : p = q0
    · subst hp
      have hl := (List.getElem?_eq_some_iff.mp hq).1
      rw [List.getElem?_set_self hl]
      simp [wlE, hr]
    · rw [List.getElem?_set_ne (Ne.symm hp)]
      simp only [wlE, List.getElem?_map]
      cases hb2 : RL[p]? with
      | none => rfl
      | some r =>
        obtain ⟨rk, ri⟩ := r
        have hn : ¬ (rk = k ∧ ri = i) := by
          rintro ⟨rfl, rfl⟩
          have h2 : (wlE tc ad X R ln RL)[p]? = some (ad rk ri, ceE tc ad X R ln rk ri) := by simp [wlE, hb2]
          exact hp (hD.1 p q0 _ _ h2 hq rfl)
        have h3 := hne rk ri hn
        simp only [Option.map_some]
        rw [ceE_congr h3.1 h3.2]
  rw [hset] at hP' hD'
  exact ⟨⟨RL, hRL, hP', hD'⟩, hrf, hb⟩
theorem wd_size {D : va_G} {tc : Nat → ClassId} {base : Nat} {u : St} {H : Heap} (hw : wd D tc base u H) : base ≤ H.size := hw.2.2
theorem wd_ref {D : va_G} {tc : Nat → ClassId} {base : Nat} {ad : Nat → Int → Nat} {cnt : Nat → Int} {X : Nat → Int → Int → Int} {R : Nat → Int → Int → Option Int} {ln : Int → Int} {H : Heap} (hw : wd D tc base (ad, cnt, X, R, ln) H) : RefOK cnt R := hw.2.1
theorem wd_inj {D : va_G} {tc : Nat → ClassId} {base : Nat} {ad : Nat → Int → Nat} {cnt : Nat → Int} {X : Nat → Int → Int → Int} {R : Nat → Int → Int → Option Int} {ln : Int → Int} {H : Heap} {k k' : Nat} {i i' : Int}
    (hw : wd D tc base (ad, cnt, X, R, ln) H) (h0 : 0 ≤ i) (h1 : i < cnt k) (g0 : 0 ≤ i') (g1 : i' < cnt k') (e : ad k i = ad k' i') : k = k' ∧ i = i' := by
  obtain ⟨⟨RL, hRL, -, hD⟩, -, -⟩ := hw
  obtain ⟨q0, h2⟩ := List.getElem?_of_mem ((hRL k i).mpr ⟨h0, h1⟩)
  obtain ⟨q1, h3⟩ := List.getElem?_of_mem ((hRL k' i').mpr ⟨g0, g1⟩)
  have e0 := hD.1 q0 q1 (ad k i, ceE tc ad X R ln k i) (ad k' i', ceE tc ad X R ln k' i') (by simp [wlE, h2]) (by simp [wlE, h3]) e
  subst e0
  rw [h2] at h3
  cases h3
  exact ⟨rfl, rfl⟩
theorem ob_E {tc : Nat → ClassId} {ad : Nat → Int → Nat} {X : Nat → Int → Int → Int} {R : Nat → Int → Int → Option Int} {ln : Int → Int} {k j ci code tgt N : Nat} {i : Int} (h : SL k j ci code tgt N) :
    ceE tc ad X R ln k i = .inr (ci, (List.range N).map (fun j => slV ad X R k i j (slo k j))) := by
  obtain ⟨h1, h2, -, -⟩ := h
  unfold ceE
  rw [if_neg (by rw [h1]; omega), h1, h2]
  rfl
theorem ar_iE {tc : Nat → ClassId} {ad : Nat → Int → Nat} {X : Nat → Int → Int → Int} {R : Nat → Int → Int → Option Int} {ln : Int → Int} {k t tgt : Nat} {len i : Int} (h : AR k 0 t tgt len) :
    ceE tc ad X R ln k i = .inl (tc t, (lenE ln k i).toNat, .inl (fun q => jI (X k i q))) := by
  obtain ⟨h1, h2, -⟩ := h
  unfold ceE
  rw [if_pos h1, h2]
  rfl
theorem ar_lE {tc : Nat → ClassId} {ad : Nat → Int → Nat} {X : Nat → Int → Int → Int} {R : Nat → Int → Int → Option Int} {ln : Int → Int} {k t tgt : Nat} {len i : Int} (h : AR k 1 t tgt len) :
    ceE tc ad X R ln k i = .inl (tc t, (lenE ln k i).toNat, .inr (.inl (fun q => jL (X k i q)))) := by
  obtain ⟨h1, h2, -⟩ := h
  unfold ceE
  rw [if_pos h1, h2]
  rfl
theorem ar_rE {tc : Nat → ClassId} {ad : Nat → Int → Nat} {X : Nat → Int → Int → Int} {R : Nat → Int → Int → Option Int} {ln : Int → Int} {k t tgt : Nat} {len i : Int} (h : AR k 4 t tgt len) :
    ceE tc ad X R ln k i = .inl (tc t, (lenE ln k i).toNat, .inr (.inr (.inr (.inr (fun q => (R k i q).map (ad tgt)))))) := by
  obtain ⟨h1, h2, -⟩ := h
  unfold ceE
  rw [if_pos h1, h2]
  rfl
theorem mp_set {N j : Nat} {g g' : Nat → Value} {v : Value} (hj : j < N) (hv : g' j = v) (ho : ∀ i, i ≠ j → g' i = g i) : ((List.range N).map g).set j v = (List.range N).map g' := by
  apply List.ext_getElem?
  intro q
  by_cases hq : q = j
  · subst hq
    rw [List.getElem?_set_self (by simpa using hj)]
    simp [hj, hv]
  · rw [List.getElem?_set_ne (Ne.symm hq)]
    simp only [List.getElem?_map]
    by_cases hqn : q < N
    · simp [hqn, ho q hq]
    · have : (List.range N)[q]? = none := by simp; omega
      rw [this]; rfl
theorem refOK_X {cnt : Nat → Int} {R : Nat → Int → Int → Option Int} (h : RefOK cnt R) : RefOK cnt R := h
theorem refOK_s {cnt : Nat → Int} {R : Nat → Int → Int → Option Int} {k : Nat} {i j : Int} {i' : Int} {t : Nat} (h : RefOK cnt R) (hk : ∀ (j' t' : Nat), (j' : Int) = j → rfK k j' t' → t' = t) (h0 : 0 ≤ i') (h1 : i' < cnt t) : RefOK cnt (u3 R k i j (some i')) := by
  intro k2 i2 j2 t2 r g0 g1 hr e
  simp only [u3] at e
  split at e
  · rename_i hc
    obtain ⟨rfl, rfl, rfl⟩ := hc
    cases e
    rw [hk j2 t2 rfl hr]
    exact ⟨h0, h1⟩
  · exact h k2 i2 j2 t2 r g0 g1 hr e
theorem refOK_n {cnt : Nat → Int} {R : Nat → Int → Int → Option Int} {k : Nat} {i j : Int} (h : RefOK cnt R) : RefOK cnt (u3 R k i j none) := by
  intro k2 i2 j2 t2 r g0 g1 hr e
  simp only [u3] at e
  split at e
  · cases e
  · exact h k2 i2 j2 t2 r g0 g1 hr e
end
section
/-! rows of the walk over the world -/
def fctx (s : State) (m : MethodId) (args : Array Value) (own : String) (Ts : List Cond) (D : va_G) (tc : Nat → ClassId) (C : String) (T : u_T) (N ci : Nat) : Prop :=
  (∀ w ∈ Ts, w.before args s = true) ∧ (∀ w ∈ u_ws C T N, w ∈ Ts) ∧ s.vm.findClass own = some m.cls ∧ va_K D vwCl (tysL tc) s ∧ vwCl[ci]? = some (C, T, N)
def tctx (T : u_T) (N : Nat) (ty : Nat → FieldType) : Prop := (∀ k, k < N → parseFieldDescriptor (T k).2.2.1 = some (ty k)) ∧ (∀ a, a < N → ∀ b, b < N → a ≠ b → (T a).2.1 ≠ (T b).2.1)
section XR
variable {p : Program} {l : Launch} {e : Env} {R : Room} {s : State} {m : MethodId} {args : Array Value} {below : List Frame} {meth : Method} {c : Code} {H H0 : Heap} {locs : List Loc} {cells slots : Nat} {Q : State → Prop}
variable {cc : ByteArray} {pc : Nat} {ls : Array Slot} {rest : List Value} {D : va_G} {tc : Nat → ClassId} {base : Nat} {ad : Nat → Int → Nat} {cnt : Nat → Int} {X : Nat → Int → Int → Int} {Y : Nat → Int → Int → Option Int} {ln : Int → Int}
variable {own C : String} {T : u_T} {N ci index : Nat} {Ts : List Cond} {k j : Nat} {i jz : Int}
theorem x_geti (hx : p.tables.exec = Jvm.exec) (hb : c.code = cc) (F : fctx s m args own Ts D tc C T N ci) (hw : wd D tc base (ad, cnt, X, Y, ln) H) (h0 : 0 ≤ i) (h1 : i < cnt k) {t : Nat} (hs : SL k j ci 0 t N) (hj : (j : Int) = jz)
    (hlink : (Cond.fieldLink own index (T j).1 (T j).2.1 (T j).2.2.1).before args s = true) (hdg : decode cc pc = .ok (.getfield index, 3))
    (kk : W p l e R s m args below meth c H locs cells slots Q (F0 m (pc + 3) ls (.int (jI (X k i jz)) :: rest))) : W p l e R s m args below meth c H locs cells slots Q (F0 m pc ls (.ref (ad k i) :: rest)) := by
  obtain ⟨hts, hin, hown, hK, hc⟩ := F
  obtain ⟨ws, q0, hP, hD, hq, -, -⟩ := wd_pos hw h0 h1
  rw [ob_E hs] at hq
  subst hj
  refine va_get hx hb hts hin hown hK hP q0 hq hc j hs.2.2.2 hlink (fun _ h => h) (v := .int (jI (X k i j))) ?_ hdg kk
  have h3 := hs.2.2.1
  simp [hs.2.2.2, slV, h3]
theorem x_getl (hx : p.tables.exec = Jvm.exec) (hb : c.code = cc) (F : fctx s m args own Ts D tc C T N ci) (hw : wd D tc base (ad, cnt, X, Y, ln) H) (h0 : 0 ≤ i) (h1 : i < cnt k) {t : Nat} (hs : SL k j ci 1 t N) (hj : (j : Int) = jz)
    (hlink : (Cond.fieldLink own index (T j).1 (T j).2.1 (T j).2.2.1).before args s = true) (hdg : decode cc pc = .ok (.getfield index, 3))
    (kk : W p l e R s m args below meth c H locs cells slots Q (F0 m (pc + 3) ls (.long (jL (X k i jz)) :: rest))) : W p l e R s m args below meth c H locs cells slots Q (F0 m pc ls (.ref (ad k i) :: rest)) := by
  obtain ⟨hts, hin, hown, hK, hc⟩ := F
  obtain ⟨ws, q0, hP, hD, hq, -, -⟩ := wd_pos hw h0 h1
  rw [ob_E hs] at hq
  subst hj
  refine va_get hx hb hts hin hown hK hP q0 hq hc j hs.2.2.2 hlink (fun _ h => h) (v := .long (jL (X k i j))) ?_ hdg kk
  have h3 := hs.2.2.1
  simp [hs.2.2.2, slV, h3]
theorem x_geto (hx : p.tables.exec = Jvm.exec) (hb : c.code = cc) (F : fctx s m args own Ts D tc C T N ci) (hw : wd D tc base (ad, cnt, X, Y, ln) H) (h0 : 0 ≤ i) (h1 : i < cnt k) {t : Nat} (hs : SL k j ci 3 t N)
    (hlink : (Cond.fieldLink own index (T j).1 (T j).2.1 (T j).2.2.1).before args s = true) (hdg : decode cc pc = .ok (.getfield index, 3))
    (kk : W p l e R s m args below meth c H locs cells slots Q (F0 m (pc + 3) ls (.ref (ad t i) :: rest))) : W p l e R s m args below meth c H locs cells slots Q (F0 m pc ls (.ref (ad k i) :: rest)) := by
  obtain ⟨hts, hin, hown, hK, hc⟩ := F
  obtain ⟨ws, q0, hP, hD, hq, -, -⟩ := wd_pos hw h0 h1
  rw [ob_E hs] at hq
  refine va_get hx hb hts hin hown hK hP q0 hq hc j hs.2.2.2 hlink (fun _ h => h) (v := .ref (ad t i)) ?_ hdg kk
  have h3 := hs.2.2.1
  simp [hs.2.2.2, slV, h3]
theorem x_getr (hx : p.tables.exec = Jvm.exec) (hb : c.code = cc) (F : fctx s m args own Ts D tc C T N ci) (hw : wd D tc base (ad, cnt, X, Y, ln) H) (h0 : 0 ≤ i) (h1 : i < cnt k) {t : Nat} (hs : SL k j ci 4 t N) (hj : (j : Int) = jz)
    (hlink : (Cond.fieldLink own index (T j).1 (T j).2.1 (T j).2.2.1).before args s = true) (hdg : decode cc pc = .ok (.getfield index, 3))
    (kn : Y k i jz = none → W p l e R s m args below meth c H locs cells slots Q (F0 m (pc + 3) ls (.null :: rest)))
    (kk : ∀ r : Int, Y k i jz = some r → 0 ≤ r → r < cnt t → W p l e R s m args below meth c H locs cells slots Q (F0 m (pc + 3) ls (.ref (ad t r) :: rest))) : W p l e R s m args below meth c H locs cells slots Q (F0 m pc ls (.ref (ad k i) :: rest)) := by
  obtain ⟨hts, hin, hown, hK, hc⟩ := F
  obtain ⟨ws, q0, hP, hD, hq, -, -⟩ := wd_pos hw h0 h1
  have hrf := wd_ref hw
  rw [ob_E hs] at hq
  subst hj
  have h3 := hs.2.2.1
  refine va_get hx hb hts hin hown hK hP q0 hq hc j hs.2.2.2 hlink (fun _ h => h) (v := va_rf ((Y k i j).map (ad t))) ?_ hdg ?_
  · simp [hs.2.2.2, slV, h3]
  · cases hy : Y k i j with
    | none => exact kn hy
    | some r =>
      obtain ⟨g0, g1⟩ := hrf k i j t r h0 h1 (Or.inr ⟨by rw [hs.1]; omega, h3⟩) hy
      exact kk r hy g0 g1
theorem x_puti (hx : p.tables.exec = Jvm.exec) (hb : c.code = cc) (F : fctx s m args own Ts D tc C T N ci) {ty0 : Nat → FieldType} (G : tctx T N ty0) (hw : wd D tc base (ad, cnt, X, Y, ln) H) (hS : va_S (fun q => base ≤ q) H0 H locs) (h0 : 0 ≤ i) (h1 : i < cnt k) {t : Nat} (hs : SL k j ci 0 t N) (hj : (j : Int) = jz)
    (hlink : (Cond.fieldLink own index (T j).1 (T j).2.1 (T j).2.2.1).before args s = true) (hfin : (T j).2.2.2 = false) {ty : FieldType} {v : Int} (hd : parseFieldDescriptor (T j).2.2.1 = some ty) (hn : narrow ty (.int (jI v)) = .int (jI v)) (hfit : fits ty (.int (jI v)) = true) (hdg : decode cc pc = .ok (.putfield index, 3))
    (kk : ∀ (H1 : Heap) (locs1 : List Loc), wd D tc base (ad, cnt, u3 X k i jz v, Y, ln) H1 → va_S (fun q => base ≤ q) H0 H1 locs1 → W p l e R s m args below meth c H1 locs1 cells slots Q (F0 m (pc + 3) ls rest)) : W p l e R s m args below meth c H locs cells slots Q (F0 m pc ls (.int (jI v) :: .ref (ad k i) :: rest)) := by
  obtain ⟨hts, hin, hown, hK, hc⟩ := F
  obtain ⟨ws, q0, hP, hD, hq, -, hset⟩ := wd_pos hw h0 h1
  have hq' := hq
  rw [ob_E hs] at hq'
  subst hj
  have h3 := hs.2.2.1
  have h4 := hs.2.2.2
  refine va_put hx hb hts hin ty0 G.1 G.2 hown hK hP hD hS q0 hq' hc j h4 hlink (fun _ h => h) hfin hd hn hfit (by simpa using h4) hdg (fun H1 locs1 hP1 hD1 hS1 => ?_)
  have he : ceE tc ad (u3 X k i j v) Y ln k i = .inr (ci, ((List.range N).map (fun j => slV ad X Y k i j (slo k j))).set j (.int (jI v))) := by
    rw [ob_E hs]
    congr 2
    refine (mp_set h4 ?_ ?_).symm
    · simp [slV, h3, u3]
    · intro q hq
      have hq2 : ¬ ((q : Int) = (j : Int)) := by omega
      simp [slV, u3, hq2]
  rw [← he] at hP1 hD1
  exact kk H1 locs1 (hset (u3 X k i j v) Y H1 (fun k' i' hne => ⟨u3_ne X k k' i i' j v hne, rfl⟩) (wd_ref hw) hP1 hD1) hS1
theorem x_putl (hx : p.tables.exec = Jvm.exec) (hb : c.code = cc) (F : fctx s m args own Ts D tc C T N ci) {ty0 : Nat → FieldType} (G : tctx T N ty0) (hw : wd D tc base (ad, cnt, X, Y, ln) H) (hS : va_S (fun q => base ≤ q) H0 H locs) (h0 : 0 ≤ i) (h1 : i < cnt k) {t : Nat} (hs : SL k j ci 1 t N) (hj : (j : Int) = jz)
    (hlink : (Cond.fieldLink own index (T j).1 (T j).2.1 (T j).2.2.1).before args s = true) (hfin : (T j).2.2.2 = false) {v : Int} (hd : parseFieldDescriptor (T j).2.2.1 = some .long) (hdg : decode cc pc = .ok (.putfield index, 3))
    (kk : ∀ (H1 : Heap) (locs1 : List Loc), wd D tc base (ad, cnt, u3 X k i jz v, Y, ln) H1 → va_S (fun q => base ≤ q) H0 H1 locs1 → W p l e R s m args below meth c H1 locs1 cells slots Q (F0 m (pc + 3) ls rest)) : W p l e R s m args below meth c H locs cells slots Q (F0 m pc ls (.long (jL v) :: .ref (ad k i) :: rest)) := by
  obtain ⟨hts, hin, hown, hK, hc⟩ := F
  obtain ⟨ws, q0, hP, hD, hq, -, hset⟩ := wd_pos hw h0 h1
  have hq' := hq
  rw [ob_E hs] at hq'
  subst hj
  have h3 := hs.2.2.1
  have h4 := hs.2.2.2
  refine va_put hx hb hts hin ty0 G.1 G.2 hown hK hP hD hS q0 hq' hc j h4 hlink (fun _ h => h) hfin hd rfl rfl (by simpa using h4) hdg (fun H1 locs1 hP1 hD1 hS1 => ?_)
  have he : ceE tc ad (u3 X k i j v) Y ln k i = .inr (ci, ((List.range N).map (fun j => slV ad X Y k i j (slo k j))).set j (.long (jL v))) := by
    rw [ob_E hs]
    congr 2
    refine (mp_set h4 ?_ ?_).symm
    · simp [slV, h3, u3]
    · intro q hq
      have hq2 : ¬ ((q : Int) = (j : Int)) := by omega
      simp [slV, u3, hq2]
  rw [← he] at hP1 hD1
  exact kk H1 locs1 (hset (u3 X k i j v) Y H1 (fun k' i' hne => ⟨u3_ne X k k' i i' j v hne, rfl⟩) (wd_ref hw) hP1 hD1) hS1
theorem x_putr (hx : p.tables.exec = Jvm.exec) (hb : c.code = cc) (F : fctx s m args own Ts D tc C T N ci) {ty0 : Nat → FieldType} (G : tctx T N ty0) (hw : wd D tc base (ad, cnt, X, Y, ln) H) (hS : va_S (fun q => base ≤ q) H0 H locs) (h0 : 0 ≤ i) (h1 : i < cnt k) {t : Nat} (hs : SL k j ci 4 t N) (hj : (j : Int) = jz)
    (hlink : (Cond.fieldLink own index (T j).1 (T j).2.1 (T j).2.2.1).before args s = true) (hfin : (T j).2.2.2 = false) {r : Int} (g0 : 0 ≤ r) (g1 : r < cnt t) {cn : String} (hd : parseFieldDescriptor (T j).2.2.1 = some (.object cn)) (hdg : decode cc pc = .ok (.putfield index, 3))
    (kk : ∀ (H1 : Heap) (locs1 : List Loc), wd D tc base (ad, cnt, X, u3 Y k i jz (some r), ln) H1 → va_S (fun q => base ≤ q) H0 H1 locs1 → W p l e R s m args below meth c H1 locs1 cells slots Q (F0 m (pc + 3) ls rest)) : W p l e R s m args below meth c H locs cells slots Q (F0 m pc ls (.ref (ad t r) :: .ref (ad k i) :: rest)) := by
  obtain ⟨hts, hin, hown, hK, hc⟩ := F
  obtain ⟨ws, q0, hP, hD, hq, -, hset⟩ := wd_pos hw h0 h1
  have hq' := hq
  rw [ob_E hs] at hq'
  subst hj
  have h3 := hs.2.2.1
  have h4 := hs.2.2.2
  refine va_put hx hb hts hin ty0 G.1 G.2 hown hK hP hD hS q0 hq' hc j h4 hlink (fun _ h => h) hfin hd rfl rfl (by simpa using h4) hdg (fun H1 locs1 hP1 hD1 hS1 => ?_)
  have he : ceE tc ad X (u3 Y k i j (some r)) ln k i = .inr (ci, ((List.range N).map (fun j => slV ad X Y k i j (slo k j))).set j (.ref (ad t r))) := by
    rw [ob_E hs]
    congr 2
    refine (mp_set h4 ?_ ?_).symm
    · simp [slV, h3, u3, va_rf]
    · intro q hq
      have hq2 : ¬ ((q : Int) = (j : Int)) := by omega
      simp [slV, u3, hq2]
  rw [← he] at hP1 hD1
  refine kk H1 locs1 (hset X (u3 Y k i j (some r)) H1 (fun k' i' hne => ⟨rfl, u3_ne Y k k' i i' j _ hne⟩) (refOK_s (t := t) (wd_ref hw) ?_ g0 g1) hP1 hD1) hS1
  intro j' t' ej hr
  have ej2 : j' = j := by omega
  subst ej2
  rcases hr with ⟨z1, -⟩ | ⟨-, z2⟩
  · rw [hs.1] at z1; omega
  · rw [h3] at z2; cases z2; rfl
theorem x_putn (hx : p.tables.exec = Jvm.exec) (hb : c.code = cc) (F : fctx s m args own Ts D tc C T N ci) {ty0 : Nat → FieldType} (G : tctx T N ty0) (hw : wd D tc base (ad, cnt, X, Y, ln) H) (hS : va_S (fun q => base ≤ q) H0 H locs) (h0 : 0 ≤ i) (h1 : i < cnt k) {t : Nat} (hs : SL k j ci 4 t N) (hj : (j : Int) = jz)
    (hlink : (Cond.fieldLink own index (T j).1 (T j).2.1 (T j).2.2.1).before args s = true) (hfin : (T j).2.2.2 = false) {cn : String} (hd : parseFieldDescriptor (T j).2.2.1 = some (.object cn)) (hdg : decode cc pc = .ok (.putfield index, 3))
    (kk : ∀ (H1 : Heap) (locs1 : List Loc), wd D tc base (ad, cnt, X, u3 Y k i jz none, ln) H1 → va_S (fun q => base ≤ q) H0 H1 locs1 → W p l e R s m args below meth c H1 locs1 cells slots Q (F0 m (pc + 3) ls rest)) : W p l e R s m args below meth c H locs cells slots Q (F0 m pc ls (.null :: .ref (ad k i) :: rest)) := by
  obtain ⟨hts, hin, hown, hK, hc⟩ := F
  obtain ⟨ws, q0, hP, hD, hq, -, hset⟩ := wd_pos hw h0 h1
  have hq' := hq
  rw [ob_E hs] at hq'
  subst hj
  have h3 := hs.2.2.1
  have h4 := hs.2.2.2
  refine va_put hx hb hts hin ty0 G.1 G.2 hown hK hP hD hS q0 hq' hc j h4 hlink (fun _ h => h) hfin hd rfl rfl (by simpa using h4) hdg (fun H1 locs1 hP1 hD1 hS1 => ?_)
  have he : ceE tc ad X (u3 Y k i j none) ln k i = .inr (ci, ((List.range N).map (fun j => slV ad X Y k i j (slo k j))).set j .null) := by
    rw [ob_E hs]
    congr 2
    refine (mp_set h4 ?_ ?_).symm
    · simp [slV, h3, u3, va_rf]
    · intro q hq
      have hq2 : ¬ ((q : Int) = (j : Int)) := by omega
      simp [slV, u3, hq2]
  rw [← he] at hP1 hD1
  exact kk H1 locs1 (hset X (u3 Y k i j none) H1 (fun k' i' hne => ⟨rfl, u3_ne Y k k' i i' j _ hne⟩) (refOK_n (wd_ref hw)) hP1 hD1) hS1
theorem len_E {ln : Int → Int} {k code t tgt : Nat} {len i : Int} (h : AR k code t tgt len) (hk : k ≠ 27) : lenE ln k i = len := by
  unfold lenE
  rw [if_neg hk, h.2.2]
section XA
variable {z len v : Int} {tgt : Nat}
theorem x_iald (hx : p.tables.exec = Jvm.exec) (hb : c.code = cc) (hK : va_K D vwCl (tysL tc) s) (hw : wd D tc base (ad, cnt, X, Y, ln) H) (h0 : 0 ≤ i) (h1 : i < cnt k) (hs : AR k 0 0 tgt len) (hl : lenE ln k i = len) (z0 : 0 ≤ z) (z1 : z < len) (z2 : z ≤ 2147483647) (hdg : decode cc pc = .ok (.iaload, 1))
    (kk : W p l e R s m args below meth c H locs cells slots Q (F0 m (pc + 1) ls (.int (jI (X k i z)) :: rest))) : W p l e R s m args below meth c H locs cells slots Q (F0 m pc ls (.int (jI z) :: .ref (ad k i) :: rest)) := by
  obtain ⟨ws, q0, hP, hD, hq, -, -⟩ := wd_pos hw h0 h1
  rw [ar_iE hs, hl] at hq
  refine va_iald hx hb hK hP q0 0 hq rfl (jI_in z0 (by omega) z2) hdg ?_
  rw [jI_cl z0 z2]
  exact kk
theorem x_zald (hx : p.tables.exec = Jvm.exec) (hb : c.code = cc) (hK : va_K D vwCl (tysL tc) s) (hw : wd D tc base (ad, cnt, X, Y, ln) H) (h0 : 0 ≤ i) (h1 : i < cnt k) (hs : AR k 0 2 tgt len) (hl : lenE ln k i = len) (z0 : 0 ≤ z) (z1 : z < len) (z2 : z ≤ 2147483647) (hdg : decode cc pc = .ok (.baload, 1))
    (kk : W p l e R s m args below meth c H locs cells slots Q (F0 m (pc + 1) ls (.int (jI (X k i z)) :: rest))) : W p l e R s m args below meth c H locs cells slots Q (F0 m pc ls (.int (jI z) :: .ref (ad k i) :: rest)) := by
  obtain ⟨ws, q0, hP, hD, hq, -, -⟩ := wd_pos hw h0 h1
  rw [ar_iE hs, hl] at hq
  refine va_zald hx hb hK hP q0 2 hq rfl (jI_in z0 (by omega) z2) hdg ?_
  rw [jI_cl z0 z2]
  exact kk
theorem x_lald (hx : p.tables.exec = Jvm.exec) (hb : c.code = cc) (hK : va_K D vwCl (tysL tc) s) (hw : wd D tc base (ad, cnt, X, Y, ln) H) (h0 : 0 ≤ i) (h1 : i < cnt k) {l0 : Int} (hs : AR k 1 1 tgt l0) (hl : lenE ln k i = len) (z0 : 0 ≤ z) (z1 : z < len) (z2 : z ≤ 2147483647) (hdg : decode cc pc = .ok (.laload, 1))
    (kk : W p l e R s m args below meth c H locs cells slots Q (F0 m (pc + 1) ls (.long (jL (X k i z)) :: rest))) : W p l e R s m args below meth c H locs cells slots Q (F0 m pc ls (.int (jI z) :: .ref (ad k i) :: rest)) := by
  obtain ⟨ws, q0, hP, hD, hq, -, -⟩ := wd_pos hw h0 h1
  rw [ar_lE hs, hl] at hq
  refine va_lald hx hb hK hP q0 1 hq rfl (jI_in z0 (by omega) z2) hdg ?_
  rw [jI_cl z0 z2]
  exact kk
theorem x_aald (hx : p.tables.exec = Jvm.exec) (hb : c.code = cc) (hK : va_K D vwCl (tysL tc) s) (hw : wd D tc base (ad, cnt, X, Y, ln) H) (h0 : 0 ≤ i) (h1 : i < cnt k) {t0 : Nat} {cn : String} (hs : AR k 4 t0 tgt len) (ht : (tysL tc)[t0]? = some (tc t0, .object cn)) (hl : lenE ln k i = len) (z0 : 0 ≤ z) (z1 : z < len) (z2 : z ≤ 2147483647) (hdg : decode cc pc = .ok (.aaload, 1))
    (kn : Y k i z = none → W p l e R s m args below meth c H locs cells slots Q (F0 m (pc + 1) ls (.null :: rest)))
    (kk : ∀ r : Int, Y k i z = some r → 0 ≤ r → r < cnt tgt → W p l e R s m args below meth c H locs cells slots Q (F0 m (pc + 1) ls (.ref (ad tgt r) :: rest))) : W p l e R s m args below meth c H locs cells slots Q (F0 m pc ls (.int (jI z) :: .ref (ad k i) :: rest)) := by
  obtain ⟨ws, q0, hP, hD, hq, -, -⟩ := wd_pos hw h0 h1
  have hrf := wd_ref hw
  rw [ar_rE hs, hl] at hq
  refine va_aldq hx hb hK hP q0 t0 hq ht (jI_in z0 (by omega) z2) hdg ?_
  rw [jI_cl z0 z2]
  cases hy : Y k i z with
  | none => exact kn hy
  | some r =>
    have e1 : ((z.toNat : Nat) : Int) = z := by omega
    obtain ⟨g0, g1⟩ := hrf k i z.toNat tgt r h0 h1 (Or.inl ⟨hs.1, by rw [hs.2.1], by rw [hs.2.1]⟩) (by rw [e1]; exact hy)
    exact kk r hy g0 g1
theorem x_iast (hx : p.tables.exec = Jvm.exec) (hb : c.code = cc) (hK : va_K D vwCl (tysL tc) s) (hw : wd D tc base (ad, cnt, X, Y, ln) H) (hS : va_S (fun q => base ≤ q) H0 H locs) (h0 : 0 ≤ i) (h1 : i < cnt k) (hs : AR k 0 0 tgt len) (hl : lenE ln k i = len) (z0 : 0 ≤ z) (z1 : z < len) (z2 : z ≤ 2147483647) (hdg : decode cc pc = .ok (.iastore, 1))
    (kk : ∀ (H1 : Heap) (locs1 : List Loc), wd D tc base (ad, cnt, u3 X k i z v, Y, ln) H1 → va_S (fun q => base ≤ q) H0 H1 locs1 → W p l e R s m args below meth c H1 locs1 cells slots Q (F0 m (pc + 1) ls rest)) : W p l e R s m args below meth c H locs cells slots Q (F0 m pc ls (.int (jI v) :: .int (jI z) :: .ref (ad k i) :: rest)) := by
  obtain ⟨ws, q0, hP, hD, hq, -, hset⟩ := wd_pos hw h0 h1
  rw [ar_iE hs, hl] at hq
  refine va_iast hx hb hK hP hD hS q0 0 hq rfl (jI_in z0 (by omega) z2) hdg (fun H1 locs1 hP1 hD1 hS1 => ?_)
  have he : ceE tc ad (u3 X k i z v) Y ln k i = .inl (tc 0, len.toNat, .inl (upd (fun q => jI (X k i q)) (jI z).toNatClampNeg (jI v))) := by
    rw [ar_iE hs, hl]
    congr 4
    funext q
    have e1 := jI_cl z0 z2
    by_cases hq2 : q = (jI z).toNatClampNeg
    · subst hq2
      simp [upd, u3, e1]
    · have hq3 : ¬ ((q : Int) = z) := by omega
      simp [upd, u3, hq2, hq3]
  rw [← he] at hP1 hD1
  exact kk H1 locs1 (hset (u3 X k i z v) Y H1 (fun k' i' hne => ⟨u3_ne X k k' i i' z v hne, rfl⟩) (wd_ref hw) hP1 hD1) hS1
theorem x_zast (hx : p.tables.exec = Jvm.exec) (hb : c.code = cc) (hK : va_K D vwCl (tysL tc) s) (hw : wd D tc base (ad, cnt, X, Y, ln) H) (hS : va_S (fun q => base ≤ q) H0 H locs) (h0 : 0 ≤ i) (h1 : i < cnt k) (hs : AR k 0 2 tgt len) (hl : lenE ln k i = len) (z0 : 0 ≤ z) (z1 : z < len) (z2 : z ≤ 2147483647) (v0 : 0 ≤ v) (v1 : v ≤ 1) (hdg : decode cc pc = .ok (.bastore, 1))
    (kk : ∀ (H1 : Heap) (locs1 : List Loc), wd D tc base (ad, cnt, u3 X k i z v, Y, ln) H1 → va_S (fun q => base ≤ q) H0 H1 locs1 → W p l e R s m args below meth c H1 locs1 cells slots Q (F0 m (pc + 1) ls rest)) : W p l e R s m args below meth c H locs cells slots Q (F0 m pc ls (.int (jI v) :: .int (jI z) :: .ref (ad k i) :: rest)) := by
  obtain ⟨ws, q0, hP, hD, hq, -, hset⟩ := wd_pos hw h0 h1
  rw [ar_iE hs, hl] at hq
  refine va_zast hx hb hK hP hD hS q0 2 hq rfl (jI_in z0 (by omega) z2) hdg (fun H1 locs1 hP1 hD1 hS1 => ?_)
  have hv : vp_nar .boolean (jI v) = jI v := by
    rcases (show v = 0 ∨ v = 1 by omega) with rfl | rfl <;> decide +kernel
  rw [hv] at hP1 hD1
  have he : ceE tc ad (u3 X k i z v) Y ln k i = .inl (tc 2, len.toNat, .inl (upd (fun q => jI (X k i q)) (jI z).toNatClampNeg (jI v))) := by
    rw [ar_iE hs, hl]
    congr 4
    funext q
    have e1 := jI_cl z0 z2
    by_cases hq2 : q = (jI z).toNatClampNeg
    · subst hq2
      simp [upd, u3, e1]
    · have hq3 : ¬ ((q : Int) = z) := by omega
      simp [upd, u3, hq2, hq3]
  rw [← he] at hP1 hD1
  exact kk H1 locs1 (hset (u3 X k i z v) Y H1 (fun k' i' hne => ⟨u3_ne X k k' i i' z v hne, rfl⟩) (wd_ref hw) hP1 hD1) hS1
theorem x_last (hx : p.tables.exec = Jvm.exec) (hb : c.code = cc) (hK : va_K D vwCl (tysL tc) s) (hw : wd D tc base (ad, cnt, X, Y, ln) H) (hS : va_S (fun q => base ≤ q) H0 H locs) (h0 : 0 ≤ i) (h1 : i < cnt k) {l0 : Int} (hs : AR k 1 1 tgt l0) (hl : lenE ln k i = len) (z0 : 0 ≤ z) (z1 : z < len) (z2 : z ≤ 2147483647) (hdg : decode cc pc = .ok (.lastore, 1))
    (kk : ∀ (H1 : Heap) (locs1 : List Loc), wd D tc base (ad, cnt, u3 X k i z v, Y, ln) H1 → va_S (fun q => base ≤ q) H0 H1 locs1 → W p l e R s m args below meth c H1 locs1 cells slots Q (F0 m (pc + 1) ls rest)) : W p l e R s m args below meth c H locs cells slots Q (F0 m pc ls (.long (jL v) :: .int (jI z) :: .ref (ad k i) :: rest)) := by
  obtain ⟨ws, q0, hP, hD, hq, -, hset⟩ := wd_pos hw h0 h1
  rw [ar_lE hs, hl] at hq
  refine va_last hx hb hK hP hD hS q0 1 hq rfl (jI_in z0 (by omega) z2) hdg (fun H1 locs1 hP1 hD1 hS1 => ?_)
  have he : ceE tc ad (u3 X k i z v) Y ln k i = .inl (tc 1, len.toNat, .inr (.inl (vp_updL (fun q => jL (X k i q)) (jI z).toNatClampNeg (jL v)))) := by
    rw [ar_lE hs, hl]
    congr 5
    funext q
    have e1 := jI_cl z0 z2
    by_cases hq2 : q = (jI z).toNatClampNeg
    · subst hq2
      simp [vp_updL, u3, e1]
    · have hq3 : ¬ ((q : Int) = z) := by omega
      simp [vp_updL, u3, hq2, hq3]
  rw [← he] at hP1 hD1
  exact kk H1 locs1 (hset (u3 X k i z v) Y H1 (fun k' i' hne => ⟨u3_ne X k k' i i' z v hne, rfl⟩) (wd_ref hw) hP1 hD1) hS1
theorem x_aast (hx : p.tables.exec = Jvm.exec) (hb : c.code = cc) (hK : va_K D vwCl (tysL tc) s) (hw : wd D tc base (ad, cnt, X, Y, ln) H) (hS : va_S (fun q => base ≤ q) H0 H locs) (h0 : 0 ≤ i) (h1 : i < cnt k) {t0 cj j1 c1 t1 : Nat} {r : Int} {cl1 : vw_C} (hs : AR k 4 t0 tgt len) (ht : (tysL tc)[t0]? = some (tc t0, .object cl1.1)) (hc : vwCl[cj]? = some cl1) {N1 : Nat} (ho : SL tgt j1 cj c1 t1 N1) (hl : lenE ln k i = len) (z0 : 0 ≤ z) (z1 : z < len) (z2 : z ≤ 2147483647) (g0 : 0 ≤ r) (g1 : r < cnt tgt) (hdg : decode cc pc = .ok (.aastore, 1))
    (kk : ∀ (H1 : Heap) (locs1 : List Loc), wd D tc base (ad, cnt, X, u3 Y k i z (some r), ln) H1 → va_S (fun q => base ≤ q) H0 H1 locs1 → W p l e R s m args below meth c H1 locs1 cells slots Q (F0 m (pc + 1) ls rest)) : W p l e R s m args below meth c H locs cells slots Q (F0 m pc ls (.ref (ad tgt r) :: .int (jI z) :: .ref (ad k i) :: rest)) := by
  obtain ⟨ws, q0, hP, hD, hq, hall, hset⟩ := wd_pos hw h0 h1
  obtain ⟨q1, hq1⟩ := hall tgt r g0 g1
  rw [ob_E ho] at hq1
  rw [ar_rE hs, hl] at hq
  refine va_astq hx hb hK hP hD hS q0 t0 q1 cj hq ht hq1 hc (jI_in z0 (by omega) z2) hdg (fun H1 locs1 hP1 hD1 hS1 => ?_)
  have he : ceE tc ad X (u3 Y k i z (some r)) ln k i = .inl (tc t0, len.toNat, .inr (.inr (.inr (.inr (va_up (fun q : Nat => (Y k i q).map (ad tgt)) (jI z).toNatClampNeg (some (ad tgt r))))))) := by
    rw [ar_rE hs, hl]
    congr 7
    funext q
    have e1 := jI_cl z0 z2
    by_cases hq2 : q = (jI z).toNatClampNeg
    · subst hq2
      simp [va_up, u3, e1]
    · have hq3 : ¬ ((q : Int) = z) := by omega
      simp [va_up, u3, hq2, hq3]
  rw [← he] at hP1 hD1
  refine kk H1 locs1 (hset X (u3 Y k i z (some r)) H1 (fun k' i' hne => ⟨rfl, u3_ne Y k k' i i' z _ hne⟩) (refOK_s (t := tgt) (wd_ref hw) ?_ g0 g1) hP1 hD1) hS1
  intro j' t' ej hr
  rcases hr with ⟨-, -, z2⟩ | ⟨z1, -⟩
  · rw [hs.2.1] at z2; exact z2.symm
  · exact absurd hs.1 z1
theorem x_aastn (hx : p.tables.exec = Jvm.exec) (hb : c.code = cc) (hK : va_K D vwCl (tysL tc) s) (hw : wd D tc base (ad, cnt, X, Y, ln) H) (hS : va_S (fun q => base ≤ q) H0 H locs) (h0 : 0 ≤ i) (h1 : i < cnt k) {t0 : Nat} {cn : String} (hs : AR k 4 t0 tgt len) (ht : (tysL tc)[t0]? = some (tc t0, .object cn)) (hl : lenE ln k i = len) (z0 : 0 ≤ z) (z1 : z < len) (z2 : z ≤ 2147483647) (hdg : decode cc pc = .ok (.aastore, 1))
    (kk : ∀ (H1 : Heap) (locs1 : List Loc), wd D tc base (ad, cnt, X, u3 Y k i z none, ln) H1 → va_S (fun q => base ≤ q) H0 H1 locs1 → W p l e R s m args below meth c H1 locs1 cells slots Q (F0 m (pc + 1) ls rest)) : W p l e R s m args below meth c H locs cells slots Q (F0 m pc ls (.null :: .int (jI z) :: .ref (ad k i) :: rest)) := by
  obtain ⟨ws, q0, hP, hD, hq, hall, hset⟩ := wd_pos hw h0 h1
  rw [ar_rE hs, hl] at hq
  refine va_astqN hx hb hK hP hD hS q0 t0 hq ht (jI_in z0 (by omega) z2) hdg (fun H1 locs1 hP1 hD1 hS1 => ?_)
  have he : ceE tc ad X (u3 Y k i z none) ln k i = .inl (tc t0, len.toNat, .inr (.inr (.inr (.inr (va_up (fun q : Nat => (Y k i q).map (ad tgt)) (jI z).toNatClampNeg none))))) := by
    rw [ar_rE hs, hl]
    congr 7
    funext q
    have e1 := jI_cl z0 z2
    by_cases hq2 : q = (jI z).toNatClampNeg
    · subst hq2
      simp [va_up, u3, e1]
    · have hq3 : ¬ ((q : Int) = z) := by omega
      simp [va_up, u3, hq2, hq3]
  rw [← he] at hP1 hD1
  exact kk H1 locs1 (hset X (u3 Y k i z none) H1 (fun k' i' hne => ⟨rfl, u3_ne Y k k' i i' z _ hne⟩) (refOK_n (wd_ref hw)) hP1 hD1) hS1
theorem x_alenl (hx : p.tables.exec = Jvm.exec) (hb : c.code = cc) (hK : va_K D vwCl (tysL tc) s) (hw : wd D tc base (ad, cnt, X, Y, ln) H) (h0 : 0 ≤ i) (h1 : i < cnt k) {l0 : Int} (hs : AR k 1 1 tgt l0) (hl : lenE ln k i = len) (z0 : 0 ≤ len) (hdg : decode cc pc = .ok (.arraylength, 1))
    (kk : W p l e R s m args below meth c H locs cells slots Q (F0 m (pc + 1) ls (.int (jI len) :: rest))) : W p l e R s m args below meth c H locs cells slots Q (F0 m pc ls (.ref (ad k i) :: rest)) := by
  obtain ⟨ws, q0, hP, hD, hq, -, -⟩ := wd_pos hw h0 h1
  rw [ar_lE hs, hl] at hq
  refine va_alen hx hb hK hP q0 1 hq (ty := .long) rfl (v := jI len) ?_ hdg kk
  show Int32.ofNat len.toNat = Int32.ofInt len
  rw [← Int32.ofInt_eq_ofNat]
  congr 1
  omega
end XA
end XR
/-! rows of the walk over numbers -/
/-- a fact that is kept out of the reckoning -/
def Hid (P : Prop) : Prop := P
section XO
variable {p : Program} {l : Launch} {e : Env} {R : Room} {s : State} {m : MethodId} {args : Array Value} {below : List Frame} {meth : Method} {c : Code} {H : Heap} {locs : List Loc} {cells slots : Nat} {Q : State → Prop}
variable {cc : ByteArray} {pc : Nat} {ls : Array Slot} {rest : List Value} {a b : Int} {off : Int} {tgt : Nat}
theorem x_iadd (hx : p.tables.exec = Jvm.exec) (hb : c.code = cc) (hdg : decode cc pc = .ok (.iadd, 1)) (k : W p l e R s m args below meth c H locs cells slots Q (F0 m (pc + 1) ls (.int (jI (a + b)) :: rest))) : W p l e R s m args below meth c H locs cells slots Q (F0 m pc ls (.int (jI b) :: .int (jI a) :: rest)) := lv_iadd hx hb hdg (by rw [jI_add]; exact k)
theorem x_isub (hx : p.tables.exec = Jvm.exec) (hb : c.code = cc) (hdg : decode cc pc = .ok (.isub, 1)) (k : W p l e R s m args below meth c H locs cells slots Q (F0 m (pc + 1) ls (.int (jI (a - b)) :: rest))) : W p l e R s m args below meth c H locs cells slots Q (F0 m pc ls (.int (jI b) :: .int (jI a) :: rest)) := lv_isub hx hb hdg (by rw [jI_sub]; exact k)
theorem x_imul (hx : p.tables.exec = Jvm.exec) (hb : c.code = cc) (hdg : decode cc pc = .ok (.imul, 1)) (k : W p l e R s m args below meth c H locs cells slots Q (F0 m (pc + 1) ls (.int (jI (a * b)) :: rest))) : W p l e R s m args below meth c H locs cells slots Q (F0 m pc ls (.int (jI b) :: .int (jI a) :: rest)) := lv_imul hx hb hdg (by rw [jI_mul]; exact k)
theorem x_ladd (hx : p.tables.exec = Jvm.exec) (hb : c.code = cc) (hdg : decode cc pc = .ok (.ladd, 1)) (k : W p l e R s m args below meth c H locs cells slots Q (F0 m (pc + 1) ls (.long (jL (a + b)) :: rest))) : W p l e R s m args below meth c H locs cells slots Q (F0 m pc ls (.long (jL b) :: .long (jL a) :: rest)) := lv_ladd hx hb hdg (by rw [jL_add]; exact k)
theorem x_i2l (hx : p.tables.exec = Jvm.exec) (hb : c.code = cc) (ha : -2147483648 ≤ a ∧ a ≤ 2147483647) (hdg : decode cc pc = .ok (.i2l, 1)) (k : W p l e R s m args below meth c H locs cells slots Q (F0 m (pc + 1) ls (.long (jL a) :: rest))) : W p l e R s m args below meth c H locs cells slots Q (F0 m pc ls (.int (jI a) :: rest)) := lv_i2l hx hb hdg (jI_i2l ha) k
theorem x_l2i (hx : p.tables.exec = Jvm.exec) (hb : c.code = cc) (hdg : decode cc pc = .ok (.l2i, 1)) (k : W p l e R s m args below meth c H locs cells slots Q (F0 m (pc + 1) ls (.int (jI a) :: rest))) : W p l e R s m args below meth c H locs cells slots Q (F0 m pc ls (.long (jL a) :: rest)) := lv_l2i hx hb hdg (jL_l2i a) k
/-- a number of which nothing is asked but that it is one -/
theorem x_anyi {x : Int32} (k : ∀ z : Int, (-2147483648 ≤ z ∧ z ≤ 2147483647) → W p l e R s m args below meth c H locs cells slots Q (F0 m pc ls (.int (jI z) :: rest))) : W p l e R s m args below meth c H locs cells slots Q (F0 m pc ls (.int x :: rest)) := by
  obtain ⟨z, hz, rfl⟩ := jI_of x
  exact k z hz
theorem x_anyl {x : Int64} (k : ∀ z : Int, (-9223372036854775808 ≤ z ∧ z ≤ 9223372036854775807) → W p l e R s m args below meth c H locs cells slots Q (F0 m pc ls (.long (jL z) :: rest))) : W p l e R s m args below meth c H locs cells slots Q (F0 m pc ls (.long x :: rest)) := by
  obtain ⟨z, hz, rfl⟩ := jL_of x
  exact k z hz
theorem x_as {z z' : Int} (h : z = z') (k : W p l e R s m args below meth c H locs cells slots Q (F0 m pc ls (.int (jI z') :: rest))) : W p l e R s m args below meth c H locs cells slots Q (F0 m pc ls (.int (jI z) :: rest)) := h ▸ k
theorem x_icmp_eq (hx : p.tables.exec = Jvm.exec) (hb : c.code = cc) (ha : -2147483648 ≤ a ∧ a ≤ 2147483647) (hb2 : -2147483648 ≤ b ∧ b ≤ 2147483647) (hdg : decode cc pc = .ok (.if_icmp .eq off, 3)) (ht : (pc : Int) + off = (tgt : Int)) (kt : a = b → W p l e R s m args below meth c H locs cells slots Q (F0 m tgt ls rest)) (kf : ¬ a = b → W p l e R s m args below meth c H locs cells slots Q (F0 m (pc + 3) ls rest)) : W p l e R s m args below meth c H locs cells slots Q (F0 m pc ls (.int (jI b) :: .int (jI a) :: rest)) := lv_icmp_eq hx hb hdg ht (fun h => kt ((jI_eq ha hb2).mp h)) (fun h => kf (fun q => h ((jI_eq ha hb2).mpr q)))
theorem x_icmp_ne (hx : p.tables.exec = Jvm.exec) (hb : c.code = cc) (ha : -2147483648 ≤ a ∧ a ≤ 2147483647) (hb2 : -2147483648 ≤ b ∧ b ≤ 2147483647) (hdg : decode cc pc = .ok (.if_icmp .ne off, 3)) (ht : (pc : Int) + off = (tgt : Int)) (kt : ¬ a = b → W p l e R s m args below meth c H locs cells slots Q (F0 m tgt ls rest)) (kf : a = b → W p l e R s m args below meth c H locs cells slots Q (F0 m (pc + 3) ls rest)) : W p l e R s m args below meth c H locs cells slots Q (F0 m pc ls (.int (jI b) :: .int (jI a) :: rest)) := lv_icmp_ne hx hb hdg ht (fun h => kt (fun q => h ((jI_eq ha hb2).mpr q))) (fun h => kf ((jI_eq ha hb2).mp h))
theorem x_icmp_lt (hx : p.tables.exec = Jvm.exec) (hb : c.code = cc) (ha : -2147483648 ≤ a ∧ a ≤ 2147483647) (hb2 : -2147483648 ≤ b ∧ b ≤ 2147483647) (hdg : decode cc pc = .ok (.if_icmp .lt off, 3)) (ht : (pc : Int) + off = (tgt : Int)) (kt : a < b → W p l e R s m args below meth c H locs cells slots Q (F0 m tgt ls rest)) (kf : ¬ a < b → W p l e R s m args below meth c H locs cells slots Q (F0 m (pc + 3) ls rest)) : W p l e R s m args below meth c H locs cells slots Q (F0 m pc ls (.int (jI b) :: .int (jI a) :: rest)) := lv_icmp_lt hx hb hdg ht (fun h => kt ((jI_lt ha hb2).mp h)) (fun h => kf (fun q => h ((jI_lt ha hb2).mpr q)))
theorem x_icmp_ge (hx : p.tables.exec = Jvm.exec) (hb : c.code = cc) (ha : -2147483648 ≤ a ∧ a ≤ 2147483647) (hb2 : -2147483648 ≤ b ∧ b ≤ 2147483647) (hdg : decode cc pc = .ok (.if_icmp .ge off, 3)) (ht : (pc : Int) + off = (tgt : Int)) (kt : b ≤ a → W p l e R s m args below meth c H locs cells slots Q (F0 m tgt ls rest)) (kf : ¬ b ≤ a → W p l e R s m args below meth c H locs cells slots Q (F0 m (pc + 3) ls rest)) : W p l e R s m args below meth c H locs cells slots Q (F0 m pc ls (.int (jI b) :: .int (jI a) :: rest)) := lv_icmp_ge hx hb hdg ht (fun h => kt ((jI_le hb2 ha).mp h)) (fun h => kf (fun q => h ((jI_le hb2 ha).mpr q)))
theorem x_icmp_gt (hx : p.tables.exec = Jvm.exec) (hb : c.code = cc) (ha : -2147483648 ≤ a ∧ a ≤ 2147483647) (hb2 : -2147483648 ≤ b ∧ b ≤ 2147483647) (hdg : decode cc pc = .ok (.if_icmp .gt off, 3)) (ht : (pc : Int) + off = (tgt : Int)) (kt : b < a → W p l e R s m args below meth c H locs cells slots Q (F0 m tgt ls rest)) (kf : ¬ b < a → W p l e R s m args below meth c H locs cells slots Q (F0 m (pc + 3) ls rest)) : W p l e R s m args below meth c H locs cells slots Q (F0 m pc ls (.int (jI b) :: .int (jI a) :: rest)) := lv_icmp_gt hx hb hdg ht (fun h => kt ((jI_lt hb2 ha).mp h)) (fun h => kf (fun q => h ((jI_lt hb2 ha).mpr q)))
theorem x_icmp_le (hx : p.tables.exec = Jvm.exec) (hb : c.code = cc) (ha : -2147483648 ≤ a ∧ a ≤ 2147483647) (hb2 : -2147483648 ≤ b ∧ b ≤ 2147483647) (hdg : decode cc pc = .ok (.if_icmp .le off, 3)) (ht : (pc : Int) + off = (tgt : Int)) (kt : a ≤ b → W p l e R s m args below meth c H locs cells slots Q (F0 m tgt ls rest)) (kf : ¬ a ≤ b → W p l e R s m args below meth c H locs cells slots Q (F0 m (pc + 3) ls rest)) : W p l e R s m args below meth c H locs cells slots Q (F0 m pc ls (.int (jI b) :: .int (jI a) :: rest)) := lv_icmp_le hx hb hdg ht (fun h => kt ((jI_le ha hb2).mp h)) (fun h => kf (fun q => h ((jI_le ha hb2).mpr q)))
theorem x_if_eq (hx : p.tables.exec = Jvm.exec) (hb : c.code = cc) (ha : -2147483648 ≤ a ∧ a ≤ 2147483647) (hdg : decode cc pc = .ok (.ifCond .eq off, 3)) (ht : (pc : Int) + off = (tgt : Int)) (kt : a = 0 → W p l e R s m args below meth c H locs cells slots Q (F0 m tgt ls rest)) (kf : ¬ a = 0 → W p l e R s m args below meth c H locs cells slots Q (F0 m (pc + 3) ls rest)) : W p l e R s m args below meth c H locs cells slots Q (F0 m pc ls (.int (jI a) :: rest)) := lv_if_eq hx hb hdg ht (fun h => kt ((jI_eq ha (by omega)).mp (h.trans jI_0))) (fun h => kf (fun q => h (by rw [q]; exact jI_0.symm)))
theorem x_if_ne (hx : p.tables.exec = Jvm.exec) (hb : c.code = cc) (ha : -2147483648 ≤ a ∧ a ≤ 2147483647) (hdg : decode cc pc = .ok (.ifCond .ne off, 3)) (ht : (pc : Int) + off = (tgt : Int)) (kt : ¬ a = 0 → W p l e R s m args below meth c H locs cells slots Q (F0 m tgt ls rest)) (kf : a = 0 → W p l e R s m args below meth c H locs cells slots Q (F0 m (pc + 3) ls rest)) : W p l e R s m args below meth c H locs cells slots Q (F0 m pc ls (.int (jI a) :: rest)) := lv_if_ne hx hb hdg ht (fun h => kt (fun q => h (by rw [q]; exact jI_0.symm))) (fun h => kf ((jI_eq ha (by omega)).mp (h.trans jI_0)))
theorem x_if_lt (hx : p.tables.exec = Jvm.exec) (hb : c.code = cc) (ha : -2147483648 ≤ a ∧ a ≤ 2147483647) (hdg : decode cc pc = .ok (.ifCond .lt off, 3)) (ht : (pc : Int) + off = (tgt : Int)) (kt : a < 0 → W p l e R s m args below meth c H locs cells slots Q (F0 m tgt ls rest)) (kf : ¬ a < 0 → W p l e R s m args below meth c H locs cells slots Q (F0 m (pc + 3) ls rest)) : W p l e R s m args below meth c H locs cells slots Q (F0 m pc ls (.int (jI a) :: rest)) := lv_if_lt hx hb hdg ht (fun h => kt ((jI_lt ha (by omega)).mp (jI_0 ▸ h))) (fun h => kf (fun q => h (jI_0 ▸ (jI_lt ha (by omega)).mpr q)))
theorem x_if_ge (hx : p.tables.exec = Jvm.exec) (hb : c.code = cc) (ha : -2147483648 ≤ a ∧ a ≤ 2147483647) (hdg : decode cc pc = .ok (.ifCond .ge off, 3)) (ht : (pc : Int) + off = (tgt : Int)) (kt : 0 ≤ a → W p l e R s m args below meth c H locs cells slots Q (F0 m tgt ls rest)) (kf : ¬ 0 ≤ a → W p l e R s m args below meth c H locs cells slots Q (F0 m (pc + 3) ls rest)) : W p l e R s m args below meth c H locs cells slots Q (F0 m pc ls (.int (jI a) :: rest)) := lv_if_ge hx hb hdg ht (fun h => kt ((jI_le (by omega) ha).mp (jI_0 ▸ h))) (fun h => kf (fun q => h (jI_0 ▸ (jI_le (by omega) ha).mpr q)))
theorem x_if_gt (hx : p.tables.exec = Jvm.exec) (hb : c.code = cc) (ha : -2147483648 ≤ a ∧ a ≤ 2147483647) (hdg : decode cc pc = .ok (.ifCond .gt off, 3)) (ht : (pc : Int) + off = (tgt : Int)) (kt : 0 < a → W p l e R s m args below meth c H locs cells slots Q (F0 m tgt ls rest)) (kf : ¬ 0 < a → W p l e R s m args below meth c H locs cells slots Q (F0 m (pc + 3) ls rest)) : W p l e R s m args below meth c H locs cells slots Q (F0 m pc ls (.int (jI a) :: rest)) := lv_if_gt hx hb hdg ht (fun h => kt ((jI_lt (by omega) ha).mp (jI_0 ▸ h))) (fun h => kf (fun q => h (jI_0 ▸ (jI_lt (by omega) ha).mpr q)))
theorem x_if_le (hx : p.tables.exec = Jvm.exec) (hb : c.code = cc) (ha : -2147483648 ≤ a ∧ a ≤ 2147483647) (hdg : decode cc pc = .ok (.ifCond .le off, 3)) (ht : (pc : Int) + off = (tgt : Int)) (kt : a ≤ 0 → W p l e R s m args below meth c H locs cells slots Q (F0 m tgt ls rest)) (kf : ¬ a ≤ 0 → W p l e R s m args below meth c H locs cells slots Q (F0 m (pc + 3) ls rest)) : W p l e R s m args below meth c H locs cells slots Q (F0 m pc ls (.int (jI a) :: rest)) := lv_if_le hx hb hdg ht (fun h => kt ((jI_le ha (by omega)).mp (jI_0 ▸ h))) (fun h => kf (fun q => h (jI_0 ▸ (jI_le ha (by omega)).mpr q)))
theorem x_lcmp (hx : p.tables.exec = Jvm.exec) (hb : c.code = cc) (ha : -9223372036854775808 ≤ a ∧ a ≤ 9223372036854775807) (hb2 : -9223372036854775808 ≤ b ∧ b ≤ 9223372036854775807) (hdg : decode cc pc = .ok (.lcmp, 1)) (k : W p l e R s m args below meth c H locs cells slots Q (F0 m (pc + 1) ls (.int (jI (cmpZ a b)) :: rest))) : W p l e R s m args below meth c H locs cells slots Q (F0 m pc ls (.long (jL b) :: .long (jL a) :: rest)) := W.lcmp hx hb hdg (by rw [lg_cmpZ ha hb2]; exact k)
theorem x_if_eqT (hx : p.tables.exec = Jvm.exec) (hb : c.code = cc) (ha : -2147483648 ≤ a ∧ a ≤ 2147483647) (h : a = 0) (hdg : decode cc pc = .ok (.ifCond .eq off, 3)) (ht : (pc : Int) + off = (tgt : Int)) (kt : W p l e R s m args below meth c H locs cells slots Q (F0 m tgt ls rest)) : W p l e R s m args below meth c H locs cells slots Q (F0 m pc ls (.int (jI a) :: rest)) := x_if_eq hx hb ha hdg ht (fun _ => kt) (fun q => absurd h (by omega))
theorem x_if_eqF (hx : p.tables.exec = Jvm.exec) (hb : c.code = cc) (ha : -2147483648 ≤ a ∧ a ≤ 2147483647) (h : ¬ a = 0) (hdg : decode cc pc = .ok (.ifCond .eq off, 3)) (ht : (pc : Int) + off = (tgt : Int)) (kf : W p l e R s m args below meth c H locs cells slots Q (F0 m (pc + 3) ls rest)) : W p l e R s m args below meth c H locs cells slots Q (F0 m pc ls (.int (jI a) :: rest)) := x_if_eq hx hb ha hdg ht (fun q => absurd h (by omega)) (fun _ => kf)
theorem x_if_neT (hx : p.tables.exec = Jvm.exec) (hb : c.code = cc) (ha : -2147483648 ≤ a ∧ a ≤ 2147483647) (h : ¬ a = 0) (hdg : decode cc pc = .ok (.ifCond .ne off, 3)) (ht : (pc : Int) + off = (tgt : Int)) (kt : W p l e R s m args below meth c H locs cells slots Q (F0 m tgt ls rest)) : W p l e R s m args below meth c H locs cells slots Q (F0 m pc ls (.int (jI a) :: rest)) := x_if_ne hx hb ha hdg ht (fun _ => kt) (fun q => absurd h (by omega))
theorem x_if_neF (hx : p.tables.exec = Jvm.exec) (hb : c.code = cc) (ha : -2147483648 ≤ a ∧ a ≤ 2147483647) (h : a = 0) (hdg : decode cc pc = .ok (.ifCond .ne off, 3)) (ht : (pc : Int) + off = (tgt : Int)) (kf : W p l e R s m args below meth c H locs cells slots Q (F0 m (pc + 3) ls rest)) : W p l e R s m args below meth c H locs cells slots Q (F0 m pc ls (.int (jI a) :: rest)) := x_if_ne hx hb ha hdg ht (fun q => absurd h (by omega)) (fun _ => kf)
end XO
theorem cz_ltT {z a b : Int} (g : (z < 0 ↔ a < b) ∧ (z = 0 ↔ a = b) ∧ -1 ≤ z ∧ z ≤ 1) (h : z < 0) : a < b := by omega
theorem cz_ltF {z a b : Int} (g : (z < 0 ↔ a < b) ∧ (z = 0 ↔ a = b) ∧ -1 ≤ z ∧ z ≤ 1) (h : ¬ z < 0) : b ≤ a := by omega
theorem cz_geT {z a b : Int} (g : (z < 0 ↔ a < b) ∧ (z = 0 ↔ a = b) ∧ -1 ≤ z ∧ z ≤ 1) (h : 0 ≤ z) : b ≤ a := by omega
theorem cz_geF {z a b : Int} (g : (z < 0 ↔ a < b) ∧ (z = 0 ↔ a = b) ∧ -1 ≤ z ∧ z ≤ 1) (h : ¬ 0 ≤ z) : a < b := by omega
theorem cz_eqT {z a b : Int} (g : (z < 0 ↔ a < b) ∧ (z = 0 ↔ a = b) ∧ -1 ≤ z ∧ z ≤ 1) (h : z = 0) : a = b := by omega
theorem cz_eqF {z a b : Int} (g : (z < 0 ↔ a < b) ∧ (z = 0 ↔ a = b) ∧ -1 ≤ z ∧ z ≤ 1) (h : ¬ z = 0) : ¬ a = b := by omega
theorem cz_neT {z a b : Int} (g : (z < 0 ↔ a < b) ∧ (z = 0 ↔ a = b) ∧ -1 ≤ z ∧ z ≤ 1) (h : ¬ z = 0) : ¬ a = b := by omega
theorem cz_neF {z a b : Int} (g : (z < 0 ↔ a < b) ∧ (z = 0 ↔ a = b) ∧ -1 ≤ z ∧ z ≤ 1) (h : z = 0) : a = b := by omega
theorem cz_gtT {z a b : Int} (g : (z < 0 ↔ a < b) ∧ (z = 0 ↔ a = b) ∧ -1 ≤ z ∧ z ≤ 1) (h : 0 < z) : b < a := by omega
theorem cz_gtF {z a b : Int} (g : (z < 0 ↔ a < b) ∧ (z = 0 ↔ a = b) ∧ -1 ≤ z ∧ z ≤ 1) (h : ¬ 0 < z) : a ≤ b := by omega
theorem cz_leT {z a b : Int} (g : (z < 0 ↔ a < b) ∧ (z = 0 ↔ a = b) ∧ -1 ≤ z ∧ z ≤ 1) (h : z ≤ 0) : a ≤ b := by omega
theorem cz_leF {z a b : Int} (g : (z < 0 ↔ a < b) ∧ (z = 0 ↔ a = b) ∧ -1 ≤ z ∧ z ≤ 1) (h : ¬ z ≤ 0) : b < a := by omega
end
section
/-! contracts over the world, their beginnings, their ends, calls -/
def NQ (U : State) : Prop := (va_Nw (.methodLinkNest RX8 31 yX4_init RX8) U ∧ va_Nw (.methodLinkNest RX8 57 yX1_init RX8) U ∧ va_Nw (.methodLinkNest RX8 62 yX6_init RX8) U ∧ va_Nw (.methodLinkNest RX2 21 yX3_init RX8) U) ∧ (va_AO RX0 U ∧ va_AO RX3 U ∧ va_AO RX4 U ∧ va_AO RX5 U ∧ va_AO RX6 U ∧ va_AO RX7 U)
theorem NQ.warm {s U : State} (hW : s.WarmedH U.vm) (h : NQ s) : NQ U := ⟨⟨va_Nw.warmM hW h.1.1, va_Nw.warmM hW h.1.2.1, va_Nw.warmM hW h.1.2.2.1, va_Nw.warmM hW h.1.2.2.2⟩, va_AO.moved hW.alike h.2.1, va_AO.moved hW.alike h.2.2.1, va_AO.moved hW.alike h.2.2.2.1, va_AO.moved hW.alike h.2.2.2.2.1, va_AO.moved hW.alike h.2.2.2.2.2.1, va_AO.moved hW.alike h.2.2.2.2.2.2⟩
theorem NQ.call {U : State} {g : JFrame} {mk : MethodId} {a : Array Value} (h : NQ U) : NQ (U.calling g mk a) := ⟨⟨va_Nw.same rfl rfl h.1.1, va_Nw.same rfl rfl h.1.2.1, va_Nw.same rfl rfl h.1.2.2.1, va_Nw.same rfl rfl h.1.2.2.2⟩, va_AO.moved (u := U) (U := U.calling g mk a) (Vm.Alike.refl U.vm) h.2.1, va_AO.moved (u := U) (U := U.calling g mk a) (Vm.Alike.refl U.vm) h.2.2.1, va_AO.moved (u := U) (U := U.calling g mk a) (Vm.Alike.refl U.vm) h.2.2.2.1, va_AO.moved (u := U) (U := U.calling g mk a) (Vm.Alike.refl U.vm) h.2.2.2.2.1, va_AO.moved (u := U) (U := U.calling g mk a) (Vm.Alike.refl U.vm) h.2.2.2.2.2.1, va_AO.moved (u := U) (U := U.calling g mk a) (Vm.Alike.refl U.vm) h.2.2.2.2.2.2⟩
def NK (U : State) : Prop := va_Nw (.methodLinkNest RX7 39 yX8_isBelow RX8) U ∧ va_Nw (.methodLinkNest RX7 47 yX8_isRowLane RX8) U ∧ va_Nw (.methodLinkNest RX4 50 yX8_isRowLane RX8) U ∧ NQ U
def Kx (D : va_G) (tc : Nat → ClassId) (U : State) : Prop := va_K D vwCl (tysL tc) U ∧ NK U
theorem Kx.warm {D : va_G} {tc : Nat → ClassId} {s U : State} (hW : s.WarmedH U.vm) (h : Kx D tc s) : Kx D tc U := ⟨va_K.moved hW.alike h.1, va_Nw.warmM hW h.2.1, va_Nw.warmM hW h.2.2.1, va_Nw.warmM hW h.2.2.2.1, NQ.warm hW h.2.2.2.2⟩
theorem Kx.call {D : va_G} {tc : Nat → ClassId} {U : State} {g : JFrame} {mk : MethodId} {a : Array Value} (h : Kx D tc U) : Kx D tc (U.calling g mk a) := ⟨va_K.moved (u := U) (U := U.calling g mk a) (Vm.Alike.refl U.vm) h.1, va_Nw.same rfl rfl h.2.1, va_Nw.same rfl rfl h.2.2.1, va_Nw.same rfl rfl h.2.2.2.1, NQ.call h.2.2.2.2⟩
/-- how many cells there are of each kind -/
def fxL : List (Nat × Int) := [(0, 1), (1, 1), (2, 1), (3, 1), (4, 1), (5, 1), (6, 1), (7, 6), (8, 6), (9, 6), (10, 6), (11, 6), (12, 6), (13, 6), (14, 6), (15, 30), (16, 30), (17, 30), (28, 80), (29, 1), (30, 1), (31, 1), (32, 1), (40, 1), (42, 1), (44, 1), (45, 1), (46, 1), (47, 1), (48, 1), (49, 1), (50, 1), (51, 1), (52, 1), (53, 1), (55, 1), (56, 1), (57, 1), (58, 1), (59, 1), (60, 1), (62, 1), (64, 1), (65, 1), (66, 1), (67, 1), (68, 1), (70, 1), (71, 1), (72, 1), (73, 1), (74, 1), (75, 1), (76, 1), (77, 1), (78, 1), (79, 1), (80, 1), (81, 1), (85, 1), (86, 1), (87, 1), (88, 1), (89, 1), (90, 1), (100, 1)]
def Fx (cnt : Nat → Int) : Prop := (∀ q ∈ fxL, cnt q.1 = q.2) ∧ (∀ k ∈ [20, 21, 22, 23, 24], cnt k = cnt 19) ∧ cnt 27 = cnt 26
theorem Fx.at {cnt : Nat → Int} (h : Fx cnt) (k : Nat) (n : Int) (hk : (k, n) ∈ fxL) : cnt k = n := h.1 (k, n) hk
abbrev frA (base : Nat) : Nat → Prop := fun q => base ≤ q
def PcW (D : va_G) (tc : Nat → ClassId) (base : Nat) (u : St) (av : List Value) : Array Value → State → Prop := va_Pc av (fun U => wd D tc base u U.heap ∧ Kx D tc U)
theorem PcW.blind {D : va_G} {tc : Nat → ClassId} {base : Nat} {u : St} {av : List Value} : FrameBlind (PcW D tc base u av) := fun a U g mk q => ⟨q.1, q.2.1, q.2.2.call⟩
def QI (D : va_G) (tc : Nat → ClassId) (base : Nat) (post : Int → St → Prop) : Array Value → State → Outcome → State → Prop := va_Qi (fun (r : Int32) (u' : St) => ∃ z : Int, r = jI z ∧ post z u') (fun u' t => wd D tc base u' t.heap) (frA base)
def QL (D : va_G) (tc : Nat → ClassId) (base : Nat) (post : Int → St → Prop) : Array Value → State → Outcome → State → Prop := va_Ql (fun (r : Int64) (u' : St) => ∃ z : Int, r = jL z ∧ post z u') (fun u' t => wd D tc base u' t.heap) (frA base)
def QV (D : va_G) (tc : Nat → ClassId) (base : Nat) (post : St → Prop) : Array Value → State → Outcome → State → Prop := va_Qv (fun (u' : St) => post u') (fun u' t => wd D tc base u' t.heap) (frA base)
def QR (D : va_G) (tc : Nat → ClassId) (base k : Nat) (post : Option Int → St → Prop) : Array Value → State → Outcome → State → Prop := va_Qq (fun (r : Option Nat) (u' : St) => ∃ o : Option Int, r = o.map (u'.1 k) ∧ post o u') (fun u' t => wd D tc base u' t.heap) (frA base)
def KI (l : Launch) (D : va_G) (tc : Nat → ClassId) (base : Nat) (y : MethodName) (ws : List Cond) (rm : Room) (av : List Value) (u : St) (mc ms : Nat) (post : Int → St → Prop) : Prop := Met l y ws rm (PcW D tc base u av) (QI D tc base post) mc ms (frA base)
def KL (l : Launch) (D : va_G) (tc : Nat → ClassId) (base : Nat) (y : MethodName) (ws : List Cond) (rm : Room) (av : List Value) (u : St) (mc ms : Nat) (post : Int → St → Prop) : Prop := Met l y ws rm (PcW D tc base u av) (QL D tc base post) mc ms (frA base)
def KV (l : Launch) (D : va_G) (tc : Nat → ClassId) (base : Nat) (y : MethodName) (ws : List Cond) (rm : Room) (av : List Value) (u : St) (mc ms : Nat) (post : St → Prop) : Prop := Met l y ws rm (PcW D tc base u av) (QV D tc base post) mc ms (frA base)
def KR (l : Launch) (D : va_G) (tc : Nat → ClassId) (base k : Nat) (y : MethodName) (ws : List Cond) (rm : Room) (av : List Value) (u : St) (mc ms : Nat) (post : Option Int → St → Prop) : Prop := Met l y ws rm (PcW D tc base u av) (QR D tc base k post) mc ms (frA base)
theorem K_of {l : Launch} {D : va_G} {tc : Nat → ClassId} {base : Nat} {y : MethodName} {ws ws' : List Cond} {rm : Room} {av : List Value} {u : St} {mc ms : Nat} {Qc : Array Value → State → Outcome → State → Prop} {cc : ByteArray} {maxL : Nat} {ret : Option FieldType}
    (hy : plainName y.cls = true) (hw : ws = Cond.code y cc maxL ret :: ws') (hsl : (lg_sl av).length ≤ maxL)
    (body : ∀ (p : Program) (e : Env) (s : State) (m : MethodId) (below : List Frame) (meth : Method) (c : Code) (ls : Array Slot), p.tables.exec = Jvm.exec → c.code = cc → meth.sig.returnType = ret → c.maxLocals = maxL → s.vm.findClass y.cls = some m.cls → (∀ w ∈ ws, w.before av.toArray s = true) → meth.locks = false → lv_has ls maxL (lv_args 0 av) → Kx D tc s → wd D tc base u s.heap → va_S (frA base) s.heap s.heap [] →
      W p l e rm s m av.toArray below meth c s.heap [] 0 0 (MQ below Qc av.toArray s mc ms (frA base)) (F0 m 0 ls [])) : Met l y ws rm (PcW D tc base u av) Qc mc ms (frA base) := by
  refine Met.ofW (cc := cc) (maxL := maxL) (ret := ret) hy hw ?_
  intro p e s m args below meth c s₁ B hml hv
  obtain ⟨rfl, hW, hK⟩ := hv
  have hl := lv_entry av (n := maxL) hsl
  rw [lg_entry_eq]
  exact body p e s m below meth c _ B.exec B.bytes B.returns hml (findClass_of_methodNamed B.named) (atoms_spec (ws := ws) B.pre) B.notSynchronized hl hK hW va_S.rf
section XC
variable {p : Program} {l : Launch} {e : Env} {R : Room} {s : State} {m : MethodId} {args : Array Value} {below : List Frame} {meth : Method} {c : Code} {H H0 : Heap} {locs : List Loc} {cells slots : Nat} {Q : State → Prop}
variable {cc bytes : ByteArray} {pc nL maxL mc ms n index : Nat} {ls : Array Slot} {rest st0 As : List Value} {D : va_G} {tc : Nat → ClassId} {base : Nat} {ad : Nat → Int → Nat} {cnt : Nat → Int} {X : Nat → Int → Int → Int} {Y : Nat → Int → Int → Option Int} {ln : Int → Int} {u u' : St}
variable {own C host : String} {T : u_T} {N ci : Nat} {Ts ws : List Cond} {rm : Room} {ret : Option FieldType} {y : MethodName} {k j : Nat} {i z : Int}
theorem ret_i {post : Int → St → Prop} (hx : p.tables.exec = Jvm.exec) (hb : c.code = cc) (hr : meth.sig.returnType = some .int) (hlocks : meth.locks = false) (hw : wd D tc base u' H) (hS : va_S (frA base) s.heap H locs) (h1 : cells ≤ mc) (h2 : slots ≤ ms) (hdg : decode cc pc = .ok (.ireturn, 1)) (hp : post z u') :
    W p l e R s m args below meth c H locs cells slots (MQ below (QI D tc base post) args s mc ms (frA base)) (F0 m pc ls [.int (jI z)]) := by
  refine W.widen (k := mc) (n := ms) h1 h2 ?_
  exact W.iret (v := jI z) hx hb hr (fun t ht hW => ⟨⟨jI z, u', rfl, ⟨z, rfl, hp⟩, by show wd D tc base u' t.heap; rw [ht]; exact hw⟩, hS.F ht⟩) hS.2.2 hdg
theorem ret_z {post : Int → St → Prop} (hx : p.tables.exec = Jvm.exec) (hb : c.code = cc) (hr : meth.sig.returnType = some .boolean) (hlocks : meth.locks = false) (hw : wd D tc base u' H) (hS : va_S (frA base) s.heap H locs) (h1 : cells ≤ mc) (h2 : slots ≤ ms) (hdg : decode cc pc = .ok (.ireturn, 1)) (hz : z = 0 ∨ z = 1) (hp : post z u') :
    W p l e R s m args below meth c H locs cells slots (MQ below (QI D tc base post) args s mc ms (frA base)) (F0 m pc ls [.int (jI z)]) := by
  refine W.widen (k := mc) (n := ms) h1 h2 ?_
  exact W.zret (v := jI z) (ty := .boolean) hx hb hr (by rcases hz with rfl | rfl <;> decide +kernel) (fun t ht hW => ⟨⟨jI z, u', rfl, ⟨z, rfl, hp⟩, by show wd D tc base u' t.heap; rw [ht]; exact hw⟩, hS.F ht⟩) hS.2.2 hdg
theorem ret_l {post : Int → St → Prop} (hx : p.tables.exec = Jvm.exec) (hb : c.code = cc) (hr : meth.sig.returnType = some .long) (hlocks : meth.locks = false) (hw : wd D tc base u' H) (hS : va_S (frA base) s.heap H locs) (h1 : cells ≤ mc) (h2 : slots ≤ ms) (hdg : decode cc pc = .ok (.lreturn, 1)) (hp : post z u') :
    W p l e R s m args below meth c H locs cells slots (MQ below (QL D tc base post) args s mc ms (frA base)) (F0 m pc ls [.long (jL z)]) := by
  refine W.widen (k := mc) (n := ms) h1 h2 ?_
  exact W.lret (v := jL z) hx hb hr (fun t ht hW => ⟨⟨jL z, u', rfl, ⟨z, rfl, hp⟩, by show wd D tc base u' t.heap; rw [ht]; exact hw⟩, hS.F ht⟩) hS.2.2 hdg
theorem ret_v {post : St → Prop} (hx : p.tables.exec = Jvm.exec) (hb : c.code = cc) (hr : meth.sig.returnType = none) (hlocks : meth.locks = false) (hw : wd D tc base u' H) (hS : va_S (frA base) s.heap H locs) (h1 : cells ≤ mc) (h2 : slots ≤ ms) (hdg : decode cc pc = .ok (.return_, 1)) (hp : post u') :
    W p l e R s m args below meth c H locs cells slots (MQ below (QV D tc base post) args s mc ms (frA base)) (F0 m pc ls []) := by
  refine W.widen (k := mc) (n := ms) h1 h2 ?_
  exact W.vret hx hb hr (fun t ht hW => ⟨⟨u', rfl, hp, by show wd D tc base u' t.heap; rw [ht]; exact hw⟩, hS.F ht⟩) hS.2.2 hdg
theorem ret_r {post : Option Int → St → Prop} {rt : String} (hx : p.tables.exec = Jvm.exec) (hb : c.code = cc) (hr : meth.sig.returnType = some (.object rt)) (hlocks : meth.locks = false) (hw : wd D tc base u' H) (hS : va_S (frA base) s.heap H locs) (h1 : cells ≤ mc) (h2 : slots ≤ ms) (hdg : decode cc pc = .ok (.areturn, 1)) (hp : post (some i) u') :
    W p l e R s m args below meth c H locs cells slots (MQ below (QR D tc base k post) args s mc ms (frA base)) (F0 m pc ls [.ref (u'.1 k i)]) := by
  refine W.widen (k := mc) (n := ms) h1 h2 ?_
  exact W.aret (v := .ref (u'.1 k i)) hx hb hr (Or.inl ⟨_, rfl⟩) (Or.inr ⟨_, rfl⟩) (fun t ht hW => ⟨⟨some (u'.1 k i), u', rfl, ⟨some i, rfl, hp⟩, by show wd D tc base u' t.heap; rw [ht]; exact hw⟩, hS.F ht⟩) hS.2.2 hdg
theorem ret_n {post : Option Int → St → Prop} {rt : String} (hx : p.tables.exec = Jvm.exec) (hb : c.code = cc) (hr : meth.sig.returnType = some (.object rt)) (hlocks : meth.locks = false) (hw : wd D tc base u' H) (hS : va_S (frA base) s.heap H locs) (h1 : cells ≤ mc) (h2 : slots ≤ ms) (hdg : decode cc pc = .ok (.areturn, 1)) (hp : post none u') :
    W p l e R s m args below meth c H locs cells slots (MQ below (QR D tc base k post) args s mc ms (frA base)) (F0 m pc ls [.null]) := by
  refine W.widen (k := mc) (n := ms) h1 h2 ?_
  exact W.aret (v := .null) hx hb hr (Or.inl ⟨_, rfl⟩) (Or.inl rfl) (fun t ht hW => ⟨⟨none, u', rfl, ⟨none, rfl, hp⟩, by show wd D tc base u' t.heap; rw [ht]; exact hw⟩, hS.F ht⟩) hS.2.2 hdg
theorem rcv {c1 t1 : Nat} (hK : Kx D tc s) (hw : wd D tc base (ad, cnt, X, Y, ln) H) (h0 : 0 ≤ i) (h1 : i < cnt k) (hs : SL k j ci c1 t1 N) {q : vw_C} (hc : vwCl[ci]? = some q) : ∃ cell : Cell, H[ad k i]? = some cell ∧ cell.vm.isStatics = false ∧ s.vm.findClass q.1 = some cell.cls := by
  obtain ⟨wl, q0, hP, hD, hq, -, -⟩ := wd_pos hw h0 h1
  rw [ob_E hs] at hq
  exact va_recv hK.1 hP hc hq
/-- how a call goes on, by what it answers -/
theorem gos_i {post : Int → St → Prop} {av : Array Value} (hr : va_Run p l e R s m args below meth c H locs cells slots mc ms (F0 m pc ls st0) rest (QI D tc base post av) (frA base)) (hS : va_S (frA base) H0 H locs)
    (kk : ∀ (z : Int) (u' : St) (H1 : Heap) (locs1 : List Loc), post z u' → wd D tc base u' H1 → va_S (frA base) H0 H1 locs1 → W p l e R s m args below meth c H1 locs1 (cells + mc) (slots + ms) Q (F0 m (pc + 3) ls (.int (jI z) :: rest))) : W p l e R s m args below meth c H locs cells slots Q (F0 m pc ls st0) := by
  refine va_calli hr hS (fun q _ h => h) (fun q h => h) (fun r u1 t H1 locs1 ht hvm hp hB _ _ hS1 => ?_)
  obtain ⟨z, rfl, hp⟩ := hp
  rw [ht] at hB
  exact kk z u1 H1 locs1 hp hB hS1
theorem gos_l {post : Int → St → Prop} {av : Array Value} (hr : va_Run p l e R s m args below meth c H locs cells slots mc ms (F0 m pc ls st0) rest (QL D tc base post av) (frA base)) (hS : va_S (frA base) H0 H locs)
    (kk : ∀ (z : Int) (u' : St) (H1 : Heap) (locs1 : List Loc), post z u' → wd D tc base u' H1 → va_S (frA base) H0 H1 locs1 → W p l e R s m args below meth c H1 locs1 (cells + mc) (slots + ms) Q (F0 m (pc + 3) ls (.long (jL z) :: rest))) : W p l e R s m args below meth c H locs cells slots Q (F0 m pc ls st0) := by
  refine va_calll hr hS (fun q _ h => h) (fun q h => h) (fun r u1 t H1 locs1 ht hvm hp hB _ _ hS1 => ?_)
  obtain ⟨z, rfl, hp⟩ := hp
  rw [ht] at hB
  exact kk z u1 H1 locs1 hp hB hS1
theorem gos_v {post : St → Prop} {av : Array Value} (hr : va_Run p l e R s m args below meth c H locs cells slots mc ms (F0 m pc ls st0) rest (QV D tc base post av) (frA base)) (hS : va_S (frA base) H0 H locs)
    (kk : ∀ (u' : St) (H1 : Heap) (locs1 : List Loc), post u' → wd D tc base u' H1 → va_S (frA base) H0 H1 locs1 → W p l e R s m args below meth c H1 locs1 (cells + mc) (slots + ms) Q (F0 m (pc + 3) ls rest)) : W p l e R s m args below meth c H locs cells slots Q (F0 m pc ls st0) := by
  refine va_callv hr hS (fun q _ h => h) (fun q h => h) (fun u1 t H1 locs1 ht hvm hp hB _ _ hS1 => ?_)
  rw [ht] at hB
  exact kk u1 H1 locs1 hp hB hS1
theorem gos_r {post : Option Int → St → Prop} {av : Array Value} (hr : va_Run p l e R s m args below meth c H locs cells slots mc ms (F0 m pc ls st0) rest (QR D tc base k post av) (frA base)) (hS : va_S (frA base) H0 H locs)
    (kn : ∀ (u' : St) (H1 : Heap) (locs1 : List Loc), post none u' → wd D tc base u' H1 → va_S (frA base) H0 H1 locs1 → W p l e R s m args below meth c H1 locs1 (cells + mc) (slots + ms) Q (F0 m (pc + 3) ls (.null :: rest)))
    (kk : ∀ (i : Int) (u' : St) (H1 : Heap) (locs1 : List Loc), post (some i) u' → wd D tc base u' H1 → va_S (frA base) H0 H1 locs1 → W p l e R s m args below meth c H1 locs1 (cells + mc) (slots + ms) Q (F0 m (pc + 3) ls (.ref (u'.1 k i) :: rest))) : W p l e R s m args below meth c H locs cells slots Q (F0 m pc ls st0) := by
  refine va_callq hr hS (fun q _ h => h) (fun q h => h) (fun r u1 t H1 locs1 ht hvm hp hB _ _ hS1 => ?_)
  obtain ⟨o, rfl, hp⟩ := hp
  rw [ht] at hB
  cases o with
  | none => exact kn u1 H1 locs1 hp hB hS1
  | some i => exact kk i u1 H1 locs1 hp hB hS1
/-- a call of an object's method -/
theorem run_V {Qc : Array Value → State → Outcome → State → Prop} {c1 t1 : Nat} {q : vw_C} (hx : p.tables.exec = Jvm.exec) (hb : c.code = cc) (hml : c.maxLocals = nL) (hown : s.vm.findClass own = some m.cls) (hts : ∀ w ∈ Ts, w.before args s = true) (hM : Met l y ws rm (PcW D tc base (ad, cnt, X, Y, ln) (.ref (ad k i) :: As)) Qc mc ms (frA base)) (cw : CallW R s args own q.1 index y bytes maxL ret ws rm mc ms n)
    (hK : Kx D tc s) (hw : wd D tc base (ad, cnt, X, Y, ln) H) (h0 : 0 ≤ i) (h1 : i < cnt k) (hs : SL k j ci c1 t1 N) (hc : vwCl[ci]? = some q) (hn : As.length = n) (hl : ls.size = nL) (hstack : st0 = As.reverse ++ .ref (ad k i) :: rest) (hrm : (rest.map fun v => v.category).sum ≤ 8) (hdg : decode cc pc = .ok (.invokevirtual index, 3)) (hf : cells + mc ≤ R.cells ∧ slots + ms ≤ R.slots) :
    va_Run p l e R s m args below meth c H locs cells slots mc ms (F0 m pc ls st0) rest (Qc (Value.ref (ad k i) :: As).toArray) (frA base) :=
  va_runV ⟨hx, hb, hml, hown, hts⟩ hM cw ⟨PcW.blind, rcv hK hw h0 h1 hs hc, fun U hU hW => ⟨rfl, by rw [hU]; exact hw, hK.warm hW⟩⟩ rfl hn hl hstack (lv_room hrm) hdg hf
theorem run_S {Qc : Array Value → State → Outcome → State → Prop} (hx : p.tables.exec = Jvm.exec) (hb : c.code = cc) (hml : c.maxLocals = nL) (hown : s.vm.findClass own = some m.cls) (hts : ∀ w ∈ Ts, w.before args s = true) (hM : Met l y ws rm (PcW D tc base u As) Qc mc ms (frA base)) (cw : CallB R s args own index y bytes maxL ret ws rm mc ms n ∧ (Cond.static y).before args s = true)
    (hK : Kx D tc s) (hw : wd D tc base u H) (hn : As.length = n) (hl : ls.size = nL) (hstack : st0 = As.reverse ++ rest) (hrm : (rest.map fun v => v.category).sum ≤ 8) (hdg : decode cc pc = .ok (.invokestatic index, 3)) (hf : cells + mc ≤ R.cells ∧ slots + ms ≤ R.slots) :
    va_Run p l e R s m args below meth c H locs cells slots mc ms (F0 m pc ls st0) rest (Qc As.toArray) (frA base) :=
  va_runS ⟨hx, hb, hml, hown, hts⟩ hM cw ⟨PcW.blind, fun U hU hW => ⟨rfl, by rw [hU]; exact hw, hK.warm hW⟩⟩ rfl hn hl hstack (lv_room hrm) hdg hf
theorem run_SN {Qc : Array Value → State → Outcome → State → Prop} (hx : p.tables.exec = Jvm.exec) (hb : c.code = cc) (hml : c.maxLocals = nL) (hown : s.vm.findClass own = some m.cls) (hts : ∀ w ∈ Ts, w.before args s = true) (hM : Met l y ws rm (PcW D tc base u As) Qc mc ms (frA base)) (cw : va_CN R s args own index y host bytes maxL ret ws rm mc ms n ∧ (Cond.static y).before args s = true ∧ True)
    (hK : Kx D tc s) (hw : wd D tc base u H) (hn : As.length = n) (hl : ls.size = nL) (hstack : st0 = As.reverse ++ rest) (hrm : (rest.map fun v => v.category).sum ≤ 8) (hdg : decode cc pc = .ok (.invokestatic index, 3)) (hf : cells + mc ≤ R.cells ∧ slots + ms ≤ R.slots) :
    va_Run p l e R s m args below meth c H locs cells slots mc ms (F0 m pc ls st0) rest (Qc As.toArray) (frA base) :=
  va_runSN ⟨hx, hb, hml, hown, hts⟩ hM cw ⟨PcW.blind, fun U hU hW => ⟨rfl, by rw [hU]; exact hw, hK.warm hW⟩⟩ rfl hn hl hstack (lv_room hrm) hdg hf
end XC
/-! the ranges: printed by wip/tools/walk.py -/
def rgL : List (List (Int × Int)) := [[((-9223372036854775808), 9223372036854775807), (0, 8), ((-9223372036854775808), 9223372036854775807), (0, 30), ((-9223372036854775808), 9223372036854775807), ((-9223372036854775808), 9223372036854775807), ((-9223372036854775808), 9223372036854775807), ((-9223372036854775808), 9223372036854775807), ((-9223372036854775808), 9223372036854775807), ((-9223372036854775808), 9223372036854775807), ((-9223372036854775808), 9223372036854775807), ((-9223372036854775808), 9223372036854775807)],
  [((-9223372036854775808), 9223372036854775807)],
  [((-9223372036854775808), 9223372036854775807)],
  [(0, 1)],
  [((-9223372036854775808), 9223372036854775807)],
  [((-9223372036854775808), 9223372036854775807)],
  [((-9223372036854775808), 9223372036854775807)],
  [(0, 30), ((-9223372036854775808), 9223372036854775807), ((-9223372036854775808), 9223372036854775807), ((-9223372036854775808), 9223372036854775807), ((-9223372036854775808), 9223372036854775807), ((-9223372036854775808), 9223372036854775807), (0, 150), ((-9223372036854775808), 9223372036854775807), ((-9223372036854775808), 9223372036854775807)],
  [(0, 7)],
  [(0, 5)],
  [(0, 19)],
  [(0, 5)],
  [((-9223372036854775808), 9223372036854775807)],
  [(0, 12)],
  [((-9223372036854775808), 9223372036854775807)],
  [((-9223372036854775808), 9223372036854775807), ((-9223372036854775808), 9223372036854775807), ((-9223372036854775808), 9223372036854775807), ((-1), 29)],
  [((-9223372036854775808), 9223372036854775807)],
  [((-9223372036854775808), 9223372036854775807)],
  [],
  [(0, 7), (0, 5), ((-9223372036854775808), 9223372036854775807), ((-9223372036854775808), 9223372036854775807), ((-9223372036854775808), 9223372036854775807), ((-9223372036854775808), 9223372036854775807), (0, 4), ((-9223372036854775808), 9223372036854775807)],
  [(0, 19)],
  [(0, 5)],
  [((-9223372036854775808), 9223372036854775807)],
  [(0, 1)],
  [((-9223372036854775808), 9223372036854775807)],
  [(0, 5), (0, 4), (0, 4), ((-9223372036854775808), 9223372036854775807)],
  [((-9223372036854775808), 9223372036854775807), ((-1), 149)],
  [((-9223372036854775808), 9223372036854775807)],
  [((-9223372036854775808), 9223372036854775807), (0, 11), ((-9223372036854775808), 9223372036854775807), ((-9223372036854775808), 9223372036854775807)],
  [((-9223372036854775808), 9223372036854775807), (0, 80), ((-9223372036854775808), 9223372036854775807), (0, 4)],
  [((-9223372036854775808), 9223372036854775807)],
  [(0, 80)],
  [(0, 1), ((-2147483648), 2147483647), ((-2147483648), 2147483647), ((-2147483648), 2147483647)],
  [],
  [],
  [],
  [],
  [],
  [],
  [],
  [((-2147483648), 2147483647), ((-9223372036854775808), 9223372036854775807), (0, 8), ((-9223372036854775808), 9223372036854775807), ((-9223372036854775808), 9223372036854775807), ((-9223372036854775808), 9223372036854775807), ((-9223372036854775808), 9223372036854775807), ((-9223372036854775808), 9223372036854775807), ((-9223372036854775808), 9223372036854775807), ((-9223372036854775808), 9223372036854775807), ((-9223372036854775808), 9223372036854775807), ((-9223372036854775808), 9223372036854775807), ((-9223372036854775808), 9223372036854775807), (0, 30), ((-9223372036854775808), 9223372036854775807), ((-9223372036854775808), 9223372036854775807), ((-9223372036854775808), 9223372036854775807), ((-9223372036854775808), 9223372036854775807), ((-9223372036854775808), 9223372036854775807), ((-9223372036854775808), 9223372036854775807), (0, 4), ((-9223372036854775808), 9223372036854775807), (0, 80), ((-9223372036854775808), 9223372036854775807), ((-9223372036854775808), 9223372036854775807), ((-9223372036854775808), 9223372036854775807), ((-9223372036854775808), 9223372036854775807), ((-9223372036854775808), 9223372036854775807), (0, 3), ((-9223372036854775808), 9223372036854775807), ((-9223372036854775808), 9223372036854775807), ((-9223372036854775808), 9223372036854775807), ((-9223372036854775808), 9223372036854775807), ((-9223372036854775808), 9223372036854775807), ((-9223372036854775808), 9223372036854775807), ((-9223372036854775808), 9223372036854775807), ((-9223372036854775808), 9223372036854775807), ((-9223372036854775808), 9223372036854775807), ((-9223372036854775808), 9223372036854775807), ((-9223372036854775808), 9223372036854775807), ((-9223372036854775808), 9223372036854775807), ((-2147483648), 2147483647), ((-2147483648), 2147483647), ((-2147483648), 2147483647), ((-9223372036854775808), 9223372036854775807), ((-9223372036854775808), 9223372036854775807), ((-9223372036854775808), 9223372036854775807), ((-9223372036854775808), 9223372036854775807), ((-9223372036854775808), 9223372036854775807), ((-9223372036854775808), 9223372036854775807), (0, 30)],
  [],
  [(0, 1)],
  [],
  [(0, 5)],
  [(0, 19)],
  [(0, 5)],
  [((-9223372036854775808), 9223372036854775807)],
  [(0, 1)],
  [(0, 4)],
  [(0, 5)],
  [(0, 4)],
  [(0, 4)],
  [((-9223372036854775808), 9223372036854775807)],
  [],
  [(0, 7)],
  [((-9223372036854775808), 9223372036854775807)],
  [(0, 5)],
  [(0, 12)],
  [((-9223372036854775808), 9223372036854775807)],
  [(0, 1)],
  [],
  [(0, 80)],
  [],
  [(0, 29)],
  [(0, 4)],
  [((-1), 399)],
  [((-1), 11)],
  [((-9223372036854775808), 9223372036854775807)],
  [],
  [(0, 30)],
  [(0, 7)],
  [(0, 5)],
  [(0, 19)],
  [(0, 5)],
  [((-9223372036854775808), 9223372036854775807)],
  [(0, 150)],
  [(0, 5)],
  [(0, 12)],
  [((-9223372036854775808), 9223372036854775807)],
  [(0, 29)],
  [(0, 399)],
  [],
  [],
  [],
  [((-1), 399)],
  [((-1), 29)],
  [((-1), 29)],
  [((-1), 399)],
  [((-1), 399)],
  [(0, 29)],
  [],
  [],
  [],
  [],
  [],
  [],
  [],
  [],
  [],
  [((-9223372036854775808), 9223372036854775807)]]
def rg (k : Nat) (j : Int) : Int × Int := (rgL.getD k []).getD (if (rgL.getD k []).length = 1 then 0 else j.toNat) (-9223372036854775808, 9223372036854775807)
def Rng (X : Nat → Int → Int → Int) : Prop := ∀ (k : Nat) (i j : Int), (rg k j).1 ≤ X k i j ∧ X k i j ≤ (rg k j).2
theorem rng_set {X : Nat → Int → Int → Int} {k : Nat} {i j v : Int} (h : Rng X) (hv : (rg k j).1 ≤ v ∧ v ≤ (rg k j).2) : Rng (u3 X k i j v) := by
  intro k2 i2 j2
  simp only [u3]
  split
  · rename_i hc
    obtain ⟨rfl, rfl, rfl⟩ := hc
    exact hv
  · exact h k2 i2 j2
def fcode (k : Nat) (j : Int) : Nat := if (lay k).1 = 0 then k * 100 else k * 100 + 1 + j.toNat
def Frm {α : Type} (M : List Nat) (X X1 : Nat → Int → Int → α) : Prop := ∀ (k : Nat) (i j : Int), fcode k j ∉ M → X1 k i j = X k i j
theorem Frm.rf {α : Type} {M : List Nat} {X : Nat → Int → Int → α} : Frm M X X := fun _ _ _ _ => rfl
theorem Frm.tr {α : Type} {M : List Nat} {X X1 X2 : Nat → Int → Int → α} (h : Frm M X X1) (g : Frm M X1 X2) : Frm M X X2 := fun k i j n => (g k i j n).trans (h k i j n)
theorem Frm.set {α : Type} {M : List Nat} {X X1 : Nat → Int → Int → α} {k : Nat} {i j : Int} {v : α} (h : Frm M X X1) (hm : fcode k j ∈ M) : Frm M X (u3 X1 k i j v) := by
  intro k2 i2 j2 hn
  simp only [u3]
  split
  · rename_i hc
    obtain ⟨rfl, rfl, rfl⟩ := hc
    exact absurd hm hn
  · exact h k2 i2 j2 hn
theorem Frm.mono {α : Type} {M M1 : List Nat} {X X1 : Nat → Int → Int → α} (h : Frm M X X1) (hs : ∀ c ∈ M, c ∈ M1) : Frm M1 X X1 := fun k i j n => h k i j (fun q => n (hs _ q))
end
section
/-! what holds of the reference between calls: printed by wip/tools/minv.py -/
def tyv (th lane v : Int) : Prop := (lane = 1 → -1 ≤ v ∧ v ≤ 15) ∧ (lane = 2 → -1 ≤ v ∧ v < th) ∧ (3 ≤ lane → -1 ≤ v ∧ v ≤ 399)
def mA (X : Nat → Int → Int → Int) : Prop := ∀ x k : Int, 0 ≤ x → x < X 40 0 13 → 0 ≤ k → k < X 44 0 (X 55 0 x) → tyv (X 40 0 13) (X 46 0 (5 * X 55 0 x + k)) (X 56 0 (5 * x + k))
def mB (X : Nat → Int → Int → Int) : Prop := ∀ t k : Int, 0 ≤ t → t ≤ 7 → 0 ≤ k → k < X 44 0 t → X 46 0 (5 * t + k) ≠ 0 → X 47 0 (5 * t + k) = -1
def mC (X : Nat → Int → Int → Int) : Prop := ∀ s r : Int, 0 ≤ s → s ≤ 3 → 0 ≤ r → r < X 70 0 s → X 71 0 (30 * s + r) < X 40 0 2 ∧ ∀ k : Int, 0 ≤ k → k < X 72 0 (30 * s + r) → (X 74 0 (5 * (30 * s + r) + k) = 1 → -1 ≤ X 75 0 (5 * (30 * s + r) + k) ∧ X 75 0 (5 * (30 * s + r) + k) ≤ 15) ∧ (X 74 0 (5 * (30 * s + r) + k) = 2 → -1 ≤ X 75 0 (5 * (30 * s + r) + k) ∧ X 75 0 (5 * (30 * s + r) + k) < X 70 0 s) ∧ (3 ≤ X 74 0 (5 * (30 * s + r) + k) → -1 ≤ X 75 0 (5 * (30 * s + r) + k) ∧ X 75 0 (5 * (30 * s + r) + k) ≤ 149)
def mD (X : Nat → Int → Int → Int) : Prop := ∀ n : Int, 0 ≤ n → n < X 40 0 22 → (X 67 0 n < 0 → X 64 0 n < X 40 0 13 ∧ X 65 0 n < X 44 0 (X 55 0 (X 64 0 n)) ∧ tyv (X 40 0 13) (X 46 0 (5 * X 55 0 (X 64 0 n) + X 65 0 n)) (X 68 0 n)) ∧ (0 ≤ X 67 0 n → 0 ≤ X 66 0 n)
def mE (X : Nat → Int → Int → Int) : Prop := (X 40 0 20 = 0 → X 40 0 22 = 0) ∧ (0 < X 40 0 20 → X 62 0 0 = 0)
def mF (X : Nat → Int → Int → Int) : Prop := ∀ x : Int, 0 ≤ x → x < X 40 0 13 → X 55 0 x < X 40 0 2
def MInv (X : Nat → Int → Int → Int) : Prop := mA X ∧ mB X ∧ mC X ∧ mD X ∧ mE X ∧ mF X
def mDep : List Nat := [4400, 4600, 4700, 5500, 5600, 6200, 6400, 6500, 6600, 6700, 6800, 7000, 7100, 7200, 7400, 7500, 4003, 4014, 4021, 4023]
theorem minv_frm {M : List Nat} {X X1 : Nat → Int → Int → Int} (h : MInv X) (hF : Frm M X X1) (hd : ∀ c ∈ mDep, c ∉ M) : MInv X1 := by
  have efMany : ∀ j, X1 44 0 j = X 44 0 j := fun j => hF 44 0 j (hd 4400 (by decide))
  have efLane : ∀ j, X1 46 0 j = X 46 0 j := fun j => hF 46 0 j (hd 4600 (by decide))
  have efFirst : ∀ j, X1 47 0 j = X 47 0 j := fun j => hF 47 0 j (hd 4700 (by decide))
  have exType : ∀ j, X1 55 0 j = X 55 0 j := fun j => hF 55 0 j (hd 5500 (by decide))
  have exVal : ∀ j, X1 56 0 j = X 56 0 j := fun j => hF 56 0 j (hd 5600 (by decide))
  have emarkAt : ∀ j, X1 62 0 j = X 62 0 j := fun j => hF 62 0 j (hd 6200 (by decide))
  have enoteThing : ∀ j, X1 64 0 j = X 64 0 j := fun j => hF 64 0 j (hd 6400 (by decide))
  have enoteField : ∀ j, X1 65 0 j = X 65 0 j := fun j => hF 65 0 j (hd 6500 (by decide))
  have enoteRow : ∀ j, X1 66 0 j = X 66 0 j := fun j => hF 66 0 j (hd 6600 (by decide))
  have enoteItem : ∀ j, X1 67 0 j = X 67 0 j := fun j => hF 67 0 j (hd 6700 (by decide))
  have enoteWas : ∀ j, X1 68 0 j = X 68 0 j := fun j => hF 68 0 j (hd 6800 (by decide))
  have esMany : ∀ j, X1 70 0 j = X 70 0 j := fun j => hF 70 0 j (hd 7000 (by decide))
  have esType : ∀ j, X1 71 0 j = X 71 0 j := fun j => hF 71 0 j (hd 7100 (by decide))
  have esFields : ∀ j, X1 72 0 j = X 72 0 j := fun j => hF 72 0 j (hd 7200 (by decide))
  have esLane : ∀ j, X1 74 0 j = X 74 0 j := fun j => hF 74 0 j (hd 7400 (by decide))
  have esVal : ∀ j, X1 75 0 j = X 75 0 j := fun j => hF 75 0 j (hd 7500 (by decide))
  have etypes : X1 40 0 2 = X 40 0 2 := hF 40 0 2 (hd 4003 (by decide))
  have ethings : X1 40 0 13 = X 40 0 13 := hF 40 0 13 (hd 4014 (by decide))
  have emarks : X1 40 0 20 = X 40 0 20 := hF 40 0 20 (hd 4021 (by decide))
  have enotes : X1 40 0 22 = X 40 0 22 := hF 40 0 22 (hd 4023 (by decide))
  unfold MInv mA mB mC mD mE mF at *
  simp only [efMany, efLane, efFirst, exType, exVal, emarkAt, enoteThing, enoteField, enoteRow, enoteItem, enoteWas, esMany, esType, esFields, esLane, esVal, etypes, ethings, emarks, enotes]
  exact h
/-! what has a place in the order: each thing once -/
def ordOK (X : Nat → Int → Int → Int) : Prop := (∀ r, 0 ≤ r → r < X 70 0 4 → X 80 0 r < X 40 0 13) ∧ ∀ r q, 0 ≤ r → r < X 70 0 4 → 0 ≤ q → q < X 70 0 4 → X 80 0 r = X 80 0 q → r = q
theorem pgn2 : ∀ (n : Nat) (g : Nat → Int) (N : Nat), (∀ r, r < n → 0 ≤ g r ∧ g r < N) → (∀ r q, r < n → q < n → g r = g q → r = q) → n ≤ N := by
  intro n g N hb hi
  have key : ∀ m, m ≤ n → ((List.range m).map g).length = m ∧ ∀ v, v ∈ (List.range m).map g → 0 ≤ v ∧ v < N := by
    intro m hm
    refine ⟨by simp, fun v hv => ?_⟩
    obtain ⟨r, hr, rfl⟩ := List.mem_map.mp hv
    exact hb r (by have := List.mem_range.mp hr; omega)
  have h2 : ∀ (N : Nat) (Lk : List Int), Lk.Nodup → (∀ v, v ∈ Lk → 0 ≤ v ∧ v < N) → Lk.length ≤ N := by
    intro N
    induction N with
    | zero =>
      intro Lk _ h
      cases Lk with
      | nil => simp
      | cons a t => have := h a List.mem_cons_self; omega
    | succ N ih =>
      intro Lk hn h
      have h3 := ih (Lk.erase (N : Int)) (hn.erase _) (fun v hv => by
        have h4 := h v (List.mem_of_mem_erase hv)
        have h5 : v ≠ (N : Int) := fun e => by rw [e] at hv; exact (hn.not_mem_erase hv)
        omega)
      by_cases hm : (N : Int) ∈ Lk
      · have h6 := List.length_erase_of_mem hm
        omega
      · rw [List.erase_of_not_mem hm] at h3
        omega
  have h7 : ((List.range n).map g).Nodup := by
    refine List.pairwise_map.mpr (List.Pairwise.imp_of_mem ?_ List.nodup_range)
    intro a b ha hb' hn e
    exact hn (hi a b (List.mem_range.mp ha) (List.mem_range.mp hb') e)
  have := h2 N _ h7 (key n (Nat.le_refl n)).2
  rw [(key n (Nat.le_refl n)).1] at this
  exact this
theorem ordOK.room {X : Nat → Int → Int → Int} {x : Int} (h : ordOK X) (hR : Rng X) (h0 : 0 ≤ x) (hx : x < X 40 0 13) (hne : ∀ j, 0 ≤ j → j < X 70 0 4 → X 80 0 j ≠ x) : X 70 0 4 ≤ 29 := by
  have h1 : 0 ≤ X 70 0 4 ∧ X 70 0 4 ≤ 30 := hR 70 0 4
  have h2 : 0 ≤ X 40 0 13 ∧ X 40 0 13 ≤ 30 := hR 40 0 13
  have h3 := pgn2 ((X 70 0 4).toNat + 1) (fun r => if (r : Int) < X 70 0 4 then X 80 0 r else x) 30 (fun r hr => by
    split
    · rename_i hc
      have h4 : 0 ≤ X 80 0 r ∧ X 80 0 r ≤ 29 := hR 80 0 r
      omega
    · omega) (fun r q hr hq e => by
    split at e <;> split at e
    · have := h.2 r q (by omega) (by omega) (by omega) (by omega) e
      omega
    · exact absurd e (hne r (by omega) (by omega))
    · exact absurd e.symm (hne q (by omega) (by omega))
    · omega)
  omega
theorem ordOK.push {X X1 X2 : Nat → Int → Int → Int} {x : Int} (h : ordOK X) (hx : x < X 40 0 13) (hne : ∀ j, 0 ≤ j → j < X 70 0 4 → X 80 0 j ≠ x) (e1 : X1 = u3 X 80 0 (X 70 0 4) x) (e2 : X2 = u3 X1 70 0 4 (X 70 0 4 + 1)) : ordOK X2 := by
  have k1 : X2 70 0 4 = X 70 0 4 + 1 := by rw [e2]; exact u3_s _ _ _ _ _
  have k2 : X2 40 0 13 = X 40 0 13 := by rw [e2, e1, u3_k _ _ _ _ (by decide), u3_k _ _ _ _ (by decide)]
  have k3 : X2 80 0 (X 70 0 4) = x := by rw [e2, e1, u3_k _ _ _ _ (by decide)]; exact u3_s _ _ _ _ _
  have k4 : ∀ r, r ≠ X 70 0 4 → X2 80 0 r = X 80 0 r := fun r hr => by rw [e2, e1, u3_k _ _ _ _ (by decide), u3_j _ _ _ _ hr]
  refine ⟨fun r h0 h1 => ?_, fun r q h0 h1 h2 h3 e => ?_⟩
  · rw [k2]
    by_cases hr : r = X 70 0 4
    · rw [hr, k3]; exact hx
    · rw [k4 r hr]; exact h.1 r h0 (by omega)
  · by_cases hr : r = X 70 0 4 <;> by_cases hq : q = X 70 0 4
    · omega
    · rw [hr, k3, k4 q hq] at e; exact absurd e.symm (hne q h2 (by omega))
    · rw [hq, k3, k4 r hr] at e; exact absurd e (hne r h0 (by omega))
    · rw [k4 r hr, k4 q hq] at e; exact h.2 r q h0 (by omega) h2 (by omega) e
theorem ordOK.of {M : List Nat} {X X1 : Nat → Int → Int → Int} (h : ordOK X) (hF : Frm M X X1) (hd : ∀ c ∈ [7000, 8000, 4014], c ∉ M) : ordOK X1 := by
  have k1 : X1 70 0 4 = X 70 0 4 := hF 70 0 4 (hd 7000 (by decide))
  have k2 : X1 40 0 13 = X 40 0 13 := hF 40 0 13 (hd 4014 (by decide))
  have k3 : ∀ r, X1 80 0 r = X 80 0 r := fun r => hF 80 0 r (hd 8000 (by decide))
  unfold ordOK at *
  simp only [k1, k2, k3]
  exact h
theorem ordOK.nil {X : Nat → Int → Int → Int} (h : X 70 0 4 = 0) : ordOK X := ⟨fun r h0 h1 => by omega, fun r q h0 h1 => by omega⟩
/-! what the fifth save holds up to record r, field k -/
def ty4 (X : Nat → Int → Int → Int) (r k : Int) : Prop := (X 74 0 (5 * (120 + r) + k) = 1 → -1 ≤ X 75 0 (5 * (120 + r) + k) ∧ X 75 0 (5 * (120 + r) + k) ≤ 15) ∧ (X 74 0 (5 * (120 + r) + k) = 2 → -1 ≤ X 75 0 (5 * (120 + r) + k) ∧ X 75 0 (5 * (120 + r) + k) < X 70 0 4) ∧ (3 ≤ X 74 0 (5 * (120 + r) + k) → -1 ≤ X 75 0 (5 * (120 + r) + k) ∧ X 75 0 (5 * (120 + r) + k) ≤ 149)
def cOK (X : Nat → Int → Int → Int) (r k : Int) : Prop := (∀ r', 0 ≤ r' → r' < r → X 71 0 (120 + r') < X 40 0 2 ∧ ∀ k', 0 ≤ k' → k' < X 72 0 (120 + r') → ty4 X r' k') ∧ ∀ k', 0 ≤ k' → k' < k → ty4 X r k'
/-! the four saves stay: what is written is of the fifth -/
def S4 (X X1 : Nat → Int → Int → Int) : Prop := (∀ j, j ≤ 3 → X1 70 0 j = X 70 0 j) ∧ (∀ j, j < 120 → X1 71 0 j = X 71 0 j ∧ X1 72 0 j = X 72 0 j) ∧ (∀ j, j < 600 → X1 74 0 j = X 74 0 j ∧ X1 75 0 j = X 75 0 j)
theorem S4.rf {X : Nat → Int → Int → Int} : S4 X X := ⟨fun _ _ => rfl, fun _ _ => ⟨rfl, rfl⟩, fun _ _ => ⟨rfl, rfl⟩⟩
theorem S4.tr {X X1 X2 : Nat → Int → Int → Int} (h : S4 X X1) (g : S4 X1 X2) : S4 X X2 := ⟨fun j q => (g.1 j q).trans (h.1 j q), fun j q => ⟨(g.2.1 j q).1.trans (h.2.1 j q).1, (g.2.1 j q).2.trans (h.2.1 j q).2⟩, fun j q => ⟨(g.2.2 j q).1.trans (h.2.2 j q).1, (g.2.2 j q).2.trans (h.2.2 j q).2⟩⟩
theorem u3_at {X : Nat → Int → Int → Int} {k k1 : Nat} {i j j1 v : Int} (h : ¬ (k1 = k ∧ j1 = j)) : u3 X k i j v k1 0 j1 = X k1 0 j1 := by
  simp only [u3]
  rw [if_neg (fun q => h ⟨q.1, q.2.2⟩)]
theorem S4.set {X X1 : Nat → Int → Int → Int} {k : Nat} {i z v : Int} (h : S4 X X1) (hk : (k = 70 → 4 ≤ z) ∧ (k = 71 → 120 ≤ z) ∧ (k = 72 → 120 ≤ z) ∧ (k = 74 → 600 ≤ z) ∧ (k = 75 → 600 ≤ z)) : S4 X (u3 X1 k i z v) :=
  ⟨fun j q => (u3_at (by omega)).trans (h.1 j q), fun j q => ⟨(u3_at (by omega)).trans (h.2.1 j q).1, (u3_at (by omega)).trans (h.2.1 j q).2⟩, fun j q => ⟨(u3_at (by omega)).trans (h.2.2 j q).1, (u3_at (by omega)).trans (h.2.2 j q).2⟩⟩
theorem S4.frm {M : List Nat} {X X1 : Nat → Int → Int → Int} (hF : Frm M X X1) (hd : ∀ c ∈ [7000, 7100, 7200, 7400, 7500], c ∉ M) : S4 X X1 := ⟨fun j _ => hF 70 0 j (hd 7000 (by decide)), fun j _ => ⟨hF 71 0 j (hd 7100 (by decide)), hF 72 0 j (hd 7200 (by decide))⟩, fun j _ => ⟨hF 74 0 j (hd 7400 (by decide)), hF 75 0 j (hd 7500 (by decide))⟩⟩
theorem minv_s4 {M : List Nat} {X X1 : Nat → Int → Int → Int} (h : MInv X) (hR1 : Rng X1) (hF : Frm M X X1) (h4 : S4 X X1) (hd : ∀ c ∈ mDep, c ∉ [7000, 7100, 7200, 7400, 7500] → c ∉ M) : MInv X1 := by
  have efMany : ∀ j, X1 44 0 j = X 44 0 j := fun j => hF 44 0 j (hd 4400 (by decide) (by decide))
  have efLane : ∀ j, X1 46 0 j = X 46 0 j := fun j => hF 46 0 j (hd 4600 (by decide) (by decide))
  have efFirst : ∀ j, X1 47 0 j = X 47 0 j := fun j => hF 47 0 j (hd 4700 (by decide) (by decide))
  have exType : ∀ j, X1 55 0 j = X 55 0 j := fun j => hF 55 0 j (hd 5500 (by decide) (by decide))
  have exVal : ∀ j, X1 56 0 j = X 56 0 j := fun j => hF 56 0 j (hd 5600 (by decide) (by decide))
  have emarkAt : ∀ j, X1 62 0 j = X 62 0 j := fun j => hF 62 0 j (hd 6200 (by decide) (by decide))
  have enoteThing : ∀ j, X1 64 0 j = X 64 0 j := fun j => hF 64 0 j (hd 6400 (by decide) (by decide))
  have enoteField : ∀ j, X1 65 0 j = X 65 0 j := fun j => hF 65 0 j (hd 6500 (by decide) (by decide))
  have enoteRow : ∀ j, X1 66 0 j = X 66 0 j := fun j => hF 66 0 j (hd 6600 (by decide) (by decide))
  have enoteItem : ∀ j, X1 67 0 j = X 67 0 j := fun j => hF 67 0 j (hd 6700 (by decide) (by decide))
  have enoteWas : ∀ j, X1 68 0 j = X 68 0 j := fun j => hF 68 0 j (hd 6800 (by decide) (by decide))
  have etypes : X1 40 0 2 = X 40 0 2 := hF 40 0 2 (hd 4003 (by decide) (by decide))
  have ethings : X1 40 0 13 = X 40 0 13 := hF 40 0 13 (hd 4014 (by decide) (by decide))
  have emarks : X1 40 0 20 = X 40 0 20 := hF 40 0 20 (hd 4021 (by decide) (by decide))
  have enotes : X1 40 0 22 = X 40 0 22 := hF 40 0 22 (hd 4023 (by decide) (by decide))
  obtain ⟨hA, hB, hC, hD, hE, hG⟩ := h
  refine ⟨?_, ?_, ?_, ?_, ?_, ?_⟩
  · unfold mA at *; simp only [efMany, efLane, efFirst, exType, exVal, emarkAt, enoteThing, enoteField, enoteRow, enoteItem, enoteWas, etypes, ethings, emarks, enotes]; exact hA
  · unfold mB at *; simp only [efMany, efLane, efFirst, exType, exVal, emarkAt, enoteThing, enoteField, enoteRow, enoteItem, enoteWas, etypes, ethings, emarks, enotes]; exact hB
  · intro s0 r h1 h2 h3 h5
    rw [h4.1 s0 (by omega)] at h5
    have hz : X 70 0 s0 ≤ 30 := by have := hR1 70 0 s0; rw [h4.1 s0 (by omega)] at this; exact this.2
    obtain ⟨c1, c2⟩ := hC s0 r h1 h2 h3 h5
    refine ⟨by rw [(h4.2.1 _ (by omega)).1, etypes]; exact c1, fun k k0 k1 => ?_⟩
    have hf : X1 72 0 (30 * s0 + r) ≤ 5 := (hR1 72 0 (30 * s0 + r)).2
    rw [(h4.2.1 _ (by omega)).2] at k1 hf
    rw [(h4.2.2 _ (by omega)).1, (h4.2.2 _ (by omega)).2, h4.1 s0 (by omega)]
    exact c2 k k0 k1
  · unfold mD at *; simp only [efMany, efLane, efFirst, exType, exVal, emarkAt, enoteThing, enoteField, enoteRow, enoteItem, enoteWas, etypes, ethings, emarks, enotes]; exact hD
  · unfold mE at *; simp only [efMany, efLane, efFirst, exType, exVal, emarkAt, enoteThing, enoteField, enoteRow, enoteItem, enoteWas, etypes, ethings, emarks, enotes]; exact hE
  · unfold mF at *; simp only [efMany, efLane, efFirst, exType, exVal, emarkAt, enoteThing, enoteField, enoteRow, enoteItem, enoteWas, etypes, ethings, emarks, enotes]; exact hG
/-- a value of a field's lane is put there -/
theorem minv_xval {X : Nat → Int → Int → Int} {x k v : Int} (h : MInv X) (hR : Rng X) (h0 : 0 ≤ x) (h1 : x < X 40 0 13) (k0 : 0 ≤ k) (k1 : k < X 44 0 (X 55 0 x)) (hv : tyv (X 40 0 13) (X 46 0 (5 * X 55 0 x + k)) v) : MInv (u3 X 56 0 (5 * x + k) v) := by
  obtain ⟨hA, hB, hC, hD, hE, hG⟩ := h
  have e : ∀ (k' : Nat) (i j : Int), k' ≠ 56 → u3 X 56 0 (5 * x + k) v k' i j = X k' i j := fun k' i j hk => by rw [u3_k _ _ _ _ hk]
  have hf : ∀ t, X 44 0 t ≤ 5 := fun t => (hR 44 0 t).2
  refine ⟨?_, ?_, ?_, ?_, ?_, ?_⟩
  · intro x' k' h0' h1' k0' k1'
    simp only [e 40 _ _ (by decide), e 44 _ _ (by decide), e 46 _ _ (by decide), e 55 _ _ (by decide)] at *
    have := hf (X 55 0 x); have := hf (X 55 0 x')
    by_cases hx : x' = x ∧ k' = k
    · obtain ⟨rfl, rfl⟩ := hx
      rw [u3_s]; exact hv
    · rw [u3_j _ _ _ _ (by omega)]; exact hA x' k' h0' h1' k0' k1'
  · unfold mB at *; simp only [e 44 _ _ (by decide), e 46 _ _ (by decide), e 47 _ _ (by decide)]; exact hB
  · unfold mC at *; simp only [e 70 _ _ (by decide), e 71 _ _ (by decide), e 72 _ _ (by decide), e 74 _ _ (by decide), e 75 _ _ (by decide), e 40 _ _ (by decide)]; exact hC
  · unfold mD at *; simp only [e 40 _ _ (by decide), e 44 _ _ (by decide), e 46 _ _ (by decide), e 55 _ _ (by decide), e 64 _ _ (by decide), e 65 _ _ (by decide), e 66 _ _ (by decide), e 67 _ _ (by decide), e 68 _ _ (by decide)]; exact hD
  · unfold mE at *; simp only [e 40 _ _ (by decide), e 62 _ _ (by decide)]; exact hE
  · unfold mF at *; simp only [e 40 _ _ (by decide), e 55 _ _ (by decide)]; exact hG
/-! whom the queue has: each once, with a mate -/
def qOK (X : Nat → Int → Int → Int) : Prop := (∀ q, 0 ≤ q → q < X 40 0 50 → 0 ≤ X 86 0 (X 90 0 q) ∧ X 86 0 (X 90 0 q) < X 40 0 13 ∧ X 90 0 q < X 40 0 13) ∧ ∀ r q, 0 ≤ r → r < X 40 0 50 → 0 ≤ q → q < X 40 0 50 → X 90 0 r = X 90 0 q → r = q
theorem qOK.nil {X : Nat → Int → Int → Int} (h : X 40 0 50 = 0) : qOK X := ⟨fun r h0 h1 => by omega, fun r q h0 h1 => by omega⟩
theorem qOK.room {X : Nat → Int → Int → Int} {x : Int} (h : qOK X) (hR : Rng X) (h0 : 0 ≤ x ∧ x ≤ 29) (hx : X 86 0 x < 0) : X 40 0 50 ≤ 29 := by
  have h1 : 0 ≤ X 40 0 50 ∧ X 40 0 50 ≤ 30 := hR 40 0 50
  have hne : ∀ j, 0 ≤ j → j < X 40 0 50 → X 90 0 j ≠ x := fun j a b e => by have := h.1 j a b; rw [e] at this; omega
  have h3 := pgn2 ((X 40 0 50).toNat + 1) (fun r => if (r : Int) < X 40 0 50 then X 90 0 r else x) 30 (fun r hr => by
    split
    · have h4 : 0 ≤ X 90 0 r ∧ X 90 0 r ≤ 29 := hR 90 0 r
      omega
    · omega) (fun r q hr hq e => by
    split at e <;> split at e
    · have := h.2 r q (by omega) (by omega) (by omega) (by omega) e
      omega
    · exact absurd e (hne r (by omega) (by omega))
    · exact absurd e.symm (hne q (by omega) (by omega))
    · omega)
  omega
theorem qOK.push {X X1 X2 X3 X4 : Nat → Int → Int → Int} {x y : Int} (h : qOK X) (hy : 0 ≤ y ∧ y < X 40 0 13) (hxt : x < X 40 0 13) (hx : X 86 0 x < 0) (e1 : X1 = u3 X 86 0 x y) (e2 : X2 = u3 X1 87 0 y x) (e3 : X3 = u3 X2 90 0 (X 40 0 50) x) (e4 : X4 = u3 X3 40 0 50 (X 40 0 50 + 1)) : qOK X4 := by
  have hne : ∀ j, 0 ≤ j → j < X 40 0 50 → X 90 0 j ≠ x := fun j a b e => by have := h.1 j a b; rw [e] at this; omega
  have k1 : X4 40 0 50 = X 40 0 50 + 1 := by rw [e4]; exact u3_s _ _ _ _ _
  have k0 : X4 40 0 13 = X 40 0 13 := by rw [e4, e3, e2, e1, u3_j _ _ _ _ (by decide), u3_k _ _ _ _ (by decide), u3_k _ _ _ _ (by decide), u3_k _ _ _ _ (by decide)]
  have k3 : X4 90 0 (X 40 0 50) = x := by rw [e4, e3, u3_k _ _ _ _ (by decide)]; exact u3_s _ _ _ _ _
  have k4 : ∀ r, r ≠ X 40 0 50 → X4 90 0 r = X 90 0 r := fun r hr => by rw [e4, e3, e2, e1, u3_k _ _ _ _ (by decide), u3_j _ _ _ _ hr, u3_k _ _ _ _ (by decide), u3_k _ _ _ _ (by decide)]
  have k5 : X4 86 0 x = y := by rw [e4, e3, e2, e1, u3_k _ _ _ _ (by decide), u3_k _ _ _ _ (by decide), u3_k _ _ _ _ (by decide)]; exact u3_s _ _ _ _ _
  have k6 : ∀ r, r ≠ x → X4 86 0 r = X 86 0 r := fun r hr => by rw [e4, e3, e2, e1, u3_k _ _ _ _ (by decide), u3_k _ _ _ _ (by decide), u3_k _ _ _ _ (by decide), u3_j _ _ _ _ hr]
  refine ⟨fun r h0 h1 => ?_, fun r q h0 h1 h2 h3 e => ?_⟩
  · by_cases hr : r = X 40 0 50
    · rw [hr, k3, k5, k0]; exact ⟨hy.1, hy.2, hxt⟩
    · rw [k4 r hr, k6 _ (hne r h0 (by omega)), k0]; exact h.1 r h0 (by omega)
  · by_cases hr : r = X 40 0 50 <;> by_cases hq : q = X 40 0 50
    · omega
    · rw [hr, k3, k4 q hq] at e; exact absurd e.symm (hne q h2 (by omega))
    · rw [hq, k3, k4 r hr] at e; exact absurd e (hne r h0 (by omega))
    · rw [k4 r hr, k4 q hq] at e; exact h.2 r q h0 (by omega) h2 (by omega) e
theorem qOK.of {M : List Nat} {X X1 : Nat → Int → Int → Int} (h : qOK X) (hF : Frm M X X1) (hd : ∀ c ∈ [8600, 9000, 4051, 4014], c ∉ M) : qOK X1 := by
  have k0 : X1 40 0 13 = X 40 0 13 := hF 40 0 13 (hd 4014 (by decide))
  have k1 : X1 40 0 50 = X 40 0 50 := hF 40 0 50 (hd 4051 (by decide))
  have k2 : ∀ r, X1 86 0 r = X 86 0 r := fun r => hF 86 0 r (hd 8600 (by decide))
  have k3 : ∀ r, X1 90 0 r = X 90 0 r := fun r => hF 90 0 r (hd 9000 (by decide))
  unfold qOK at *
  simp only [k0, k1, k2, k3]
  exact h
/-! how many rows are taken -/
def Ucov (X : Nat → Int → Int → Int) (c : Int) : Prop := ∃ Lk : List Int, (Lk.length : Int) ≤ c ∧ ∀ j, 0 ≤ j → j < 400 → X 60 0 j = 1 → j ∈ Lk
theorem Ucov.mono {X : Nat → Int → Int → Int} {c c' : Int} (h : Ucov X c) (hc : c ≤ c') : Ucov X c' := by
  obtain ⟨Lk, h1, h2⟩ := h
  exact ⟨Lk, by omega, h2⟩
theorem Ucov.set {X : Nat → Int → Int → Int} {c z v : Int} (h : Ucov X c) : Ucov (u3 X 60 0 z v) (c + 1) := by
  obtain ⟨Lk, h1, h2⟩ := h
  refine ⟨z :: Lk, by simp only [List.length_cons]; omega, fun j j0 j1 e => ?_⟩
  by_cases hj : j = z
  · rw [hj]; exact List.mem_cons_self
  · rw [u3_j _ _ _ _ hj] at e
    exact List.mem_cons_of_mem _ (h2 j j0 j1 e)
theorem pgn : ∀ (r : Nat) (Lk : List Int), (∀ j : Nat, j < r → ((j : Nat) : Int) ∈ Lk) → r ≤ Lk.length := by
  intro r
  induction r with
  | zero => intro Lk _; exact Nat.zero_le _
  | succ r ih =>
    intro Lk h
    have hm := h r (Nat.lt_succ_self r)
    have h2 := ih (Lk.erase (r : Int)) (fun j hj => (List.mem_erase_of_ne (by omega)).mpr (h j (by omega)))
    have h3 := List.length_erase_of_mem hm
    have h4 : 0 < Lk.length := List.length_pos_of_mem hm
    omega
theorem Ucov.fin {X : Nat → Int → Int → Int} {c r : Int} (h : Ucov X c) (hr : 0 ≤ r ∧ r ≤ 400) (hu : ∀ j, 0 ≤ j → j < r → X 60 0 j = 1) : r ≤ c := by
  obtain ⟨Lk, h1, h2⟩ := h
  have := pgn r.toNat Lk (fun j hj => h2 j (by omega) (by omega) (hu j (by omega) (by omega)))
  omega
end
section
/-! cells that are being made: beside the world, in a list of their own -/
def wx (D : va_G) (tc : Nat → ClassId) (base : Nat) (u : St) (E : va_W) (H : Heap) : Prop :=
  (∃ RL : List (Nat × Int), (∀ k i, (k, i) ∈ RL ↔ (0 ≤ i ∧ i < u.2.1 k)) ∧ va_P D vwCl (wlE tc u.1 u.2.2.1 u.2.2.2.1 u.2.2.2.2 RL ++ E) H ∧ va_D (fun q => base ≤ q) (wlE tc u.1 u.2.2.1 u.2.2.2.1 u.2.2.2.2 RL ++ E)) ∧ RefOK u.2.1 u.2.2.2.1 ∧ base ≤ H.size
theorem va_D_nd {A : Nat → Prop} {ws : va_W} : va_D A ws ↔ (ws.map Prod.fst).Nodup ∧ ∀ q ∈ ws, A q.1 := by
  constructor
  · intro h
    refine ⟨?_, fun q hq => ?_⟩
    · refine List.pairwise_map.mpr (List.pairwise_iff_getElem.mpr (fun i j hi hj hij e => ?_))
      have := h.1 i j _ _ (List.getElem?_eq_getElem hi) (List.getElem?_eq_getElem hj) e
      omega
    · obtain ⟨i, hi⟩ := List.getElem?_of_mem hq
      exact h.2 i q hi
  · intro h
    have hp := List.pairwise_iff_getElem.mp (List.pairwise_map.mp h.1)
    refine ⟨fun i j p q hi hj e => ?_, fun k q hk => h.2 q (List.mem_of_getElem? hk)⟩
    obtain ⟨li, ei⟩ := List.getElem?_eq_some_iff.mp hi
    obtain ⟨lj, ej⟩ := List.getElem?_eq_some_iff.mp hj
    rcases Nat.lt_trichotomy i j with hlt | he | hgt
    · exact absurd (by rw [ei, ej]; exact e) (hp i j li lj hlt)
    · exact he
    · exact absurd (by rw [ei, ej]; exact e.symm) (hp j i lj li hgt)
theorem va_D_perm {A : Nat → Prop} {w1 w2 : va_W} (hp : w1.Perm w2) (h : va_D A w1) : va_D A w2 := by
  rw [va_D_nd] at h ⊢
  exact ⟨(hp.map Prod.fst).nodup_iff.mp h.1, fun q hq => h.2 q (hp.mem_iff.mpr hq)⟩
theorem va_P_mem {D : va_G} {cl : List vw_C} {w1 w2 : va_W} {H : Heap} (hs : ∀ q ∈ w2, q ∈ w1) (h : va_P D cl w1 H) : va_P D cl w2 H := fun k q hk => by
  obtain ⟨i, hi⟩ := List.getElem?_of_mem (hs q (List.mem_of_getElem? hk))
  exact h i q hi
section WX
variable {D : va_G} {tc : Nat → ClassId} {base : Nat} {u : St} {E F : va_W} {H : Heap} {ad ad' : Nat → Int → Nat} {cnt cnt' : Nat → Int} {X X' : Nat → Int → Int → Int} {Y Y' : Nat → Int → Int → Option Int} {ln ln' : Int → Int}
theorem wx_of (h : wd D tc base u H) : wx D tc base u [] H := by
  obtain ⟨⟨RL, h1, h2, h3⟩, h4, h5⟩ := h
  exact ⟨⟨RL, h1, by rw [List.append_nil]; exact h2, by rw [List.append_nil]; exact h3⟩, h4, h5⟩
theorem wx_wd (h : wx D tc base u E H) : wd D tc base u H := by
  obtain ⟨⟨RL, h1, h2, h3⟩, h4, h5⟩ := h
  refine ⟨⟨RL, h1, va_P_mem (fun q hq => List.mem_append_left _ hq) h2, ?_⟩, h4, h5⟩
  rw [va_D_nd] at h3 ⊢
  rw [List.map_append] at h3
  exact ⟨(List.nodup_append.mp h3.1).1, fun q hq => h3.2 q (List.mem_append_left _ hq)⟩
/-- what is owned is there where its owner is -/
def ownL : List (Nat × Nat) := (List.range 101).flatMap fun k => ((lay k).2.1.filter fun c => c.1 == 3).map fun c => (k, c.2)
def Own (cnt : Nat → Int) : Prop := (∀ p ∈ ownL, cnt p.1 ≤ cnt p.2) ∧ ∀ k, (lay k).1 = 0 → (lay k).2.2.1.1 = 9 → cnt k ≤ 0
theorem lay_big {k : Nat} (h : 101 ≤ k) : lay k = (0, [], (9, 0, 0), 0) := by
  have hl : layL.length = 101 := by decide +kernel
  simp [lay, List.getD, List.getElem?_eq_none (by omega : layL.length ≤ k)]
theorem lay_arr (k : Nat) (h : (lay k).1 = 0) : (lay k).2.2.1.1 = 0 ∨ (lay k).2.2.1.1 = 1 ∨ (lay k).2.2.1.1 = 4 ∨ (lay k).2.2.1.1 = 9 := by
  by_cases hk : k < 101
  · have : ∀ k ∈ List.range 101, (lay k).1 = 0 → (lay k).2.2.1.1 = 0 ∨ (lay k).2.2.1.1 = 1 ∨ (lay k).2.2.1.1 = 4 ∨ (lay k).2.2.1.1 = 9 := by decide +kernel
    exact this k (List.mem_range.mpr hk) h
  · rw [lay_big (by omega)]
    exact Or.inr (Or.inr (Or.inr rfl))
theorem lay_obj (k j : Nat) (h : j < (lay k).2.1.length) : (slo k j).1 = 0 ∨ (slo k j).1 = 1 ∨ (slo k j).1 = 3 ∨ (slo k j).1 = 4 := by
  by_cases hk : k < 101
  · have h1 : ∀ k ∈ List.range 101, ∀ c ∈ (lay k).2.1, c.1 = 0 ∨ c.1 = 1 ∨ c.1 = 3 ∨ c.1 = 4 := by decide +kernel
    unfold slo
    rw [List.getD_eq_getElem?_getD, List.getElem?_eq_getElem h, Option.getD_some]
    exact h1 k (List.mem_range.mpr hk) _ (List.getElem_mem h)
  · rw [lay_big (by omega)] at h
    cases h
theorem own_mem {k j t : Nat} (h : slo k j = (3, t)) : (k, t) ∈ ownL := by
  by_cases hk : k < 101
  · refine List.mem_flatMap.mpr ⟨k, List.mem_range.mpr hk, List.mem_map.mpr ⟨(3, t), List.mem_filter.mpr ⟨?_, rfl⟩, rfl⟩⟩
    unfold slo at h
    by_cases hj : j < (lay k).2.1.length
    · rw [List.getD_eq_getElem?_getD, List.getElem?_eq_getElem hj, Option.getD_some] at h
      rw [← h]
      exact List.getElem_mem hj
    · rw [List.getD_eq_getElem?_getD, List.getElem?_eq_none (by omega)] at h
      cases h
  · unfold slo at h
    rw [lay_big (by omega)] at h
    cases h
def ownChk (p : Nat × Nat) : Bool := (p.1 == 26 && p.2 == 27) || (p.1 == 19 && [20, 21, 22, 23, 24].contains p.2) || ((fxL.lookup p.1).isSome && fxL.lookup p.1 == fxL.lookup p.2)
theorem own_chk : ∀ p ∈ ownL, ownChk p = true := by decide +kernel
theorem lookup_mem {α : Type} {L : List (Nat × α)} {k : Nat} {v : α} (h : L.lookup k = some v) : (k, v) ∈ L := by
  induction L with
  | nil => cases h
  | cons a t ih =>
    obtain ⟨a1, a2⟩ := a
    rw [List.lookup_cons] at h
    by_cases hk : (k == a1) = true
    · rw [hk] at h
      have : k = a1 := by simpa using hk
      subst this
      cases h
      exact List.mem_cons_self
    · have : (k == a1) = false := by simpa using hk
      rw [this] at h
      exact List.mem_cons_of_mem _ (ih h)
theorem Fx.own (h : Fx cnt) : ∀ p ∈ ownL, cnt p.1 ≤ cnt p.2 := by
  intro p hp
  have hc := own_chk p hp
  unfold ownChk at hc
  simp only [Bool.or_eq_true, Bool.and_eq_true, beq_iff_eq] at hc
  rcases hc with (⟨e1, e2⟩ | ⟨e1, e2⟩) | ⟨e1, e2⟩
  · rw [e1, e2, h.2.2]; omega
  · rw [e1, h.2.1 p.2 (by simpa using e2)]; omega
  · obtain ⟨v, hv⟩ := Option.isSome_iff_exists.mp e1
    rw [h.1 _ (lookup_mem hv), h.1 _ (lookup_mem (e2 ▸ hv))]
    omega
theorem opt_map_eq {o : Option Int} {f g : Int → Nat} (h : ∀ r, o = some r → f r = g r) : o.map f = o.map g := by
  cases o with
  | none => rfl
  | some r => simp [h r rfl]
theorem ceE_ext {k : Nat} {i : Int} (h0 : 0 ≤ i) (h1 : i < cnt k) (hAd : ∀ k i, 0 ≤ i → i < cnt k → ad' k i = ad k i) (hX : X' k i = X k i) (hY : Y' k i = Y k i) (hl : k = 27 → ln' i = ln i) (ho : Own cnt) (hrf : RefOK cnt Y) : ceE tc ad' X' Y' ln' k i = ceE tc ad X Y ln k i := by
  have hlen : lenE ln' k i = lenE ln k i := by
    unfold lenE
    split
    · exact hl (by assumption)
    · rfl
  unfold ceE
  rw [hX, hY, hlen]
  split
  · rename_i hz
    split
    · rfl
    · split
      · rfl
      · rename_i h2 h3
        by_cases h4 : (lay k).2.2.1.1 = 4
        · congr 7
          funext q
          refine opt_map_eq (fun r hr => ?_)
          obtain ⟨g0, g1⟩ := hrf k i q (lay k).2.2.1.2.2 r h0 h1 (Or.inl ⟨hz, h4, rfl⟩) hr
          exact hAd _ _ g0 g1
        · exfalso
          have h5 := lay_arr k hz
          rcases h5 with h5 | h5 | h5 | h5
          · exact h2 h5
          · exact h3 h5
          · exact h4 h5
          · have := ho.2 k hz h5
            omega
  · rename_i hz
    congr 2
    refine List.map_congr_left (fun j hj => ?_)
    unfold slV
    rw [hX, hY]
    split
    · rfl
    · split
      · rfl
      · split
        · rename_i h3
          have hm := own_mem (k := k) (j := j) (t := (slo k j).2) (by rw [← h3])
          have h4 : cnt k ≤ cnt (slo k j).2 := ho.1 _ hm
          rw [hAd _ _ h0 (by omega)]
        · rename_i h2 h3 h4
          by_cases h5 : (slo k j).1 = 4
          · congr 1
            refine opt_map_eq (fun r hr => ?_)
            obtain ⟨g0, g1⟩ := hrf k i j (slo k j).2 r h0 h1 (Or.inr ⟨hz, by rw [← h5]⟩) hr
            exact hAd _ _ g0 g1
          · exfalso
            rcases lay_obj k j (List.mem_range.mp hj) with h6 | h6 | h6 | h6
            · exact h2 h6
            · exact h3 h6
            · exact h4 h6
            · exact h5 h6
theorem adopt {NL : List (Nat × Int)} (hw : wx D tc base (ad, cnt, X, Y, ln) (E ++ F) H) (hF : F = wlE tc ad' X' Y' ln' NL)
    (hold : ∀ k i, 0 ≤ i → i < cnt k → ad' k i = ad k i ∧ X' k i = X k i ∧ Y' k i = Y k i ∧ (k = 27 → ln' i = ln i)) (ho : Own cnt)
    (hcnt : ∀ k i, (0 ≤ i ∧ i < cnt' k) ↔ ((0 ≤ i ∧ i < cnt k) ∨ (k, i) ∈ NL)) (hrf : RefOK cnt' Y') : wx D tc base (ad', cnt', X', Y', ln') E H := by
  obtain ⟨⟨RL, h1, h2, h3⟩, h4, h5⟩ := hw
  dsimp only at h1 h2 h3 h4 h5
  have he : wlE tc ad X Y ln RL = wlE tc ad' X' Y' ln' RL := by
    unfold wlE
    refine List.map_congr_left (fun r hr => ?_)
    obtain ⟨k, i⟩ := r
    obtain ⟨g0, g1⟩ := (h1 k i).mp hr
    obtain ⟨a1, a2, a3, a4⟩ := hold k i g0 g1
    rw [ceE_ext (ad := ad) (X := X) (Y := Y) (ln := ln) g0 g1 (fun k i q0 q1 => (hold k i q0 q1).1) a2 a3 a4 ho h4, a1]
  have hp : (wlE tc ad X Y ln RL ++ (E ++ F)).Perm (wlE tc ad' X' Y' ln' (RL ++ NL) ++ E) := by
    rw [he, hF]
    unfold wlE
    rw [List.map_append, List.append_assoc]
    exact List.Perm.append_left _ List.perm_append_comm
  exact ⟨⟨RL ++ NL, fun k i => by rw [List.mem_append, h1 k i]; exact (hcnt k i).symm, va_P_mem (fun q hq => hp.mem_iff.mpr hq) h2, va_D_perm hp h3⟩, hrf, h5⟩
end WX
end
section
/-! rows: what is made -/
theorem va_RA_inj {U : State} {a b : ClassId} {ty : FieldType} (h1 : va_RA U a ty) (h2 : va_RA U b ty) : a = b := by
  cases ty with
  | object C =>
    obtain ⟨_, _, -, -, -, e1⟩ := h1
    obtain ⟨_, _, -, -, -, e2⟩ := h2
    exact Option.some.inj (e1.symm.trans e2)
  | _ => exact Option.some.inj (h1.symm.trans h2)
theorem jI_nn {z : Int} (h0 : 0 ≤ z) (h1 : z ≤ 2147483647) : ¬ jI z < 0 := by
  rw [jI_0, jI_lt (by omega) (by omega)]
  omega
theorem jI_tn {z : Int} (h0 : 0 ≤ z) (h1 : z ≤ 2147483647) : (jI z).toNatClampNeg = z.toNat := by
  have := jI_cl h0 h1
  omega
section NX
variable {p : Program} {l : Launch} {e : Env} {R : Room} {s : State} {m : MethodId} {args : Array Value} {below : List Frame} {meth : Method} {c : Code} {H H0 : Heap} {locs : List Loc} {cells slots : Nat} {Q : State → Prop}
variable {cc : ByteArray} {pc : Nat} {ls : Array Slot} {rest : List Value} {D : va_G} {tc : Nat → ClassId} {base : Nat} {u : St} {E : va_W}
variable {own C : String} {T : u_T} {N ci index : Nat} {Ts : List Cond} {k t : Nat} {z : Int}
theorem nx_new (hx : p.tables.exec = Jvm.exec) (hb : c.code = cc) (F : fctx s m args own Ts D tc C T N ci) {ty0 : Nat → FieldType} (G : tctx T N ty0) (hcl : (Cond.classLink own index C).before args s = true) (hinst : (Cond.instantiable C N).before args s = true) (hini : (Cond.initialized C).before args s = true)
    (hw : wx D tc base u E H) (hS : va_S (frA base) H0 H locs) (hbs : base ≤ H0.size) {fs : List Value} (hfs : ∀ j, j < N → defaultValue (ty0 j) = vp_V fs j) (hcells : cells + 1 ≤ R.cells) (hslots : slots + N ≤ R.slots) (hdg : decode cc pc = .ok (.new index, 3))
    (kk : ∀ (q : Nat) (H1 : Heap), wx D tc base u (E ++ [(q, .inr (ci, fs))]) H1 → va_S (frA base) H0 H1 locs → W p l e R s m args below meth c H1 locs (cells + 1) (slots + N) Q (F0 m (pc + 3) ls (.ref q :: rest))) : W p l e R s m args below meth c H locs cells slots Q (F0 m pc ls rest) := by
  obtain ⟨hts, hin, hown, hK, hc⟩ := F
  obtain ⟨⟨RL, h1, hP, hD⟩, hrf, hz⟩ := hw
  refine va_new hx hb hts hin ty0 G.1 hown hcl hinst hini hK hP hD hS (fun q h => Nat.le_trans hbs h) hc hfs hcells hslots hdg (fun q H1 hP1 hD1 hS1 => kk q H1 ⟨⟨RL, h1, ?_, ?_⟩, hrf, Nat.le_trans hbs hS1.1⟩ hS1)
  · rw [← List.append_assoc]; exact hP1
  · rw [← List.append_assoc]; exact hD1
theorem nx_newa (hx : p.tables.exec = Jvm.exec) (hb : c.code = cc) {atype : ArrayType} (harr : (Cond.arrayClass (newarray.typeOf atype)).before args s = true) {ty : FieldType} (hty : newarray.typeOf atype = ty) (hK : va_K D vwCl (tysL tc) s) (ht : (tysL tc)[t]? = some (tc t, ty))
    (hw : wx D tc base u E H) (hS : va_S (frA base) H0 H locs) (hbs : base ≤ H0.size) {a0 : vp_A} (ha : ∀ cA : ClassId, vp_cell cA a0 = arrV cA z.toNat (fun _ => defaultValue ty)) (h0 : 0 ≤ z) (h1 : z ≤ 10000) (hbytes : z.toNat * componentBytes ty ≤ 536870912) (hcells : cells + 1 ≤ R.cells) (hslots : slots + z.toNat ≤ R.slots) (hdg : decode cc pc = .ok (.newarray atype, 2))
    (kk : ∀ (q : Nat) (H1 : Heap), wx D tc base u (E ++ [(q, .inl (tc t, a0))]) H1 → va_S (frA base) H0 H1 locs → W p l e R s m args below meth c H1 locs (cells + 1) (slots + z.toNat) Q (F0 m (pc + 2) ls (.ref q :: rest))) : W p l e R s m args below meth c H locs cells slots Q (F0 m pc ls (.int (jI z) :: rest)) := by
  obtain ⟨⟨RL, h2, hP, hD⟩, hrf, hz⟩ := hw
  refine va_newa hx hb harr hty hK hP hD hS (fun q h => Nat.le_trans hbs h) ha (jI_nn h0 (by omega)) (jI_tn h0 (by omega)) hbytes hcells hslots hdg (fun q cA H1 hK1 hP1 hD1 hS1 => ?_)
  have hc : cA = tc t := va_RA_inj (hK1.2 (tysL tc).length (cA, ty) (by simp)).2 (hK.2 t _ ht).2
  subst hc
  refine kk q H1 ⟨⟨RL, h2, ?_, ?_⟩, hrf, Nat.le_trans hbs hS1.1⟩ hS1
  · rw [← List.append_assoc]; exact hP1
  · rw [← List.append_assoc]; exact hD1
theorem nx_newq (hx : p.tables.exec = Jvm.exec) (hb : c.code = cc) (hown : s.vm.findClass own = some m.cls) (hclink : (Cond.classLink own index C).before args s = true) (hover : va_AO C s) (hK : va_K D vwCl (tysL tc) s) (ht : (tysL tc)[t]? = some (tc t, .object C))
    (hw : wx D tc base u E H) (hS : va_S (frA base) H0 H locs) (hbs : base ≤ H0.size) (h0 : 0 ≤ z) (h1 : z ≤ 10000) (hcells : cells + 1 ≤ R.cells) (hslots : slots + z.toNat ≤ R.slots) (hdg : decode cc pc = .ok (.anewarray index, 3))
    (kk : ∀ (q : Nat) (H1 : Heap), wx D tc base u (E ++ [(q, .inl (tc t, z.toNat, .inr (.inr (.inr (.inr (fun _ => none))))))]) H1 → va_S (frA base) H0 H1 locs → W p l e R s m args below meth c H1 locs (cells + 1) (slots + z.toNat) Q (F0 m (pc + 3) ls (.ref q :: rest))) : W p l e R s m args below meth c H locs cells slots Q (F0 m pc ls (.int (jI z) :: rest)) := by
  obtain ⟨⟨RL, h2, hP, hD⟩, hrf, hz⟩ := hw
  refine va_newq hx hb hown hclink hover hK hP hD hS (fun q h => Nat.le_trans hbs h) (jI_nn h0 (by omega)) (jI_tn h0 (by omega)) (by omega) hcells hslots hdg (fun q cA H1 hK1 hP1 hD1 hS1 => ?_)
  have hc : cA = tc t := va_RA_inj (hK1.2 (tysL tc).length (cA, .object C) (by simp)).2 (hK.2 t _ ht).2
  subst hc
  refine kk q H1 ⟨⟨RL, h2, ?_, ?_⟩, hrf, Nat.le_trans hbs hS1.1⟩ hS1
  · rw [← List.append_assoc]; exact hP1
  · rw [← List.append_assoc]; exact hD1
theorem nx_set {a : Nat} {x y : va_E} {e0 : Nat} {W0 : va_W} (he : E[e0]? = some (a, x)) : (W0 ++ E)[W0.length + e0]? = some (a, x) ∧ (W0 ++ E).set (W0.length + e0) (a, y) = W0 ++ E.set e0 (a, y) := by
  constructor
  · rw [List.getElem?_append_right (by omega)]
    simpa using he
  · rw [List.set_append_right _ _ (by omega)]
    congr 2
    omega
/-- a final field, in the constructor -/
theorem nx_putF (hx : p.tables.exec = Jvm.exec) (hb : c.code = cc) (F : fctx s m args own Ts D tc C T N ci) {ty0 : Nat → FieldType} (G : tctx T N ty0) (hw : wx D tc base u E H) (hS : va_S (frA base) H0 H locs) (e0 : Nat) {a : Nat} {fs : List Value} (he : E[e0]? = some (a, .inr (ci, fs))) (k : Nat) (hk : k < N)
    (hlink : (Cond.fieldLink own index (T k).1 (T k).2.1 (T k).2.2.1).before args s = true) (hfin : (T k).2.2.2 = true) (hin2 : meth.name = "<init>") (hdecl : (T k).1 = own) {ty : FieldType} {v : Value} (hd : parseFieldDescriptor (T k).2.2.1 = some ty) (hn : narrow ty v = v) (hfit : fits ty v = true) (hl : k < fs.length) (hdg : decode cc pc = .ok (.putfield index, 3))
    (kk : ∀ (H1 : Heap) (locs1 : List Loc), wx D tc base u (E.set e0 (a, .inr (ci, fs.set k v))) H1 → va_S (frA base) H0 H1 locs1 → W p l e R s m args below meth c H1 locs1 cells slots Q (F0 m (pc + 3) ls rest)) : W p l e R s m args below meth c H locs cells slots Q (F0 m pc ls (v :: .ref a :: rest)) := by
  obtain ⟨hts, hin, hown, hK, hc⟩ := F
  obtain ⟨⟨RL, h1, hP, hD⟩, hrf, hz⟩ := hw
  have h2 := nx_set (W0 := wlE tc u.1 u.2.2.1 u.2.2.2.1 u.2.2.2.2 RL) (y := .inr (ci, fs.set k v)) he
  refine va_putF hx hb hts hin ty0 G.1 G.2 hown hK hP hD hS _ h2.1 hc k hk hlink (fun _ h => h) hfin hin2 hdecl hd hn hfit hl hdg (fun H1 locs1 hP1 hD1 hS1 => ?_)
  rw [h2.2] at hP1 hD1
  exact kk H1 locs1 ⟨⟨RL, h1, hP1, hD1⟩, hrf, by have := hS1.1; have h6 : base ≤ a := hD.2 _ _ h2.1; have h7 := (hP1 _ _ (nx_set (W0 := wlE tc u.1 u.2.2.1 u.2.2.2.1 u.2.2.2.2 RL) (E := E.set e0 (a, .inr (ci, fs.set k v))) (e0 := e0) (a := a) (x := .inr (ci, fs.set k v)) (y := .inr (ci, fs)) (by rw [List.getElem?_set_self (List.getElem?_eq_some_iff.mp he).1])).1).lt; dsimp only at h7; omega⟩ hS1
theorem nx_put (hx : p.tables.exec = Jvm.exec) (hb : c.code = cc) (F : fctx s m args own Ts D tc C T N ci) {ty0 : Nat → FieldType} (G : tctx T N ty0) (hw : wx D tc base u E H) (hS : va_S (frA base) H0 H locs) (e0 : Nat) {a : Nat} {fs : List Value} (he : E[e0]? = some (a, .inr (ci, fs))) (k : Nat) (hk : k < N)
    (hlink : (Cond.fieldLink own index (T k).1 (T k).2.1 (T k).2.2.1).before args s = true) (hfin : (T k).2.2.2 = false) {ty : FieldType} {v : Value} (hd : parseFieldDescriptor (T k).2.2.1 = some ty) (hn : narrow ty v = v) (hfit : fits ty v = true) (hl : k < fs.length) (hdg : decode cc pc = .ok (.putfield index, 3))
    (kk : ∀ (H1 : Heap) (locs1 : List Loc), wx D tc base u (E.set e0 (a, .inr (ci, fs.set k v))) H1 → va_S (frA base) H0 H1 locs1 → W p l e R s m args below meth c H1 locs1 cells slots Q (F0 m (pc + 3) ls rest)) : W p l e R s m args below meth c H locs cells slots Q (F0 m pc ls (v :: .ref a :: rest)) := by
  obtain ⟨hts, hin, hown, hK, hc⟩ := F
  obtain ⟨⟨RL, h1, hP, hD⟩, hrf, hz⟩ := hw
  have h2 := nx_set (W0 := wlE tc u.1 u.2.2.1 u.2.2.2.1 u.2.2.2.2 RL) (y := .inr (ci, fs.set k v)) he
  refine va_put hx hb hts hin ty0 G.1 G.2 hown hK hP hD hS _ h2.1 hc k hk hlink (fun _ h => h) hfin hd hn hfit hl hdg (fun H1 locs1 hP1 hD1 hS1 => ?_)
  rw [h2.2] at hP1 hD1
  exact kk H1 locs1 ⟨⟨RL, h1, hP1, hD1⟩, hrf, by have h6 : base ≤ a := hD.2 _ _ h2.1; have h7 := (hP1 _ _ (nx_set (W0 := wlE tc u.1 u.2.2.1 u.2.2.2.1 u.2.2.2.2 RL) (E := E.set e0 (a, .inr (ci, fs.set k v))) (e0 := e0) (a := a) (x := .inr (ci, fs.set k v)) (y := .inr (ci, fs)) (by rw [List.getElem?_set_self (List.getElem?_eq_some_iff.mp he).1])).1).lt; dsimp only at h7; omega⟩ hS1
end NX
/-! contracts of constructors -/
def PcX (D : va_G) (tc : Nat → ClassId) (base : Nat) (u : St) (E : va_W) (av : List Value) : Array Value → State → Prop := va_Pc av (fun U => wx D tc base u E U.heap ∧ Kx D tc U)
theorem PcX.blind {D : va_G} {tc : Nat → ClassId} {base : Nat} {u : St} {E : va_W} {av : List Value} : FrameBlind (PcX D tc base u E av) := fun a U g mk q => ⟨q.1, q.2.1, q.2.2.call⟩
def QX (D : va_G) (tc : Nat → ClassId) (base : Nat) (post : St → va_W → Prop) : Array Value → State → Outcome → State → Prop := va_Qv (fun (q : St × va_W) => post q.1 q.2) (fun q t => wx D tc base q.1 q.2 t.heap) (frA base)
def KC (l : Launch) (D : va_G) (tc : Nat → ClassId) (base : Nat) (y : MethodName) (ws : List Cond) (rm : Room) (av : List Value) (u : St) (E : va_W) (mc ms : Nat) (post : St → va_W → Prop) : Prop := Met l y ws rm (PcX D tc base u E av) (QX D tc base post) mc ms (frA base)
theorem KC_of {l : Launch} {D : va_G} {tc : Nat → ClassId} {base : Nat} {y : MethodName} {ws ws' : List Cond} {rm : Room} {av : List Value} {u : St} {E : va_W} {mc ms : Nat} {Qc : Array Value → State → Outcome → State → Prop} {cc : ByteArray} {maxL : Nat} {ret : Option FieldType}
    (hy : plainName y.cls = true) (hw : ws = Cond.code y cc maxL ret :: ws') (hsl : (lg_sl av).length ≤ maxL)
    (body : ∀ (p : Program) (e : Env) (s : State) (m : MethodId) (below : List Frame) (meth : Method) (c : Code) (ls : Array Slot), p.tables.exec = Jvm.exec → c.code = cc → meth.sig.returnType = ret → c.maxLocals = maxL → s.vm.findClass y.cls = some m.cls → (∀ w ∈ ws, w.before av.toArray s = true) → meth.locks = false → meth.name = y.name → lv_has ls maxL (lv_args 0 av) → Kx D tc s → wx D tc base u E s.heap → va_S (frA base) s.heap s.heap [] →
      W p l e rm s m av.toArray below meth c s.heap [] 0 0 (MQ below Qc av.toArray s mc ms (frA base)) (F0 m 0 ls [])) : Met l y ws rm (PcX D tc base u E av) Qc mc ms (frA base) := by
  refine Met.ofW (cc := cc) (maxL := maxL) (ret := ret) hy hw ?_
  intro p e s m args below meth c s₁ B hml hv
  obtain ⟨rfl, hW, hK⟩ := hv
  have hl := lv_entry av (n := maxL) hsl
  rw [lg_entry_eq]
  exact body p e s m below meth c _ B.exec B.bytes B.returns hml (findClass_of_methodNamed B.named) (atoms_spec (ws := ws) B.pre) B.notSynchronized (name_of_methodNamed B.named B.method).1 hl hK hW va_S.rf
section NC
variable {p : Program} {l : Launch} {e : Env} {R : Room} {s : State} {m : MethodId} {args : Array Value} {below : List Frame} {meth : Method} {c : Code} {H H0 : Heap} {locs : List Loc} {cells slots : Nat} {Q : State → Prop}
variable {cc bytes : ByteArray} {pc nL maxL mc ms n index : Nat} {ls : Array Slot} {rest st0 As : List Value} {D : va_G} {tc : Nat → ClassId} {base b : Nat} {u u' : St} {E E' : va_W}
variable {own C host : String} {Ts ws : List Cond} {rm : Room} {y : MethodName}
theorem ret_x {post : St → va_W → Prop} (hx : p.tables.exec = Jvm.exec) (hb : c.code = cc) (hr : meth.sig.returnType = none) (hlocks : meth.locks = false) (hw : wx D tc base u' E' H) (hS : va_S (frA base) s.heap H locs) (h1 : cells ≤ mc) (h2 : slots ≤ ms) (hdg : decode cc pc = .ok (.return_, 1)) (hp : post u' E') :
    W p l e R s m args below meth c H locs cells slots (MQ below (QX D tc base post) args s mc ms (frA base)) (F0 m pc ls []) := by
  refine W.widen (k := mc) (n := ms) h1 h2 ?_
  exact W.vret hx hb hr (fun t ht hW => ⟨⟨(u', E'), rfl, hp, by show wx D tc base u' E' t.heap; rw [ht]; exact hw⟩, hS.F ht⟩) hS.2.2 hdg
theorem gos_x {post : St → va_W → Prop} {av : Array Value} (hr : va_Run p l e R s m args below meth c H locs cells slots mc ms (F0 m pc ls st0) rest (QX D tc base post av) (frA base)) (hS : va_S (frA base) H0 H locs)
    (kk : ∀ (u' : St) (E' : va_W) (H1 : Heap) (locs1 : List Loc), post u' E' → wx D tc base u' E' H1 → va_S (frA base) H0 H1 locs1 → W p l e R s m args below meth c H1 locs1 (cells + mc) (slots + ms) Q (F0 m (pc + 3) ls rest)) : W p l e R s m args below meth c H locs cells slots Q (F0 m pc ls st0) := by
  refine va_callv hr hS (fun q _ h => h) (fun q h => h) (fun u1 t H1 locs1 ht hvm hp hB _ _ hS1 => ?_)
  rw [ht] at hB
  exact kk u1.1 u1.2 H1 locs1 hp hB hS1
theorem run_I {Qc : Array Value → State → Outcome → State → Prop} (hx : p.tables.exec = Jvm.exec) (hb : c.code = cc) (hml : c.maxLocals = nL) (hown : s.vm.findClass own = some m.cls) (hts : ∀ w ∈ Ts, w.before args s = true) (hM : Met l y ws rm (PcX D tc base u E (.ref b :: As)) Qc mc ms (frA base)) (cw : CallB R s args own index y bytes maxL none ws rm mc ms n ∧ y.name = "<init>" ∧ (Cond.instanceMethod y).before args s = true)
    (hK : Kx D tc s) (hw : wx D tc base u E H) (hn : As.length = n) (hl : ls.size = nL) (hstack : st0 = As.reverse ++ .ref b :: rest) (hrm : (rest.map fun v => v.category).sum ≤ 8) (hdg : decode cc pc = .ok (.invokespecial index, 3)) (hf : cells + mc ≤ R.cells ∧ slots + ms ≤ R.slots) :
    va_Run p l e R s m args below meth c H locs cells slots mc ms (F0 m pc ls st0) rest (Qc (Value.ref b :: As).toArray) (frA base) :=
  va_runI ⟨hx, hb, hml, hown, hts⟩ hM cw ⟨PcX.blind, fun U hU hW => ⟨rfl, by rw [hU]; exact hw, hK.warm hW⟩⟩ rfl hn hl hstack (lv_room hrm) hdg hf
theorem run_IN {Qc : Array Value → State → Outcome → State → Prop} (hx : p.tables.exec = Jvm.exec) (hb : c.code = cc) (hml : c.maxLocals = nL) (hown : s.vm.findClass own = some m.cls) (hts : ∀ w ∈ Ts, w.before args s = true) (hM : Met l y ws rm (PcX D tc base u E (.ref b :: As)) Qc mc ms (frA base)) (cw : va_CN R s args own index y host bytes maxL none ws rm mc ms n ∧ y.name = "<init>" ∧ (Cond.instanceMethod y).before args s = true)
    (hK : Kx D tc s) (hw : wx D tc base u E H) (hn : As.length = n) (hl : ls.size = nL) (hstack : st0 = As.reverse ++ .ref b :: rest) (hrm : (rest.map fun v => v.category).sum ≤ 8) (hdg : decode cc pc = .ok (.invokespecial index, 3)) (hf : cells + mc ≤ R.cells ∧ slots + ms ≤ R.slots) :
    va_Run p l e R s m args below meth c H locs cells slots mc ms (F0 m pc ls st0) rest (Qc (Value.ref b :: As).toArray) (frA base) :=
  va_runIN ⟨hx, hb, hml, hown, hts⟩ hM cw ⟨PcX.blind, fun U hU hW => ⟨rfl, by rw [hU]; exact hw, hK.warm hW⟩⟩ rfl hn hl hstack (lv_room hrm) hdg hf
end NC
end
section
/-! rows over a list of which the end is told -/
section GX
variable {p : Program} {l : Launch} {e : Env} {R : Room} {s : State} {m : MethodId} {args : Array Value} {below : List Frame} {meth : Method} {c : Code} {H H0 : Heap} {locs : List Loc} {cells slots : Nat} {Q : State → Prop}
variable {cc : ByteArray} {pc : Nat} {ls : Array Slot} {rest : List Value} {D : va_G} {tc : Nat → ClassId} {base : Nat} {u : St} {E G : va_W}
variable {own C : String} {T : u_T} {N ci index : Nat} {Ts : List Cond} {k t : Nat} {z : Int}
theorem g_new (hx : p.tables.exec = Jvm.exec) (hb : c.code = cc) (F : fctx s m args own Ts D tc C T N ci) {ty0 : Nat → FieldType} (Gt : tctx T N ty0) (hcl : (Cond.classLink own index C).before args s = true) (hinst : (Cond.instantiable C N).before args s = true) (hini : (Cond.initialized C).before args s = true)
    (hw : wx D tc base u (E ++ G) H) (hS : va_S (frA base) H0 H locs) (hbs : base ≤ H0.size) {fs : List Value} (hfs : ∀ j, j < N → defaultValue (ty0 j) = vp_V fs j) (hcells : cells + 1 ≤ R.cells) (hslots : slots + N ≤ R.slots) (hdg : decode cc pc = .ok (.new index, 3))
    (kk : ∀ (q : Nat) (H1 : Heap), wx D tc base u (E ++ (G ++ [(q, .inr (ci, fs))])) H1 → va_S (frA base) H0 H1 locs → W p l e R s m args below meth c H1 locs (cells + 1) (slots + N) Q (F0 m (pc + 3) ls (.ref q :: rest))) : W p l e R s m args below meth c H locs cells slots Q (F0 m pc ls rest) :=
  nx_new hx hb F Gt hcl hinst hini hw hS hbs hfs hcells hslots hdg (fun q H1 h => kk q H1 (by rw [← List.append_assoc]; exact h))
theorem g_newa (hx : p.tables.exec = Jvm.exec) (hb : c.code = cc) {atype : ArrayType} (harr : (Cond.arrayClass (newarray.typeOf atype)).before args s = true) {ty : FieldType} (hty : newarray.typeOf atype = ty) (hK : va_K D vwCl (tysL tc) s) (ht : (tysL tc)[t]? = some (tc t, ty))
    (hw : wx D tc base u (E ++ G) H) (hS : va_S (frA base) H0 H locs) (hbs : base ≤ H0.size) {a0 : vp_A} (ha : ∀ cA : ClassId, vp_cell cA a0 = arrV cA z.toNat (fun _ => defaultValue ty)) (h0 : 0 ≤ z) (h1 : z ≤ 10000) (hbytes : z.toNat * componentBytes ty ≤ 536870912) (hcells : cells + 1 ≤ R.cells) (hslots : slots + z.toNat ≤ R.slots) (hdg : decode cc pc = .ok (.newarray atype, 2))
    (kk : ∀ (q : Nat) (H1 : Heap), wx D tc base u (E ++ (G ++ [(q, .inl (tc t, a0))])) H1 → va_S (frA base) H0 H1 locs → W p l e R s m args below meth c H1 locs (cells + 1) (slots + z.toNat) Q (F0 m (pc + 2) ls (.ref q :: rest))) : W p l e R s m args below meth c H locs cells slots Q (F0 m pc ls (.int (jI z) :: rest)) :=
  nx_newa hx hb harr hty hK ht hw hS hbs ha h0 h1 hbytes hcells hslots hdg (fun q H1 h => kk q H1 (by rw [← List.append_assoc]; exact h))
theorem g_newq (hx : p.tables.exec = Jvm.exec) (hb : c.code = cc) (hown : s.vm.findClass own = some m.cls) (hclink : (Cond.classLink own index C).before args s = true) (hover : va_AO C s) (hK : va_K D vwCl (tysL tc) s) (ht : (tysL tc)[t]? = some (tc t, .object C))
    (hw : wx D tc base u (E ++ G) H) (hS : va_S (frA base) H0 H locs) (hbs : base ≤ H0.size) (h0 : 0 ≤ z) (h1 : z ≤ 10000) (hcells : cells + 1 ≤ R.cells) (hslots : slots + z.toNat ≤ R.slots) (hdg : decode cc pc = .ok (.anewarray index, 3))
    (kk : ∀ (q : Nat) (H1 : Heap), wx D tc base u (E ++ (G ++ [(q, .inl (tc t, z.toNat, .inr (.inr (.inr (.inr (fun _ => none))))))])) H1 → va_S (frA base) H0 H1 locs → W p l e R s m args below meth c H1 locs (cells + 1) (slots + z.toNat) Q (F0 m (pc + 3) ls (.ref q :: rest))) : W p l e R s m args below meth c H locs cells slots Q (F0 m pc ls (.int (jI z) :: rest)) :=
  nx_newq hx hb hown hclink hover hK ht hw hS hbs h0 h1 hcells hslots hdg (fun q H1 h => kk q H1 (by rw [← List.append_assoc]; exact h))
theorem g_putF (hx : p.tables.exec = Jvm.exec) (hb : c.code = cc) (F : fctx s m args own Ts D tc C T N ci) {ty0 : Nat → FieldType} (Gt : tctx T N ty0) (hw : wx D tc base u (E ++ G) H) (hS : va_S (frA base) H0 H locs) (e0 : Nat) {a : Nat} {fs : List Value} (he : G[e0]? = some (a, .inr (ci, fs))) (k : Nat) (hk : k < N)
    (hlink : (Cond.fieldLink own index (T k).1 (T k).2.1 (T k).2.2.1).before args s = true) (hfin : (T k).2.2.2 = true) (hin2 : meth.name = "<init>") (hdecl : (T k).1 = own) {ty : FieldType} {v : Value} (hd : parseFieldDescriptor (T k).2.2.1 = some ty) (hn : narrow ty v = v) (hfit : fits ty v = true) (hl : k < fs.length) (hdg : decode cc pc = .ok (.putfield index, 3))
    (kk : ∀ (H1 : Heap) (locs1 : List Loc), wx D tc base u (E ++ G.set e0 (a, .inr (ci, fs.set k v))) H1 → va_S (frA base) H0 H1 locs1 → W p l e R s m args below meth c H1 locs1 cells slots Q (F0 m (pc + 3) ls rest)) : W p l e R s m args below meth c H locs cells slots Q (F0 m pc ls (v :: .ref a :: rest)) := by
  have h2 := nx_set (W0 := E) (y := .inr (ci, fs.set k v)) he
  refine nx_putF hx hb F Gt hw hS _ h2.1 k hk hlink hfin hin2 hdecl hd hn hfit hl hdg (fun H1 locs1 h hS1 => ?_)
  rw [h2.2] at h
  exact kk H1 locs1 h hS1
theorem g_put (hx : p.tables.exec = Jvm.exec) (hb : c.code = cc) (F : fctx s m args own Ts D tc C T N ci) {ty0 : Nat → FieldType} (Gt : tctx T N ty0) (hw : wx D tc base u (E ++ G) H) (hS : va_S (frA base) H0 H locs) (e0 : Nat) {a : Nat} {fs : List Value} (he : G[e0]? = some (a, .inr (ci, fs))) (k : Nat) (hk : k < N)
    (hlink : (Cond.fieldLink own index (T k).1 (T k).2.1 (T k).2.2.1).before args s = true) (hfin : (T k).2.2.2 = false) {ty : FieldType} {v : Value} (hd : parseFieldDescriptor (T k).2.2.1 = some ty) (hn : narrow ty v = v) (hfit : fits ty v = true) (hl : k < fs.length) (hdg : decode cc pc = .ok (.putfield index, 3))
    (kk : ∀ (H1 : Heap) (locs1 : List Loc), wx D tc base u (E ++ G.set e0 (a, .inr (ci, fs.set k v))) H1 → va_S (frA base) H0 H1 locs1 → W p l e R s m args below meth c H1 locs1 cells slots Q (F0 m (pc + 3) ls rest)) : W p l e R s m args below meth c H locs cells slots Q (F0 m pc ls (v :: .ref a :: rest)) := by
  have h2 := nx_set (W0 := E) (y := .inr (ci, fs.set k v)) he
  refine nx_put hx hb F Gt hw hS _ h2.1 k hk hlink hfin hd hn hfit hl hdg (fun H1 locs1 h hS1 => ?_)
  rw [h2.2] at h
  exact kk H1 locs1 h hS1
end GX
/-! the first place of a name among the first n; a row whose end moved down by one -/
def nmAt (f : Int → Int) (name : Int) : Nat → Int
  | 0 => -1
  | n + 1 => if nmAt f name n = -1 then (if f (n : Int) = name then (n : Int) else -1) else nmAt f name n
theorem nmAt_spec (f : Int → Int) (name : Int) (n : Nat) : (nmAt f name n = -1 ∧ ∀ j, 0 ≤ j → j < (n : Int) → f j ≠ name) ∨ (0 ≤ nmAt f name n ∧ nmAt f name n < (n : Int) ∧ f (nmAt f name n) = name ∧ ∀ j, 0 ≤ j → j < nmAt f name n → f j ≠ name) := by
  induction n with
  | zero => exact Or.inl ⟨rfl, fun j h0 h1 => by omega⟩
  | succ n ih =>
    rcases ih with ⟨h1, h2⟩ | ⟨h1, h2, h3, h4⟩
    · by_cases hf : f (n : Int) = name
      · have e : nmAt f name (n + 1) = (n : Int) := by simp only [nmAt]; rw [if_pos h1, if_pos hf]
        rw [e]
        exact Or.inr ⟨by omega, by omega, hf, h2⟩
      · have e : nmAt f name (n + 1) = -1 := by simp only [nmAt]; rw [if_pos h1, if_neg hf]
        refine Or.inl ⟨e, fun j g0 g1 => ?_⟩
        by_cases hj : j = (n : Int)
        · rw [hj]; exact hf
        · exact h2 j g0 (by omega)
    · have e : nmAt f name (n + 1) = nmAt f name n := by simp only [nmAt]; rw [if_neg (by omega)]
      rw [e]
      exact Or.inr ⟨h1, by omega, h3, h4⟩
theorem nmAt_no {f : Int → Int} {name z : Int} (h : ∀ j, 0 ≤ j → j < z → f j ≠ name) (hz : 0 ≤ z) : nmAt f name z.toNat = -1 := by
  rcases nmAt_spec f name z.toNat with h1 | ⟨h1, h2, h3, -⟩
  · exact h1.1
  · exact absurd h3 (h _ h1 (by omega))
theorem nmAt_yes {f : Int → Int} {name z k : Int} (h : ∀ j, 0 ≤ j → j < k → f j ≠ name) (hk : 0 ≤ k ∧ k < z) (hf : f k = name) : nmAt f name z.toNat = k := by
  rcases nmAt_spec f name z.toNat with ⟨-, h2⟩ | ⟨h1, h2, h3, h4⟩
  · exact absurd hf (h2 k hk.1 (by omega))
  · by_cases hlt : nmAt f name z.toNat < k
    · exact absurd h3 (h _ h1 hlt)
    · by_cases hgt : k < nmAt f name z.toNat
      · exact absurd hf (h4 k hk.1 hgt)
      · omega
theorem nmAt_congr {f g : Int → Int} {name : Int} {n : Nat} (h : ∀ j, 0 ≤ j → j < (n : Int) → f j = g j) : nmAt f name n = nmAt g name n := by
  induction n with
  | zero => rfl
  | succ n ih =>
    have e := ih (fun j a b => h j a (by omega))
    simp only [nmAt]
    rw [e, h (n : Int) (by omega) (by omega)]
/-- kind κ, row q: from k to i all came one down -/
def Sh (κ : Nat) (X Xa : Nat → Int → Int → Int) (q k i : Int) : Prop := ∀ y j, Xa κ y j = if y = q ∧ k ≤ j ∧ j < i then X κ y (j + 1) else X κ y j
theorem Sh.in_ {κ : Nat} {X Xa : Nat → Int → Int → Int} {q k : Int} (h : Xa κ = X κ) : Sh κ X Xa q k k := fun y j => by rw [if_neg (fun g => by omega), h]
theorem Sh.of {κ : Nat} {X Xa Xb : Nat → Int → Int → Int} {q k i : Int} (h : Sh κ X Xa q k i) (e : Xb κ = Xa κ) : Sh κ X Xb q k i := fun y j => by rw [e]; exact h y j
theorem Sh.step {κ : Nat} {X Xa Xb Xc : Nat → Int → Int → Int} {q k i v : Int} (h : Sh κ X Xa q k i) (hk : k ≤ i) (e0 : Xc κ = Xa κ) (e : Xb κ = u3 Xc κ q i v κ) (hv : v = Xa κ q (i + 1)) : Sh κ X Xb q k (i + 1) := fun y j => by
  rw [e]
  by_cases hc : y = q ∧ j = i
  · obtain ⟨rfl, rfl⟩ := hc
    rw [u3_s, hv, h, if_neg (fun g => by omega), if_pos ⟨rfl, hk, by omega⟩]
  · have e2 : u3 Xc κ q i v κ y j = Xa κ y j := by
      simp only [u3]
      rw [if_neg (fun g => hc g.2), e0]
    rw [e2, h]
    by_cases hd : y = q ∧ k ≤ j ∧ j < i
    · rw [if_pos hd, if_pos ⟨hd.1, hd.2.1, by omega⟩]
    · rw [if_neg hd, if_neg (fun g => hd ⟨g.1, g.2.1, by
        have : j ≠ i := fun q9 => hc ⟨g.1, q9⟩
        omega⟩)]
theorem Sh.at_ {κ : Nat} {X Xa : Nat → Int → Int → Int} {q k i j : Int} (h : Sh κ X Xa q k i) (h1 : i ≤ j) (y : Int) : Xa κ y j = X κ y j := by rw [h, if_neg (fun g => by omega)]
theorem gx_app {G L : va_W} {x : Nat × va_E} (h : G[0]? = some x) : (G ++ L)[0]? = some x := by
  have hl := (List.getElem?_eq_some_iff.mp h).1
  rw [List.getElem?_append_left hl]
  exact h
theorem gx_set {G : va_W} {x y : Nat × va_E} (h : G[0]? = some x) : (G.set 0 y)[0]? = some y := List.getElem?_set_self (List.getElem?_eq_some_iff.mp h).1
end
section
section
/-! what the journal of each side does at a change: a note more while a mark stands, else nothing -/
def tyo (o : Option Int) : Int := o.getD (-1)
theorem tyo_some {o : Option Int} {t : Int} (h : o = some t) : tyo o = t := by rw [h]; rfl
def eNoteC (X X1 : Nat → Int → Int → Int) (Y Y1 : Nat → Int → Int → Option Int) (th : Option Int) (ix v : Int) (rw : Option Int) : Prop :=
  (X 29 0 3 = 0 ∧ X1 29 0 1 = X 29 0 1 ∧ X1 28 = X 28 ∧ Y1 28 = Y 28) ∨
  (0 < X 29 0 3 ∧ X1 29 0 1 = X 29 0 1 + 1 ∧ (Y1 28 (X 29 0 1) 0 = th ∧ X1 28 (X 29 0 1) 1 = ix ∧ X1 28 (X 29 0 1) 2 = v ∧ Y1 28 (X 29 0 1) 3 = rw) ∧ ∀ n, n ≠ X 29 0 1 → (∀ j, X1 28 n j = X 28 n j) ∧ ∀ j, Y1 28 n j = Y 28 n j)
def eNoteM (X X1 : Nat → Int → Int → Int) (th fd rw it ws : Int) : Prop :=
  (X 40 0 20 = 0 ∧ X1 40 0 22 = X 40 0 22 ∧ ∀ y, X1 64 0 y = X 64 0 y ∧ X1 65 0 y = X 65 0 y ∧ X1 66 0 y = X 66 0 y ∧ X1 67 0 y = X 67 0 y ∧ X1 68 0 y = X 68 0 y) ∨
  (0 < X 40 0 20 ∧ X1 40 0 22 = X 40 0 22 + 1 ∧ (X1 64 0 (X 40 0 22) = th ∧ X1 65 0 (X 40 0 22) = fd ∧ X1 66 0 (X 40 0 22) = rw ∧ X1 67 0 (X 40 0 22) = it ∧ X1 68 0 (X 40 0 22) = ws) ∧ ∀ y, y ≠ X 40 0 22 → X1 64 0 y = X 64 0 y ∧ X1 65 0 y = X 65 0 y ∧ X1 66 0 y = X 66 0 y ∧ X1 67 0 y = X 67 0 y ∧ X1 68 0 y = X 68 0 y)
section EF
variable {X X0 X1 X2 : Nat → Int → Int → Int} {Y Y0 Y1 Y2 : Nat → Int → Int → Option Int} {th rw : Option Int} {ix v : Int} {M N : List Nat} {thm fd rwm it ws : Int}
theorem eNoteC.to (h : eNoteC X X1 Y Y1 th ix v rw) (hF : Frm M X1 X2) (hH : Frm N Y1 Y2) (hd : ∀ c ∈ [2801, 2802, 2803, 2804, 2902], c ∉ M) (he : ∀ c ∈ [2801, 2802, 2803, 2804], c ∉ N) (hx : ∀ n j, X2 28 n j = X1 28 n j) (hy : ∀ n j, Y2 28 n j = Y1 28 n j) : eNoteC X X2 Y Y2 th ix v rw := by
  have a : X2 29 0 1 = X1 29 0 1 := hF 29 0 1 (hd 2902 (by decide))
  have b : X2 28 = X1 28 := funext fun n => funext fun j => hx n j
  have c : Y2 28 = Y1 28 := funext fun n => funext fun j => hy n j
  unfold eNoteC at *
  rw [a, b, c]
  exact h
theorem eNoteC.from (h : eNoteC X0 X1 Y0 Y1 th ix v rw) (hF : Frm M X X0) (hH : Frm N Y Y0) (hd : ∀ c ∈ [2902, 2904], c ∉ M) (hx : ∀ n j, X0 28 n j = X 28 n j) (hy : ∀ n j, Y0 28 n j = Y 28 n j) : eNoteC X X1 Y Y1 th ix v rw := by
  have a : X0 29 0 1 = X 29 0 1 := hF 29 0 1 (hd 2902 (by decide))
  have a2 : X0 29 0 3 = X 29 0 3 := hF 29 0 3 (hd 2904 (by decide))
  have b : X0 28 = X 28 := funext fun n => funext fun j => hx n j
  have c : Y0 28 = Y 28 := funext fun n => funext fun j => hy n j
  unfold eNoteC at *
  rw [a, a2, b, c] at h
  exact h
theorem eNoteM.to (h : eNoteM X X1 thm fd rwm it ws) (hF : Frm M X1 X2) (hd : ∀ c ∈ [4023, 6400, 6500, 6600, 6700, 6800], c ∉ M) : eNoteM X X2 thm fd rwm it ws := by
  have a : X2 40 0 22 = X1 40 0 22 := hF 40 0 22 (hd 4023 (by decide))
  have b4 : ∀ y, X2 64 0 y = X1 64 0 y := fun y => hF 64 0 y (hd 6400 (by decide))
  have b5 : ∀ y, X2 65 0 y = X1 65 0 y := fun y => hF 65 0 y (hd 6500 (by decide))
  have b6 : ∀ y, X2 66 0 y = X1 66 0 y := fun y => hF 66 0 y (hd 6600 (by decide))
  have b7 : ∀ y, X2 67 0 y = X1 67 0 y := fun y => hF 67 0 y (hd 6700 (by decide))
  have b8 : ∀ y, X2 68 0 y = X1 68 0 y := fun y => hF 68 0 y (hd 6800 (by decide))
  unfold eNoteM at *
  simp only [a, b4, b5, b6, b7, b8]
  exact h
theorem eNoteM.from (h : eNoteM X0 X1 thm fd rwm it ws) (hF : Frm M X X0) (hd : ∀ c ∈ [4021, 4023, 6400, 6500, 6600, 6700, 6800], c ∉ M) : eNoteM X X1 thm fd rwm it ws := by
  have a : X0 40 0 22 = X 40 0 22 := hF 40 0 22 (hd 4023 (by decide))
  have a0 : X0 40 0 20 = X 40 0 20 := hF 40 0 20 (hd 4021 (by decide))
  have b4 : ∀ y, X0 64 0 y = X 64 0 y := fun y => hF 64 0 y (hd 6400 (by decide))
  have b5 : ∀ y, X0 65 0 y = X 65 0 y := fun y => hF 65 0 y (hd 6500 (by decide))
  have b6 : ∀ y, X0 66 0 y = X 66 0 y := fun y => hF 66 0 y (hd 6600 (by decide))
  have b7 : ∀ y, X0 67 0 y = X 67 0 y := fun y => hF 67 0 y (hd 6700 (by decide))
  have b8 : ∀ y, X0 68 0 y = X 68 0 y := fun y => hF 68 0 y (hd 6800 (by decide))
  unfold eNoteM at *
  simp only [a, a0, b4, b5, b6, b7, b8] at h
  exact h
end EF
end
section
/-! recording, as a pure run over positions: s 0 0 how many records, s 1 their things, s 2 0 how many rows, s 3, s 4 the first place of each row, s 5 the values by position -/
def u2 (s : Nat → Int → Int) (κ : Nat) (i v : Int) : Nat → Int → Int := fun κ' i' => if κ' = κ ∧ i' = i then v else s κ' i'
theorem u2_s (s : Nat → Int → Int) (κ : Nat) (i v : Int) : u2 s κ i v κ i = v := by simp [u2]
theorem u2_k (s : Nat → Int → Int) {κ κ' : Nat} (i v i' : Int) (h : κ' ≠ κ) : u2 s κ i v κ' i' = s κ' i' := by simp [u2, h]
theorem u2_i (s : Nat → Int → Int) (κ : Nat) {i i' : Int} (v : Int) (h : i' ≠ i) : u2 s κ i v κ i' = s κ i' := by simp [u2, h]
theorem nmAt_alike {f g : Int → Int} {a b : Int} {n : Nat} (h : ∀ j, 0 ≤ j → j < (n : Int) → (f j = a ↔ g j = b)) : nmAt f a n = nmAt g b n := by
  induction n with
  | zero => rfl
  | succ n ih =>
    have e := ih (fun j h0 h1 => h j h0 (by omega))
    simp only [nmAt]
    rw [e]
    by_cases h2 : f (n : Int) = a
    · rw [if_pos h2, if_pos ((h (n : Int) (by omega) (by omega)).mp h2)]
    · rw [if_neg h2, if_neg (fun q => h2 ((h (n : Int) (by omega) (by omega)).mpr q))]
def recP (la vl rid : Int → Int → Int) (y k p : Int) (s : Nat → Int → Int) : Nat → Int → Int :=
  if la y k < 2 then u2 s 5 p (vl y k)
  else if la y k = 2 then
    (if vl y k < 0 then u2 s 5 p (-1)
    else if nmAt (s 1) (vl y k) (s 0 0).toNat = -1 then u2 (u2 (u2 s 1 (s 0 0) (vl y k)) 5 p (s 0 0)) 0 0 (s 0 0 + 1)
    else u2 s 5 p (nmAt (s 1) (vl y k) (s 0 0).toNat))
  else
    (if rid y k < 0 then u2 s 5 p (-1)
    else if nmAt (fun q => rid (s 3 q) (s 4 q)) (rid y k) (s 2 0).toNat = -1 then u2 (u2 (u2 (u2 s 3 (s 2 0) y) 4 (s 2 0) k) 5 p (s 2 0)) 2 0 (s 2 0 + 1)
    else u2 s 5 p (nmAt (fun q => rid (s 3 q) (s 4 q)) (rid y k) (s 2 0).toNat))
def recK (la vl rid : Int → Int → Int) (s : Nat → Int → Int) (r : Int) : Nat → Nat → Int → Int
  | 0 => s
  | k + 1 => recP la vl rid (s 1 r) (k : Int) (5 * r + (k : Int)) (recK la vl rid s r k)
def recR (fc : Int → Int) (la vl rid : Int → Int → Int) (x : Int) : Nat → Nat → Int → Int
  | 0 => u2 (u2 (u2 (fun _ _ => 0) 1 0 x) 0 0 1) 2 0 0
  | r + 1 => if (r : Int) < recR fc la vl rid x r 0 0 then recK la vl rid (recR fc la vl rid x r) (r : Int) (fc (recR fc la vl rid x r 1 (r : Int))).toNat else recR fc la vl rid x r
/-- what holds all along: the things of the records are things, the rows' first places are places of rows -/
def rInv (H : Int) (fc : Int → Int) (la rid : Int → Int → Int) (s : Nat → Int → Int) : Prop :=
  0 ≤ s 0 0 ∧ (∀ i, 0 ≤ i → i < s 0 0 → 0 ≤ s 1 i ∧ s 1 i < H) ∧ 0 ≤ s 2 0 ∧ ∀ i, 0 ≤ i → i < s 2 0 → (0 ≤ s 3 i ∧ s 3 i < H) ∧ (0 ≤ s 4 i ∧ s 4 i < fc (s 3 i)) ∧ 3 ≤ la (s 3 i) (s 4 i) ∧ 0 ≤ rid (s 3 i) (s 4 i)
section FO
variable {H : Int} {fc fc' : Int → Int} {la la' vl vl' rid rid' : Int → Int → Int} {s : Nat → Int → Int} {y k p x r : Int}
/-- readers that are alike -/
def Alk (H : Int) (fc fc' : Int → Int) (la la' vl vl' rid rid' : Int → Int → Int) : Prop :=
  (∀ y, 0 ≤ y → y < H → fc y = fc' y ∧ ∀ k, 0 ≤ k → k < fc y → la y k = la' y k ∧ (la y k < 3 → vl y k = vl' y k) ∧ (la y k = 2 → vl y k < H) ∧ (3 ≤ la y k → (rid y k < 0 ↔ rid' y k < 0))) ∧
  ∀ y k y' k', 0 ≤ y → y < H → 0 ≤ y' → y' < H → 0 ≤ k → k < fc y → 0 ≤ k' → k' < fc y' → 3 ≤ la y k → 3 ≤ la y' k' → 0 ≤ rid y k → 0 ≤ rid y' k' → (rid y k = rid y' k' ↔ rid' y k = rid' y' k')
theorem recP_inv (h : rInv H fc la rid s) (hy : 0 ≤ y ∧ y < H) (hk : 0 ≤ k ∧ k < fc y) (hv : la y k = 2 → vl y k < H) : rInv H fc la rid (recP la vl rid y k p s) := by
  obtain ⟨h1, h2, h3, h4⟩ := h
  unfold recP
  by_cases c1 : la y k < 2
  · rw [if_pos c1]
    refine ⟨by rw [u2_k _ _ _ _ (by decide)]; exact h1, fun i i0 i1 => ?_, by rw [u2_k _ _ _ _ (by decide)]; exact h3, fun i i0 i1 => ?_⟩
    · rw [u2_k _ _ _ _ (by decide)] at i1 ⊢
      exact h2 i i0 i1
    · rw [u2_k _ _ _ _ (by decide)] at i1
      rw [u2_k _ _ _ _ (by decide), u2_k _ _ _ _ (by decide)]
      exact h4 i i0 i1
  · rw [if_neg c1]
    by_cases c2 : la y k = 2
    · rw [if_pos c2]
      have hv2 := hv c2
      split
      · refine ⟨by rw [u2_k _ _ _ _ (by decide)]; exact h1, fun i i0 i1 => ?_, by rw [u2_k _ _ _ _ (by decide)]; exact h3, fun i i0 i1 => ?_⟩
        · rw [u2_k _ _ _ _ (by decide)] at i1 ⊢
          exact h2 i i0 i1
        · rw [u2_k _ _ _ _ (by decide)] at i1
          rw [u2_k _ _ _ _ (by decide), u2_k _ _ _ _ (by decide)]
          exact h4 i i0 i1
      · split
        · refine ⟨by rw [u2_s]; omega, fun i i0 i1 => ?_, by rw [u2_k _ _ _ _ (by decide), u2_k _ _ _ _ (by decide), u2_k _ _ _ _ (by decide)]; exact h3, fun i i0 i1 => ?_⟩
          · rw [u2_s] at i1
            rw [u2_k _ _ _ _ (by decide), u2_k _ _ _ _ (by decide)]
            by_cases e : i = s 0 0
            · rw [e, u2_s]; omega
            · rw [u2_i _ _ _ e]; exact h2 i i0 (by omega)
          · rw [u2_k _ _ _ _ (by decide), u2_k _ _ _ _ (by decide), u2_k _ _ _ _ (by decide)] at i1
            rw [u2_k _ _ _ _ (by decide), u2_k _ _ _ _ (by decide), u2_k _ _ _ _ (by decide), u2_k _ _ _ _ (by decide), u2_k _ _ _ _ (by decide), u2_k _ _ _ _ (by decide)]
            exact h4 i i0 i1
        · refine ⟨by rw [u2_k _ _ _ _ (by decide)]; exact h1, fun i i0 i1 => ?_, by rw [u2_k _ _ _ _ (by decide)]; exact h3, fun i i0 i1 => ?_⟩
          · rw [u2_k _ _ _ _ (by decide)] at i1 ⊢
            exact h2 i i0 i1
          · rw [u2_k _ _ _ _ (by decide)] at i1
            rw [u2_k _ _ _ _ (by decide), u2_k _ _ _ _ (by decide)]
            exact h4 i i0 i1
    · rw [if_neg c2]
      split
      · refine ⟨by rw [u2_k _ _ _ _ (by decide)]; exact h1, fun i i0 i1 => ?_, by rw [u2_k _ _ _ _ (by decide)]; exact h3, fun i i0 i1 => ?_⟩
        · rw [u2_k _ _ _ _ (by decide)] at i1 ⊢
          exact h2 i i0 i1
        · rw [u2_k _ _ _ _ (by decide)] at i1
          rw [u2_k _ _ _ _ (by decide), u2_k _ _ _ _ (by decide)]
          exact h4 i i0 i1
      · split
        · refine ⟨by rw [u2_k _ _ _ _ (by decide), u2_k _ _ _ _ (by decide), u2_k _ _ _ _ (by decide), u2_k _ _ _ _ (by decide)]; exact h1, fun i i0 i1 => ?_, by rw [u2_s]; omega, fun i i0 i1 => ?_⟩
          · rw [u2_k _ _ _ _ (by decide), u2_k _ _ _ _ (by decide), u2_k _ _ _ _ (by decide), u2_k _ _ _ _ (by decide)] at i1
            rw [u2_k _ _ _ _ (by decide), u2_k _ _ _ _ (by decide), u2_k _ _ _ _ (by decide), u2_k _ _ _ _ (by decide)]
            exact h2 i i0 i1
          · rw [u2_s] at i1
            have e3 : u2 (u2 (u2 (u2 s 3 (s 2 0) y) 4 (s 2 0) k) 5 p (s 2 0)) 2 0 (s 2 0 + 1) 3 i = u2 s 3 (s 2 0) y 3 i := by rw [u2_k _ _ _ _ (by decide), u2_k _ _ _ _ (by decide), u2_k _ _ _ _ (by decide)]
            have e4 : u2 (u2 (u2 (u2 s 3 (s 2 0) y) 4 (s 2 0) k) 5 p (s 2 0)) 2 0 (s 2 0 + 1) 4 i = u2 (u2 s 3 (s 2 0) y) 4 (s 2 0) k 4 i := by rw [u2_k _ _ _ _ (by decide), u2_k _ _ _ _ (by decide)]
            rw [e3, e4]
            by_cases e : i = s 2 0
            · rw [e, u2_s, u2_s]
              exact ⟨hy, hk, by omega, by omega⟩
            · rw [u2_i _ _ _ e, u2_i _ _ _ e, u2_k _ _ _ _ (by decide)]
              exact h4 i i0 (by omega)
        · refine ⟨by rw [u2_k _ _ _ _ (by decide)]; exact h1, fun i i0 i1 => ?_, by rw [u2_k _ _ _ _ (by decide)]; exact h3, fun i i0 i1 => ?_⟩
          · rw [u2_k _ _ _ _ (by decide)] at i1 ⊢
            exact h2 i i0 i1
          · rw [u2_k _ _ _ _ (by decide)] at i1
            rw [u2_k _ _ _ _ (by decide), u2_k _ _ _ _ (by decide)]
            exact h4 i i0 i1
theorem recP_alk (hA : Alk H fc fc' la la' vl vl' rid rid') (h : rInv H fc la rid s) (hy : 0 ≤ y ∧ y < H) (hk : 0 ≤ k ∧ k < fc y) : recP la vl rid y k p s = recP la' vl' rid' y k p s := by
  obtain ⟨h1, h2, h3, h4⟩ := h
  obtain ⟨a1, a2⟩ := hA.1 y hy.1 hy.2
  obtain ⟨b1, b2, b3, b4⟩ := a2 k hk.1 hk.2
  unfold recP
  rw [← b1]
  by_cases c1 : la y k < 2
  · rw [if_pos c1, if_pos c1, b2 (by omega)]
  · rw [if_neg c1, if_neg c1]
    by_cases c2 : la y k = 2
    · rw [if_pos c2, if_pos c2, b2 (by omega)]
    · rw [if_neg c2, if_neg c2]
      by_cases c3 : rid y k < 0
      · rw [if_pos c3, if_pos ((b4 (by omega)).mp c3)]
      · rw [if_neg c3, if_neg (fun q => c3 ((b4 (by omega)).mpr q))]
        have e : nmAt (fun q => rid (s 3 q) (s 4 q)) (rid y k) (s 2 0).toNat = nmAt (fun q => rid' (s 3 q) (s 4 q)) (rid' y k) (s 2 0).toNat := nmAt_alike (fun j j0 j1 => by
          obtain ⟨g1, g2, g3, g4⟩ := h4 j j0 (by omega)
          exact hA.2 _ _ _ _ g1.1 g1.2 hy.1 hy.2 g2.1 g2.2 hk.1 hk.2 g3 (by omega) g4 (by omega))
        rw [e]
theorem recP_o (hr : 0 ≤ r ∧ r < s 0 0) : recP la vl rid y k p s 1 r = s 1 r := by
  unfold recP
  split
  · exact u2_k _ _ _ _ (by decide)
  · split
    · split
      · exact u2_k _ _ _ _ (by decide)
      · split
        · rw [u2_k _ _ _ _ (by decide), u2_k _ _ _ _ (by decide), u2_i _ _ _ (by omega)]
        · exact u2_k _ _ _ _ (by decide)
    · split
      · exact u2_k _ _ _ _ (by decide)
      · split
        · rw [u2_k _ _ _ _ (by decide), u2_k _ _ _ _ (by decide), u2_k _ _ _ _ (by decide), u2_k _ _ _ _ (by decide)]
        · exact u2_k _ _ _ _ (by decide)
theorem recP_m : s 0 0 ≤ recP la vl rid y k p s 0 0 := by
  unfold recP
  split
  · rw [u2_k _ _ _ _ (by decide)]; omega
  · split
    · split
      · rw [u2_k _ _ _ _ (by decide)]; omega
      · split
        · rw [u2_s]; omega
        · rw [u2_k _ _ _ _ (by decide)]; omega
    · split
      · rw [u2_k _ _ _ _ (by decide)]; omega
      · split
        · rw [u2_k _ _ _ _ (by decide), u2_k _ _ _ _ (by decide), u2_k _ _ _ _ (by decide), u2_k _ _ _ _ (by decide)]; omega
        · rw [u2_k _ _ _ _ (by decide)]; omega
theorem recK_alk (hA : Alk H fc fc' la la' vl vl' rid rid') (h : rInv H fc la rid s) (hr : 0 ≤ r ∧ r < s 0 0) (n : Nat) (hn : (n : Int) ≤ fc (s 1 r)) : recK la vl rid s r n = recK la' vl' rid' s r n ∧ rInv H fc la rid (recK la vl rid s r n) ∧ s 0 0 ≤ recK la vl rid s r n 0 0 ∧ recK la vl rid s r n 1 r = s 1 r := by
  induction n with
  | zero => exact ⟨rfl, h, Int.le_refl _, rfl⟩
  | succ n ih =>
    obtain ⟨i1, i2, i3, i4⟩ := ih (by omega)
    have hy := h.2.1 r hr.1 hr.2
    have hk : 0 ≤ (n : Int) ∧ (n : Int) < fc (s 1 r) := ⟨by omega, by omega⟩
    have hv : la (s 1 r) (n : Int) = 2 → vl (s 1 r) (n : Int) < H := ((hA.1 _ hy.1 hy.2).2 _ hk.1 hk.2).2.2.1
    simp only [recK]
    rw [← i1]
    exact ⟨recP_alk hA i2 hy hk, recP_inv i2 hy hk hv, Int.le_trans i3 recP_m, by rw [recP_o (by omega)]; exact i4⟩
theorem recR_alk (hA : Alk H fc fc' la la' vl vl' rid rid') (hf : ∀ y, 0 ≤ y → y < H → 0 ≤ fc y) (hx : 0 ≤ x ∧ x < H) (n : Nat) : recR fc la vl rid x n = recR fc' la' vl' rid' x n ∧ rInv H fc la rid (recR fc la vl rid x n) := by
  induction n with
  | zero =>
    refine ⟨rfl, ?_⟩
    simp only [recR]
    refine ⟨by rw [u2_k _ _ _ _ (by decide), u2_s]; omega, fun i i0 i1 => ?_, by rw [u2_s]; omega, fun i i0 i1 => ?_⟩
    · rw [u2_k _ _ _ _ (by decide), u2_s] at i1
      rw [u2_k _ _ _ _ (by decide), u2_k _ _ _ _ (by decide), show i = 0 by omega, u2_s]
      exact hx
    · rw [u2_s] at i1
      omega
  | succ n ih =>
    obtain ⟨i1, i2⟩ := ih
    simp only [recR]
    rw [← i1]
    by_cases c : (n : Int) < recR fc la vl rid x n 0 0
    · rw [if_pos c, if_pos c]
      have hy := i2.2.1 (n : Int) (by omega) c
      have e := (hA.1 _ hy.1 hy.2).1
      rw [← e]
      have h0 := hf _ hy.1 hy.2
      obtain ⟨j1, j2, -, -⟩ := recK_alk hA i2 (r := (n : Int)) ⟨by omega, c⟩ (fc (recR fc la vl rid x n 1 (n : Int))).toNat (by omega)
      exact ⟨j1, j2⟩
    · rw [if_neg c, if_neg c]
      exact ⟨rfl, i2⟩
end FO
end
section
/-! class and reference in full: C, Y, ln, c (how many rows there are) of the class, M of the reference -/
def lnM (M : Nat → Int → Int → Int) (x k : Int) : Int := M 46 0 (5 * M 55 0 x + k)
def fcM (M : Nat → Int → Int → Int) (x : Int) : Int := M 44 0 (M 55 0 x)
def LvF (Y : Nat → Int → Int → Option Int) (M : Nat → Int → Int → Int) (g r l : Int) : Prop := ∃ x k, 0 ≤ x ∧ x < M 40 0 13 ∧ 0 ≤ k ∧ k < fcM M x ∧ lnM M x k = l ∧ 3 ≤ l ∧ Y 17 x k = some g ∧ M 56 0 (5 * x + k) = r
def LvN (Y : Nat → Int → Int → Option Int) (M : Nat → Int → Int → Int) (g r l : Int) : Prop := ∃ n, 0 ≤ n ∧ n < M 40 0 22 ∧ M 67 0 n < 0 ∧ lnM M (M 64 0 n) (M 65 0 n) = l ∧ 3 ≤ l ∧ Y 28 n 3 = some g ∧ M 68 0 n = r
def LvI (Y : Nat → Int → Int → Option Int) (M : Nat → Int → Int → Int) (g r l : Int) : Prop := ∃ n, 0 ≤ n ∧ n < M 40 0 22 ∧ 0 ≤ M 67 0 n ∧ M 57 0 r = l ∧ 3 ≤ l ∧ Y 28 n 3 = some g ∧ M 66 0 n = r
def Lv (Y : Nat → Int → Int → Option Int) (M : Nat → Int → Int → Int) (g r l : Int) : Prop := LvF Y M g r l ∨ LvN Y M g r l ∨ LvI Y M g r l
def rH (C : Nat → Int → Int → Int) (Y : Nat → Int → Int → Option Int) (M : Nat → Int → Int → Int) : Prop := C 0 0 3 = M 40 0 13 ∧ ∀ x, 0 ≤ x → x < M 40 0 13 → Y 15 x 0 = some (M 55 0 x) ∧ ∀ k, 0 ≤ k → k < fcM M x → (lnM M x k < 3 → C 16 x k = M 56 0 (5 * x + k)) ∧ (3 ≤ lnM M x k → (Y 17 x k = none ↔ M 56 0 (5 * x + k) < 0))
def nOK (C : Nat → Int → Int → Int) (Y : Nat → Int → Int → Option Int) (M : Nat → Int → Int → Int) (n : Int) : Prop := (M 67 0 n < 0 → Y 28 n 0 = some (M 64 0 n) ∧ C 28 n 1 = M 65 0 n ∧ (lnM M (M 64 0 n) (M 65 0 n) < 3 → C 28 n 2 = M 68 0 n) ∧ (3 ≤ lnM M (M 64 0 n) (M 65 0 n) → (Y 28 n 3 = none ↔ M 68 0 n < 0) ∧ M 66 0 n = M 68 0 n)) ∧ (0 ≤ M 67 0 n → Y 28 n 0 = none ∧ Y 28 n 3 ≠ none ∧ C 28 n 1 = M 67 0 n ∧ C 28 n 2 = M 68 0 n ∧ 3 ≤ M 57 0 (M 66 0 n))
def rN (C : Nat → Int → Int → Int) (Y : Nat → Int → Int → Option Int) (M : Nat → Int → Int → Int) : Prop := (∀ m, 0 ≤ m → m < M 40 0 20 → C 31 0 m = M 62 0 m ∧ M 62 0 m ≤ M 40 0 22 ∧ ∀ m', 0 ≤ m' → m' ≤ m → M 62 0 m' ≤ M 62 0 m) ∧ ∀ n, 0 ≤ n → n < M 40 0 22 → nOK C Y M n
def rR (c : Int) (C : Nat → Int → Int → Int) (Y : Nat → Int → Int → Option Int) (ln : Int → Int) (M : Nat → Int → Int → Int) : Prop := (∀ g r l, Lv Y M g r l → 0 ≤ g ∧ g < c ∧ 0 ≤ r ∧ r ≤ 399 ∧ M 57 0 r = l ∧ ln g = M 58 0 r ∧ ∀ i, 0 ≤ i → i < ln g → C 27 g i = M 59 0 (12 * r + i)) ∧ ∀ g r l g' r' l', Lv Y M g r l → Lv Y M g' r' l' → (g = g' ↔ r = r')
def RB (c : Int) (C : Nat → Int → Int → Int) (Y : Nat → Int → Int → Option Int) (ln : Int → Int) (M : Nat → Int → Int → Int) : Prop := rH C Y M ∧ rN C Y M ∧ rR c C Y ln M
/-! what a change leaves as it is -/
def LnL (ln : Int → Int) : Prop := ∀ i, 0 ≤ ln i ∧ ln i ≤ 12
def KpC (C C1 : Nat → Int → Int → Int) (Y Y1 : Nat → Int → Int → Option Int) : Prop := C1 0 0 3 = C 0 0 3 ∧ C1 31 = C 31 ∧ ∀ x, Y1 15 x 0 = Y 15 x 0
def KpM (M M1 : Nat → Int → Int → Int) : Prop := M1 44 = M 44 ∧ M1 46 = M 46 ∧ M1 55 = M 55 ∧ M1 62 = M 62 ∧ M1 40 0 13 = M 40 0 13 ∧ M1 40 0 20 = M 40 0 20
section RL
variable {C C1 M M1 : Nat → Int → Int → Int} {Y Y1 : Nat → Int → Int → Option Int} {ln ln1 : Int → Int} {c c1 : Int}
theorem Frm.fn {α : Type} {L : List Nat} {X X1 : Nat → Int → Int → α} (h : Frm L X X1) (κ : Nat) (hd : ∀ j, fcode κ j ∉ L) : X1 κ = X κ := funext fun i => funext fun j => h κ i j (hd j)
theorem fc_a (κ : Nat) (h : (lay κ).1 = 0) (j : Int) : fcode κ j = κ * 100 := by
  unfold fcode
  rw [if_pos h]
theorem Frm.arr {α : Type} {L : List Nat} {X X1 : Nat → Int → Int → α} (h : Frm L X X1) (κ : Nat) (h0 : (lay κ).1 = 0) (hd : κ * 100 ∉ L) : X1 κ = X κ := h.fn κ (fun j => by rw [fc_a κ h0]; exact hd)
theorem KpM.of {L : List Nat} (h : Frm L M M1) (hd : ∀ q ∈ [4400, 4600, 5500, 6200, 4014, 4021], q ∉ L) : KpM M M1 :=
  ⟨h.arr 44 (by decide +kernel) (hd 4400 (by decide)), h.arr 46 (by decide +kernel) (hd 4600 (by decide)), h.arr 55 (by decide +kernel) (hd 5500 (by decide)), h.arr 62 (by decide +kernel) (hd 6200 (by decide)), h 40 0 13 (hd 4014 (by decide)), h 40 0 20 (hd 4021 (by decide))⟩
theorem KpC.of {L N : List Nat} (h : Frm L C C1) (g : Frm N Y Y1) (hd : ∀ q ∈ [4, 3100], q ∉ L) (he : 1501 ∉ N) : KpC C C1 Y Y1 :=
  ⟨h 0 0 3 (hd 4 (by decide)), h.arr 31 (by decide +kernel) (hd 3100 (by decide)), fun x => g 15 x 0 he⟩
theorem KpM.lnE (h : KpM M M1) : lnM M1 = lnM M := by
  funext x k
  simp only [lnM, h.2.1, h.2.2.1]
theorem KpM.fcE (h : KpM M M1) : fcM M1 = fcM M := by
  funext x
  simp only [fcM, h.1, h.2.2.1]
theorem rR_sub (h : rR c C Y ln M) (hc : c ≤ c1) (hs : ∀ g r l, Lv Y1 M1 g r l → Lv Y M g r l) (hk : ∀ g r l, Lv Y M g r l → M1 57 0 r = l ∧ ln1 g = M1 58 0 r ∧ ∀ i, 0 ≤ i → i < ln1 g → C1 27 g i = M1 59 0 (12 * r + i)) : rR c1 C1 Y1 ln1 M1 := by
  refine ⟨fun g r l hl => ?_, fun g r l g' r' l' h1 h2 => h.2 _ _ _ _ _ _ (hs _ _ _ h1) (hs _ _ _ h2)⟩
  have h1 := hs g r l hl
  obtain ⟨a1, a2, a3, a4, -⟩ := h.1 g r l h1
  obtain ⟨b1, b2, b3⟩ := hk g r l h1
  exact ⟨a1, by omega, a3, a4, b1, b2, b3⟩
theorem rR_new {g0 r0 l0 : Int} (h : rR c C Y ln M) (hc : c ≤ c1) (hs : ∀ g r l, Lv Y1 M1 g r l → Lv Y M g r l ∨ (g = g0 ∧ r = r0 ∧ l = l0)) (hk : ∀ g r l, Lv Y M g r l → M1 57 0 r = l ∧ ln1 g = M1 58 0 r ∧ ∀ i, 0 ≤ i → i < ln1 g → C1 27 g i = M1 59 0 (12 * r + i))
    (hg : 0 ≤ g0 ∧ c ≤ g0 ∧ g0 < c1) (hr : 0 ≤ r0 ∧ r0 ≤ 399) (hfr : ∀ g r l, Lv Y M g r l → r ≠ r0) (hn : M1 57 0 r0 = l0 ∧ ln1 g0 = M1 58 0 r0 ∧ ∀ i, 0 ≤ i → i < ln1 g0 → C1 27 g0 i = M1 59 0 (12 * r0 + i)) : rR c1 C1 Y1 ln1 M1 := by
  refine ⟨fun g r l hl => ?_, fun g r l g' r' l' h1 h2 => ?_⟩
  · rcases hs g r l hl with h1 | ⟨rfl, rfl, rfl⟩
    · obtain ⟨a1, a2, a3, a4, -⟩ := h.1 g r l h1
      obtain ⟨b1, b2, b3⟩ := hk g r l h1
      exact ⟨a1, by omega, a3, a4, b1, b2, b3⟩
    · exact ⟨hg.1, hg.2.2, hr.1, hr.2, hn.1, hn.2.1, hn.2.2⟩
  · rcases hs g r l h1 with a | ⟨rfl, rfl, rfl⟩ <;> rcases hs g' r' l' h2 with b | ⟨rfl, rfl, rfl⟩
    · exact h.2 _ _ _ _ _ _ a b
    · have a2 := (h.1 g r l a).2.1
      have a3 := hfr g r l a
      exact ⟨fun q => by omega, fun q => absurd q a3⟩
    · have a2 := (h.1 g' r' l' b).2.1
      have a3 := hfr g' r' l' b
      exact ⟨fun q => by omega, fun q => absurd q.symm a3⟩
    · exact ⟨fun _ => rfl, fun _ => rfl⟩
/-- rows as they are: what hk of the two lemmas wants, where nothing of a row changed -/
theorem rR_same (h : rR c C Y ln M) (h27 : ∀ g, 0 ≤ g → g < c → C1 27 g = C 27 g) (hln : ∀ g, 0 ≤ g → g < c → ln1 g = ln g) (hm : ∀ g r l, Lv Y M g r l → M1 57 0 r = M 57 0 r ∧ M1 58 0 r = M 58 0 r ∧ ∀ i, 0 ≤ i → i < 12 → M1 59 0 (12 * r + i) = M 59 0 (12 * r + i)) (hl12 : LnL ln) : ∀ g r l, Lv Y M g r l → M1 57 0 r = l ∧ ln1 g = M1 58 0 r ∧ ∀ i, 0 ≤ i → i < ln1 g → C1 27 g i = M1 59 0 (12 * r + i) := by
  intro g r l hv
  obtain ⟨a1, a2, a3, a4, a5, a6, a7⟩ := h.1 g r l hv
  obtain ⟨b1, b2, b3⟩ := hm g r l hv
  rw [hln g a1 a2, h27 g a1 a2]
  refine ⟨by rw [b1]; exact a5, by rw [b2]; exact a6, fun i i0 i1 => ?_⟩
  have := hl12 g
  rw [b3 i i0 (by omega)]
  exact a7 i i0 i1
/-! notes -/
theorem rN_note {x k v ws rw : Int} {ro : Option Int} (h : rN C Y M) (hn : C 29 0 1 = M 40 0 22) (hm : C 29 0 3 = M 40 0 20) (eC : eNoteC C C1 Y Y1 (some x) k v ro) (eM : eNoteM M M1 x k rw (-1) ws) (hl : lnM M1 = lnM M) (h31 : C1 31 = C 31) (h62 : M1 62 = M 62) (h20 : M1 40 0 20 = M 40 0 20) (h57 : ∀ n, 0 ≤ n → n < M 40 0 22 → 0 ≤ M 67 0 n → M1 57 0 (M 66 0 n) = M 57 0 (M 66 0 n)) (hv : lnM M x k < 3 → v = ws) (hr : 3 ≤ lnM M x k → (ro = none ↔ ws < 0) ∧ rw = ws) : rN C1 Y1 M1 ∧ C1 29 0 1 = M1 40 0 22 := by
  obtain ⟨n2, n3⟩ := h
  have hge : M 40 0 22 ≤ M1 40 0 22 := by rcases eM with ⟨-, d1, -⟩ | ⟨-, d1, -⟩ <;> omega
  refine ⟨⟨fun m a b => by
    obtain ⟨q1, q2, q3⟩ := n2 m a (by rw [← h20]; exact b)
    rw [h31, h62]
    exact ⟨q1, by omega, q3⟩, fun n a b => ?_⟩, ?_⟩
  · rcases eC with ⟨c0, c1, c2, c3⟩ | ⟨c0, c1, c2, c3⟩
    · rcases eM with ⟨d0, d1, d2⟩ | ⟨d0, d1, -⟩
      · have h9 := n3 n a (by omega)
        obtain ⟨e1, e2, e3, e4, e5⟩ := d2 n
        have h8 := h57 n a (by omega)
        unfold nOK at *
        rw [e1, e2, e3, e4, e5, hl, c2, c3]
        exact ⟨h9.1, fun q => by rw [h8 q]; exact h9.2 q⟩
      · omega
    · rcases eM with ⟨d0, -⟩ | ⟨d0, d1, d2, d3⟩
      · omega
      · by_cases hn9 : n = M 40 0 22
        · obtain ⟨e1, e2, e3, e4, e5⟩ := d2
          obtain ⟨f1, f2, f3, f4⟩ := c2
          rw [hn] at f1 f2 f3 f4
          subst hn9
          unfold nOK
          rw [e1, e2, e3, e4, e5, f1, f2, f3, f4, hl]
          exact ⟨fun _ => ⟨rfl, rfl, hv, hr⟩, fun q => by omega⟩
        · have h9 := n3 n a (by omega)
          have h8 := h57 n a (by omega)
          obtain ⟨e1, e2, e3, e4, e5⟩ := d3 n hn9
          obtain ⟨f1, f2⟩ := c3 n (by rw [hn]; exact hn9)
          unfold nOK at *
          rw [e1, e2, e3, e4, e5, hl, f1 1, f1 2, f2 0, f2 3]
          exact ⟨h9.1, fun q => by rw [h8 q]; exact h9.2 q⟩
  · rcases eC with ⟨c0, c1, -, -⟩ | ⟨c0, c1, -, -⟩ <;> rcases eM with ⟨d0, d1, -⟩ | ⟨d0, d1, -⟩ <;> omega
/-- the rows of the notes: those of before, or the row that stood at the place -/
theorem Lv_note {x k v rw : Int} (hn : C 29 0 1 = M 40 0 22) (hm : C 29 0 3 = M 40 0 20) (eC : eNoteC C C1 Y Y1 (some x) k v (Y 17 x k)) (eM : eNoteM M M1 x k rw (-1) (M 56 0 (5 * x + k))) (hl : lnM M1 = lnM M) (h57 : ∀ n, 0 ≤ n → n < M 40 0 22 → 0 ≤ M 67 0 n → M1 57 0 (M 66 0 n) = M 57 0 (M 66 0 n)) (hp : 0 ≤ x ∧ x < M 40 0 13 ∧ 0 ≤ k ∧ k < fcM M x) (g r l : Int) (hv : LvN Y1 M1 g r l ∨ LvI Y1 M1 g r l) : Lv Y M g r l := by
  rcases hv with ⟨n, a, b, q67, ql, q3, qy, q68⟩ | ⟨n, a, b, q67, ql, q3, qy, q66⟩
  · rcases eC with ⟨c0, c1, c2, c3⟩ | ⟨c0, c1, c2, c3⟩
    · rcases eM with ⟨d0, d1, d2⟩ | ⟨d0, d1, -⟩
      · obtain ⟨e1, e2, e3, e4, e5⟩ := d2 n
        rw [e1, e2, hl] at ql
        rw [e4] at q67
        rw [c3] at qy
        rw [e5] at q68
        exact Or.inr (Or.inl ⟨n, a, by omega, q67, ql, q3, qy, q68⟩)
      · omega
    · rcases eM with ⟨d0, -⟩ | ⟨d0, d1, d2, d3⟩
      · omega
      · by_cases hn9 : n = M 40 0 22
        · obtain ⟨e1, e2, e3, e4, e5⟩ := d2
          obtain ⟨f1, f2, f3, f4⟩ := c2
          rw [hn] at f4
          subst hn9
          rw [e1, e2, hl] at ql
          rw [e5] at q68
          rw [f4] at qy
          exact Or.inl ⟨x, k, hp.1, hp.2.1, hp.2.2.1, hp.2.2.2, ql, q3, qy, q68⟩
        · obtain ⟨e1, e2, e3, e4, e5⟩ := d3 n hn9
          obtain ⟨f1, f2⟩ := c3 n (by rw [hn]; exact hn9)
          rw [e1, e2, hl] at ql
          rw [e4] at q67
          rw [f2] at qy
          rw [e5] at q68
          exact Or.inr (Or.inl ⟨n, a, by omega, q67, ql, q3, qy, q68⟩)
  · rcases eC with ⟨c0, c1, c2, c3⟩ | ⟨c0, c1, c2, c3⟩
    · rcases eM with ⟨d0, d1, d2⟩ | ⟨d0, d1, -⟩
      · obtain ⟨e1, e2, e3, e4, e5⟩ := d2 n
        rw [e3] at q66
        rw [e4] at q67
        rw [c3] at qy
        have h8 := h57 n a (by omega) q67
        rw [q66] at h8
        exact Or.inr (Or.inr ⟨n, a, by omega, q67, by rw [← h8]; exact ql, q3, qy, q66⟩)
      · omega
    · rcases eM with ⟨d0, -⟩ | ⟨d0, d1, d2, d3⟩
      · omega
      · by_cases hn9 : n = M 40 0 22
        · obtain ⟨e1, e2, e3, e4, e5⟩ := d2
          subst hn9
          omega
        · obtain ⟨e1, e2, e3, e4, e5⟩ := d3 n hn9
          obtain ⟨f1, f2⟩ := c3 n (by rw [hn]; exact hn9)
          rw [e3] at q66
          rw [e4] at q67
          rw [f2] at qy
          have h8 := h57 n a (by omega) q67
          rw [q66] at h8
          exact Or.inr (Or.inr ⟨n, a, by omega, q67, by rw [← h8]; exact ql, q3, qy, q66⟩)
/-- a value changes that is no row -/
theorem RB_val {x k v rw : Int} (h : RB c C Y ln M) (hn : C 29 0 1 = M 40 0 22) (hm : C 29 0 3 = M 40 0 20) (kC : KpC C C1 Y Y1) (kM : KpM M M1) (hf : ∀ y, fcM M y ≤ 5) (hp : 0 ≤ x ∧ x < M 40 0 13 ∧ 0 ≤ k ∧ k < fcM M x) (hl3 : lnM M x k < 3)
    (eC : eNoteC C C1 Y Y1 (some x) k (C 16 x k) (Y 17 x k)) (hv : C1 16 x k = v) (ho : ∀ y j, ¬ (y = x ∧ j = k) → C1 16 y j = C 16 y j) (h17 : ∀ y j, Y1 17 y j = Y 17 y j) (h27 : C1 27 = C 27)
    (eM : eNoteM M M1 x k rw (-1) (M 56 0 (5 * x + k))) (hv2 : M1 56 0 (5 * x + k) = v) (ho2 : ∀ p, p ≠ 5 * x + k → M1 56 0 p = M 56 0 p) (h57 : M1 57 = M 57) (h58 : M1 58 = M 58) (h59 : M1 59 = M 59) (hl12 : LnL ln) : RB c C1 Y1 ln M1 ∧ C1 29 0 1 = M1 40 0 22 := by
  obtain ⟨h1, h2, h3⟩ := h
  have hl := kM.lnE
  have hc := kM.fcE
  obtain ⟨-, -, k55, k62, k13, k20⟩ := id kM
  obtain ⟨kc3, k31, k15⟩ := kC
  have hq := (h1.2 x hp.1 hp.2.1).2 k hp.2.2.1 hp.2.2.2
  have h57' : ∀ n, 0 ≤ n → n < M 40 0 22 → 0 ≤ M 67 0 n → M1 57 0 (M 66 0 n) = M 57 0 (M 66 0 n) := fun n _ _ _ => by rw [h57]
  have hN := rN_note h2 hn hm eC eM hl k31 k62 k20 h57' (fun q => hq.1 q) (fun q => by omega)
  refine ⟨⟨⟨by rw [kc3, k13]; exact h1.1, fun y y0 y1 => ?_⟩, hN.1, ?_⟩, hN.2⟩
  · rw [k13] at y1
    obtain ⟨a1, a2⟩ := h1.2 y y0 y1
    rw [k15, k55, hl, hc]
    refine ⟨a1, fun j j0 j1 => ?_⟩
    obtain ⟨b1, b2⟩ := a2 j j0 j1
    have := hf y
    have := hf x
    rw [h17]
    by_cases e : y = x ∧ j = k
    · obtain ⟨rfl, rfl⟩ := e
      exact ⟨fun _ => by rw [hv, hv2], fun q => by omega⟩
    · rw [ho y j e, ho2 _ (by omega)]
      exact ⟨b1, b2⟩
  · refine rR_sub h3 (Int.le_refl _) (fun g r l hg => ?_) (rR_same h3 (fun g _ _ => by rw [h27]) (fun _ _ _ => rfl) (fun g r l _ => ⟨by rw [h57], by rw [h58], fun i _ _ => by rw [h59]⟩) hl12)
    rcases hg with ⟨y, j, y0, y1, j0, j1, jl, l3, jy, jr⟩ | hg
    · rw [k13] at y1
      rw [hc] at j1
      rw [hl] at jl
      rw [h17] at jy
      have := hf y
      have := hf x
      have e : ¬ (y = x ∧ j = k) := fun e => by
        obtain ⟨rfl, rfl⟩ := e
        omega
      rw [ho2 _ (by omega)] at jr
      exact Or.inl ⟨y, j, y0, y1, j0, j1, jl, l3, jy, jr⟩
    · exact Lv_note hn hm eC eM hl h57' hp g r l hg
/-- a row comes to a place of rows: one that lived, a new one, or none -/
theorem RB_row {x k v c1 g0 r0 : Int} {ro : Option Int} (h : RB c C Y ln M) (hn : C 29 0 1 = M 40 0 22) (hm : C 29 0 3 = M 40 0 20) (kC : KpC C C1 Y Y1) (kM : KpM M M1) (hf : ∀ y, fcM M y ≤ 5) (hp : 0 ≤ x ∧ x < M 40 0 13 ∧ 0 ≤ k ∧ k < fcM M x) (hl3 : 3 ≤ lnM M x k)
    (eC : eNoteC C C1 Y Y1 (some x) k v (Y 17 x k)) (hv : Y1 17 x k = ro) (ho : ∀ y j, ¬ (y = x ∧ j = k) → Y1 17 y j = Y 17 y j) (h16 : ∀ y j, C1 16 y j = C 16 y j)
    (eM : eNoteM M M1 x k (M 56 0 (5 * x + k)) (-1) (M 56 0 (5 * x + k))) (hv2 : M1 56 0 (5 * x + k) = r0) (ho2 : ∀ p, p ≠ 5 * x + k → M1 56 0 p = M 56 0 p) (hnone : ro = none ↔ r0 < 0)
    (hc : 0 ≤ c ∧ c ≤ c1) (hkp : ∀ g r l, Lv Y M g r l → M1 57 0 r = l ∧ ln1 g = M1 58 0 r ∧ ∀ i, 0 ≤ i → i < ln1 g → C1 27 g i = M1 59 0 (12 * r + i)) (h57' : ∀ n, 0 ≤ n → n < M 40 0 22 → 0 ≤ M 67 0 n → M1 57 0 (M 66 0 n) = M 57 0 (M 66 0 n))
    (hcase : ro = none ∨ (ro = some g0 ∧ Lv Y M g0 r0 (lnM M x k)) ∨ (ro = some g0 ∧ (c ≤ g0 ∧ g0 < c1) ∧ (0 ≤ r0 ∧ r0 ≤ 399) ∧ (∀ g r l, Lv Y M g r l → r ≠ r0) ∧ M1 57 0 r0 = lnM M x k ∧ ln1 g0 = M1 58 0 r0 ∧ ∀ i, 0 ≤ i → i < ln1 g0 → C1 27 g0 i = M1 59 0 (12 * r0 + i))) : RB c1 C1 Y1 ln1 M1 ∧ C1 29 0 1 = M1 40 0 22 := by
  obtain ⟨h1, h2, h3⟩ := h
  have hl := kM.lnE
  have hcf := kM.fcE
  obtain ⟨-, -, k55, k62, k13, k20⟩ := id kM
  obtain ⟨kc3, k31, k15⟩ := kC
  have hq := (h1.2 x hp.1 hp.2.1).2 k hp.2.2.1 hp.2.2.2
  have hN := rN_note h2 hn hm eC eM hl k31 k62 k20 h57' (fun q => by omega) (fun q => ⟨hq.2 q, rfl⟩)
  have hsub : ∀ g r l, Lv Y1 M1 g r l → Lv Y M g r l ∨ (ro = some g ∧ r = r0 ∧ l = lnM M x k) := by
    intro g r l hg
    rcases hg with ⟨y, j, y0, y1, j0, j1, jl, l3, jy, jr⟩ | hg
    · rw [k13] at y1
      rw [hcf] at j1
      rw [hl] at jl
      have := hf y
      have := hf x
      by_cases e : y = x ∧ j = k
      · obtain ⟨rfl, rfl⟩ := e
        exact Or.inr ⟨by rw [← hv]; exact jy, by rw [← hv2]; exact jr.symm, jl.symm⟩
      · rw [ho y j e] at jy
        rw [ho2 _ (by omega)] at jr
        exact Or.inl (Or.inl ⟨y, j, y0, y1, j0, j1, jl, l3, jy, jr⟩)
    · exact Or.inl (Lv_note hn hm eC eM hl h57' hp g r l hg)
  refine ⟨⟨⟨by rw [kc3, k13]; exact h1.1, fun y y0 y1 => ?_⟩, hN.1, ?_⟩, hN.2⟩
  · rw [k13] at y1
    obtain ⟨a1, a2⟩ := h1.2 y y0 y1
    rw [k15, k55, hl, hcf]
    refine ⟨a1, fun j j0 j1 => ?_⟩
    obtain ⟨b1, b2⟩ := a2 j j0 j1
    have := hf y
    have := hf x
    rw [h16]
    by_cases e : y = x ∧ j = k
    · obtain ⟨rfl, rfl⟩ := e
      exact ⟨fun q => by omega, fun _ => by rw [hv, hv2]; exact hnone⟩
    · rw [ho y j e, ho2 _ (by omega)]
      exact ⟨b1, b2⟩
  · rcases hcase with e | ⟨e, hL⟩ | ⟨e, hg0, hr0, hfr, hn1, hn2, hn3⟩
    · refine rR_sub h3 hc.2 (fun g r l hg => ?_) hkp
      rcases hsub g r l hg with q | ⟨q, -, -⟩
      · exact q
      · rw [e] at q
        cases q
    · refine rR_sub h3 hc.2 (fun g r l hg => ?_) hkp
      rcases hsub g r l hg with q | ⟨q, q1, q2⟩
      · exact q
      · rw [e] at q
        cases q
        rw [q1, q2]
        exact hL
    · refine rR_new (g0 := g0) (r0 := r0) (l0 := lnM M x k) h3 hc.2 (fun g r l hg => ?_) hkp ⟨by omega, hg0.1, hg0.2⟩ hr0 hfr ⟨hn1, hn2, hn3⟩
      rcases hsub g r l hg with q | ⟨q, q1, q2⟩
      · exact Or.inl q
      · rw [e] at q
        cases q
        exact Or.inr ⟨rfl, q1, q2⟩
end RL
end
section
theorem u3_ij2 {α : Type} {Z : Nat → Int → Int → α} {k : Nat} {i j i1 j1 : Int} {v : α} (h : ¬ (i1 = i ∧ j1 = j)) : u3 Z k i j v k i1 j1 = Z k i1 j1 := by
  simp only [u3]
  rw [if_neg (fun q => h q.2)]
/-! an item changes, notes are taken back, things come and go, types change -/
section RO
variable {C C1 M M1 : Nat → Int → Int → Int} {Y Y1 : Nat → Int → Int → Option Int} {ln ln1 : Int → Int} {c c1 : Int}
theorem rN_item {g i v ws r th fd : Int} (h : rN C Y M) (hn : C 29 0 1 = M 40 0 22) (hm : C 29 0 3 = M 40 0 20) (eC : eNoteC C C1 Y Y1 none i v (some g)) (eM : eNoteM M M1 th fd r i ws) (hl : lnM M1 = lnM M) (h31 : C1 31 = C 31) (h62 : M1 62 = M 62) (h20 : M1 40 0 20 = M 40 0 20) (h57 : M1 57 = M 57) (hi : 0 ≤ i) (hv : v = ws) (h3 : 3 ≤ M 57 0 r) : rN C1 Y1 M1 ∧ C1 29 0 1 = M1 40 0 22 := by
  obtain ⟨n2, n3⟩ := h
  have hge : M 40 0 22 ≤ M1 40 0 22 := by rcases eM with ⟨-, d1, -⟩ | ⟨-, d1, -⟩ <;> omega
  refine ⟨⟨fun m a b => by
    obtain ⟨q1, q2, q3⟩ := n2 m a (by rw [← h20]; exact b)
    rw [h31, h62]
    exact ⟨q1, by omega, q3⟩, fun n a b => ?_⟩, ?_⟩
  · rcases eC with ⟨c0, c1, c2, c3⟩ | ⟨c0, c1, c2, c3⟩
    · rcases eM with ⟨d0, d1, d2⟩ | ⟨d0, d1, -⟩
      · have h9 := n3 n a (by omega)
        obtain ⟨e1, e2, e3, e4, e5⟩ := d2 n
        unfold nOK at *
        rw [e1, e2, e3, e4, e5, hl, c2, c3, h57]
        exact h9
      · omega
    · rcases eM with ⟨d0, -⟩ | ⟨d0, d1, d2, d3⟩
      · omega
      · by_cases hn9 : n = M 40 0 22
        · obtain ⟨e1, e2, e3, e4, e5⟩ := d2
          obtain ⟨f1, f2, f3, f4⟩ := c2
          rw [hn] at f1 f2 f3 f4
          subst hn9
          unfold nOK
          rw [e3, e4, e5, f1, f2, f3, f4, h57]
          exact ⟨fun q => by omega, fun _ => ⟨rfl, fun q => (by cases q), rfl, hv, h3⟩⟩
        · have h9 := n3 n a (by omega)
          obtain ⟨e1, e2, e3, e4, e5⟩ := d3 n hn9
          obtain ⟨f1, f2⟩ := c3 n (by rw [hn]; exact hn9)
          unfold nOK at *
          rw [e1, e2, e3, e4, e5, hl, f1 1, f1 2, f2 0, f2 3, h57]
          exact h9
  · rcases eC with ⟨c0, c1, -, -⟩ | ⟨c0, c1, -, -⟩ <;> rcases eM with ⟨d0, d1, -⟩ | ⟨d0, d1, -⟩ <;> omega
theorem Lv_item {g i v ws r th fd : Int} (hn : C 29 0 1 = M 40 0 22) (hm : C 29 0 3 = M 40 0 20) (eC : eNoteC C C1 Y Y1 none i v (some g)) (eM : eNoteM M M1 th fd r i ws) (hl : lnM M1 = lnM M) (h57 : M1 57 = M 57) (hi : 0 ≤ i) (hL : Lv Y M g r (M 57 0 r)) (g' r' l' : Int) (hv : LvN Y1 M1 g' r' l' ∨ LvI Y1 M1 g' r' l') : Lv Y M g' r' l' := by
  rcases hv with ⟨n, a, b, q67, ql, q3, qy, q68⟩ | ⟨n, a, b, q67, ql, q3, qy, q66⟩
  · rcases eC with ⟨c0, c1, c2, c3⟩ | ⟨c0, c1, c2, c3⟩
    · rcases eM with ⟨d0, d1, d2⟩ | ⟨d0, d1, -⟩
      · obtain ⟨e1, e2, e3, e4, e5⟩ := d2 n
        rw [e1, e2, hl] at ql
        rw [e4] at q67
        rw [c3] at qy
        rw [e5] at q68
        exact Or.inr (Or.inl ⟨n, a, by omega, q67, ql, q3, qy, q68⟩)
      · omega
    · rcases eM with ⟨d0, -⟩ | ⟨d0, d1, d2, d3⟩
      · omega
      · by_cases hn9 : n = M 40 0 22
        · obtain ⟨e1, e2, e3, e4, e5⟩ := d2
          subst hn9
          omega
        · obtain ⟨e1, e2, e3, e4, e5⟩ := d3 n hn9
          obtain ⟨f1, f2⟩ := c3 n (by rw [hn]; exact hn9)
          rw [e1, e2, hl] at ql
          rw [e4] at q67
          rw [f2] at qy
          rw [e5] at q68
          exact Or.inr (Or.inl ⟨n, a, by omega, q67, ql, q3, qy, q68⟩)
  · rw [h57] at ql
    rcases eC with ⟨c0, c1, c2, c3⟩ | ⟨c0, c1, c2, c3⟩
    · rcases eM with ⟨d0, d1, d2⟩ | ⟨d0, d1, -⟩
      · obtain ⟨e1, e2, e3, e4, e5⟩ := d2 n
        rw [e3] at q66
        rw [e4] at q67
        rw [c3] at qy
        exact Or.inr (Or.inr ⟨n, a, by omega, q67, ql, q3, qy, q66⟩)
      · omega
    · rcases eM with ⟨d0, -⟩ | ⟨d0, d1, d2, d3⟩
      · omega
      · by_cases hn9 : n = M 40 0 22
        · obtain ⟨e1, e2, e3, e4, e5⟩ := d2
          obtain ⟨f1, f2, f3, f4⟩ := c2
          rw [hn] at f4
          subst hn9
          rw [f4] at qy
          rw [e3] at q66
          cases qy
          subst q66
          rw [← ql]
          exact hL
        · obtain ⟨e1, e2, e3, e4, e5⟩ := d3 n hn9
          obtain ⟨f1, f2⟩ := c3 n (by rw [hn]; exact hn9)
          rw [e3] at q66
          rw [e4] at q67
          rw [f2] at qy
          exact Or.inr (Or.inr ⟨n, a, by omega, q67, ql, q3, qy, q66⟩)
/-- rows of which one item became the same on both sides -/
theorem rR_one {g r i w l0 : Int} (h : rR c C Y ln M) (hL : Lv Y M g r l0) (hi : 0 ≤ i ∧ i < 12) (hw : C1 27 g i = w) (ho : ∀ y j, ¬ (y = g ∧ j = i) → C1 27 y j = C 27 y j) (hw2 : M1 59 0 (12 * r + i) = w) (ho2 : ∀ p, p ≠ 12 * r + i → M1 59 0 p = M 59 0 p) (h57 : M1 57 = M 57) (h58 : M1 58 = M 58) (hl12 : LnL ln) : ∀ g r l, Lv Y M g r l → M1 57 0 r = l ∧ ln g = M1 58 0 r ∧ ∀ i, 0 ≤ i → i < ln g → C1 27 g i = M1 59 0 (12 * r + i) := by
  intro g' r' l' hv
  obtain ⟨a1, a2, a3, a4, a5, a6, a7⟩ := h.1 g' r' l' hv
  have hio := h.2 _ _ _ _ _ _ hv hL
  rw [h57, h58]
  refine ⟨a5, a6, fun j j0 j1 => ?_⟩
  have := hl12 g'
  by_cases e : g' = g
  · have er := hio.mp e
    subst e
    subst er
    by_cases ej : j = i
    · rw [ej, hw, hw2]
    · rw [ho _ _ (fun q => ej q.2), ho2 _ (by omega)]
      exact a7 j j0 j1
  · have er : r' ≠ r := fun q => e (hio.mpr q)
    rw [ho _ _ (fun q => e q.1), ho2 _ (by omega)]
    exact a7 j j0 j1
theorem RB_item {x k g r i w th fd : Int} (h : RB c C Y ln M) (hn : C 29 0 1 = M 40 0 22) (hm : C 29 0 3 = M 40 0 20) (kC : KpC C C1 Y Y1) (kM : KpM M M1) (hp : 0 ≤ x ∧ x < M 40 0 13 ∧ 0 ≤ k ∧ k < fcM M x) (hl3 : 3 ≤ lnM M x k) (hg : Y 17 x k = some g) (hr : M 56 0 (5 * x + k) = r) (hi : 0 ≤ i ∧ i < 12)
    (eC : eNoteC C C1 Y Y1 none i (C 27 g i) (some g)) (hw : C1 27 g i = w) (ho : ∀ y j, ¬ (y = g ∧ j = i) → C1 27 y j = C 27 y j) (h16 : C1 16 = C 16) (h17 : Y1 17 = Y 17)
    (eM : eNoteM M M1 th fd r i (M 59 0 (12 * r + i))) (hw2 : M1 59 0 (12 * r + i) = w) (ho2 : ∀ p, p ≠ 12 * r + i → M1 59 0 p = M 59 0 p) (h56 : M1 56 = M 56) (h57 : M1 57 = M 57) (h58 : M1 58 = M 58) (hil : i < ln g) (hl12 : LnL ln) : RB c C1 Y1 ln M1 ∧ C1 29 0 1 = M1 40 0 22 := by
  obtain ⟨h1, h2, h3⟩ := h
  have hl := kM.lnE
  have hcf := kM.fcE
  obtain ⟨-, -, k55, k62, k13, k20⟩ := id kM
  obtain ⟨kc3, k31, k15⟩ := kC
  have hL : Lv Y M g r (lnM M x k) := Or.inl ⟨x, k, hp.1, hp.2.1, hp.2.2.1, hp.2.2.2, rfl, hl3, hg, hr⟩
  obtain ⟨a1, a2, a3, a4, a5, a6, a7⟩ := h3.1 _ _ _ hL
  have hN := rN_item h2 hn hm eC eM hl k31 k62 k20 h57 hi.1 (a7 i hi.1 hil) (by rw [a5]; exact hl3)
  refine ⟨⟨⟨by rw [kc3, k13]; exact h1.1, fun y y0 y1 => ?_⟩, hN.1, ?_⟩, hN.2⟩
  · rw [k13] at y1
    rw [k15, k55, hl, hcf, h16, h17, h56]
    exact h1.2 y y0 y1
  · refine rR_sub h3 (Int.le_refl _) (fun g' r' l' hv => ?_) (rR_one h3 hL hi hw ho hw2 ho2 h57 h58 hl12)
    rcases hv with ⟨y, j, y0, y1, j0, j1, jl, l3, jy, jr⟩ | hv
    · rw [k13] at y1
      rw [hcf] at j1
      rw [hl] at jl
      rw [h17] at jy
      rw [h56] at jr
      exact Or.inl ⟨y, j, y0, y1, j0, j1, jl, l3, jy, jr⟩
    · exact Lv_item hn hm eC eM hl h57 hi.1 (by rw [a5]; exact hL) g' r' l' hv
/-! taking back -/
def uStC (n : Int) (C C1 : Nat → Int → Int → Int) (Y Y1 : Nat → Int → Int → Option Int) : Prop := (∃ x, Y 28 n 0 = some x ∧ C1 = u3 C 16 x (C 28 n 1) (C 28 n 2) ∧ Y1 = u3 Y 17 x (C 28 n 1) (Y 28 n 3)) ∨ (Y 28 n 0 = none ∧ ∃ g, Y 28 n 3 = some g ∧ C1 = u3 C 27 g (C 28 n 1) (C 28 n 2) ∧ Y1 = Y) ∨ (Y 28 n 0 = none ∧ Y 28 n 3 = none ∧ C1 = C ∧ Y1 = Y)
def uStM (n : Int) (M M1 : Nat → Int → Int → Int) : Prop := M 40 0 22 = n + 1 ∧ ((M 67 0 n < 0 ∧ M1 = u3 (u3 M 40 0 22 n) 56 0 (5 * M 64 0 n + M 65 0 n) (M 68 0 n)) ∨ (0 ≤ M 67 0 n ∧ M1 = u3 (u3 M 40 0 22 n) 59 0 (12 * M 66 0 n + M 67 0 n) (M 68 0 n)))
def uTrC (N : Int) : Nat → (Nat → Int → Int → Int) → (Nat → Int → Int → Option Int) → (Nat → Int → Int → Int) → (Nat → Int → Int → Option Int) → Prop
  | 0, C, Y, C1, Y1 => C1 = C ∧ Y1 = Y
  | j + 1, C, Y, C1, Y1 => ∃ C' Y', uTrC N j C Y C' Y' ∧ uStC (N - 1 - (j : Int)) C' C1 Y' Y1
def uTrM (N : Int) : Nat → (Nat → Int → Int → Int) → (Nat → Int → Int → Int) → Prop
  | 0, M, M1 => M1 = M
  | j + 1, M, M1 => ∃ M', uTrM N j M M' ∧ uStM (N - 1 - (j : Int)) M' M1
/-- what undoing leaves as it is -/
def uKp (C C1 : Nat → Int → Int → Int) (Y Y1 : Nat → Int → Int → Option Int) (M M1 : Nat → Int → Int → Int) : Prop := C1 28 = C 28 ∧ Y1 28 = Y 28 ∧ KpC C C1 Y Y1 ∧ KpM M M1 ∧ M1 64 = M 64 ∧ M1 65 = M 65 ∧ M1 66 = M 66 ∧ M1 67 = M 67 ∧ M1 68 = M 68 ∧ M1 57 = M 57 ∧ M1 58 = M 58
theorem RB_undo1 {n : Int} (h : RB c C Y ln M) (h0 : 0 ≤ n) (eC : uStC n C C1 Y Y1) (eM : uStM n M M1) (hp : M 67 0 n < 0 → 0 ≤ M 64 0 n ∧ M 64 0 n < M 40 0 13 ∧ 0 ≤ M 65 0 n ∧ M 65 0 n < fcM M (M 64 0 n)) (hi : M 67 0 n < 12) (hf : ∀ y, fcM M y ≤ 5) (hl12 : LnL ln) (hms : ∀ m, 0 ≤ m → m < M 40 0 20 → M 62 0 m ≤ n) : RB c C1 Y1 ln M1 ∧ M1 40 0 22 = n ∧ uKp C C1 Y Y1 M M1 := by
  obtain ⟨h1, h2, h3⟩ := h
  obtain ⟨e0, eM⟩ := eM
  have hnk := h2.2 n h0 (by omega)
  have kk : ∀ {α : Type} (Z : Nat → Int → Int → α) (k k' : Nat) (i j : Int) (v : α), k' ≠ k → u3 Z k i j v k' = Z k' := fun Z k k' i j v hk => u3_k _ _ _ _ hk
  rcases eM with ⟨q67, eM⟩ | ⟨q67, eM⟩
  · obtain ⟨p0, p1, p2, p3⟩ := hp q67
    obtain ⟨t1, t2, t3, t4⟩ := hnk.1 q67
    rcases eC with ⟨x, ex, eC, eY⟩ | ⟨ex, -⟩ | ⟨ex, -⟩
    · rw [t1] at ex
      cases ex
      rw [t2] at eC eY
      have m56 : ∀ j, j ≠ 5 * M 64 0 n + M 65 0 n → M1 56 0 j = M 56 0 j := fun j hj => by rw [eM, u3_j _ _ _ _ hj, u3_k _ _ _ _ (by decide)]
      have m56s : M1 56 0 (5 * M 64 0 n + M 65 0 n) = M 68 0 n := by rw [eM, u3_s]
      have mk : ∀ k' : Nat, k' ≠ 40 → k' ≠ 56 → M1 k' = M k' := fun k' a b => by rw [eM, u3_k _ _ _ _ b, u3_k _ _ _ _ a]
      have m22 : M1 40 0 22 = n := by rw [eM, u3_k _ _ _ _ (by decide), u3_s]
      have m13 : M1 40 0 13 = M 40 0 13 := by rw [eM, u3_k _ _ _ _ (by decide), u3_j _ _ _ _ (by decide)]
      have m20 : M1 40 0 20 = M 40 0 20 := by rw [eM, u3_k _ _ _ _ (by decide), u3_j _ _ _ _ (by decide)]
      have ck : ∀ k' : Nat, k' ≠ 16 → C1 k' = C k' := fun k' a => by rw [eC, u3_k _ _ _ _ a]
      have yk : ∀ k' : Nat, k' ≠ 17 → Y1 k' = Y k' := fun k' a => by rw [eY, u3_k _ _ _ _ a]
      have kM : KpM M M1 := ⟨mk 44 (by decide) (by decide), mk 46 (by decide) (by decide), mk 55 (by decide) (by decide), mk 62 (by decide) (by decide), m13, m20⟩
      have kC : KpC C C1 Y Y1 := ⟨by rw [ck 0 (by decide)], ck 31 (by decide), fun x => by rw [yk 15 (by decide)]⟩
      have hl := kM.lnE
      have hcf := kM.fcE
      refine ⟨⟨⟨by rw [kC.1, m13]; exact h1.1, fun y y0 y1 => ?_⟩, ⟨fun m a b => ?_, fun m a b => ?_⟩, ?_⟩, m22, ck 28 (by decide), yk 28 (by decide), kC, kM, mk 64 (by decide) (by decide), mk 65 (by decide) (by decide), mk 66 (by decide) (by decide), mk 67 (by decide) (by decide), mk 68 (by decide) (by decide), mk 57 (by decide) (by decide), mk 58 (by decide) (by decide)⟩
      · rw [m13] at y1
        obtain ⟨a1, a2⟩ := h1.2 y y0 y1
        rw [kC.2.2, kM.2.2.1, hl, hcf]
        refine ⟨a1, fun j j0 j1 => ?_⟩
        have := hf y
        have := hf (M 64 0 n)
        by_cases e : y = M 64 0 n ∧ j = M 65 0 n
        · obtain ⟨rfl, rfl⟩ := e
          rw [m56s, eC, u3_s, eY, u3_s]
          exact ⟨t3, fun q => (t4 q).1⟩
        · rw [m56 _ (by omega), eC, u3_ij2 e, eY, u3_ij2 e]
          exact a2 j j0 j1
      · rw [m20] at b
        rw [kC.2.1, kM.2.2.2.1, m22]
        obtain ⟨w1, w2, w3⟩ := h2.1 m a b
        exact ⟨w1, hms m a b, w3⟩
      · have h9 := h2.2 m a (by omega)
        unfold nOK at *
        rw [mk 64 (by decide) (by decide), mk 65 (by decide) (by decide), mk 66 (by decide) (by decide), mk 67 (by decide) (by decide), mk 68 (by decide) (by decide), mk 57 (by decide) (by decide), hl, ck 28 (by decide), yk 28 (by decide)]
        exact h9
      · refine rR_sub h3 (Int.le_refl _) (fun g r l hv => ?_) (rR_same h3 (fun g _ _ => by rw [ck 27 (by decide)]) (fun _ _ _ => rfl) (fun g r l _ => ⟨by rw [mk 57 (by decide) (by decide)], by rw [mk 58 (by decide) (by decide)], fun i _ _ => by rw [mk 59 (by decide) (by decide)]⟩) hl12)
        rcases hv with ⟨y, j, y0, y1, j0, j1, jl, l3, jy, jr⟩ | ⟨m, a, b, q, ql, q3, qy, q68⟩ | ⟨m, a, b, q, ql, q3, qy, q66⟩
        · rw [m13] at y1
          rw [hcf] at j1
          rw [hl] at jl
          have := hf y
          have := hf (M 64 0 n)
          by_cases e : y = M 64 0 n ∧ j = M 65 0 n
          · obtain ⟨rfl, rfl⟩ := e
            rw [m56s] at jr
            rw [eY, u3_s] at jy
            exact Or.inr (Or.inl ⟨n, h0, by omega, q67, jl, l3, jy, jr⟩)
          · rw [m56 _ (by omega)] at jr
            rw [eY, u3_ij2 e] at jy
            exact Or.inl ⟨y, j, y0, y1, j0, j1, jl, l3, jy, jr⟩
        · rw [mk 67 (by decide) (by decide)] at q
          rw [mk 64 (by decide) (by decide), mk 65 (by decide) (by decide), hl] at ql
          rw [yk 28 (by decide)] at qy
          rw [mk 68 (by decide) (by decide)] at q68
          exact Or.inr (Or.inl ⟨m, a, by omega, q, ql, q3, qy, q68⟩)
        · rw [mk 67 (by decide) (by decide)] at q
          rw [mk 57 (by decide) (by decide)] at ql
          rw [yk 28 (by decide)] at qy
          rw [mk 66 (by decide) (by decide)] at q66
          exact Or.inr (Or.inr ⟨m, a, by omega, q, ql, q3, qy, q66⟩)
    · rw [t1] at ex
      cases ex
    · rw [t1] at ex
      cases ex
  · obtain ⟨t1, t2, t3, t4, t5⟩ := hnk.2 q67
    rcases eC with ⟨x, ex, -⟩ | ⟨-, g, ex, eC, eY⟩ | ⟨-, ex, -⟩
    · rw [t1] at ex
      cases ex
    · rw [t3, t4] at eC
      have mk : ∀ k' : Nat, k' ≠ 40 → k' ≠ 59 → M1 k' = M k' := fun k' a b => by rw [eM, u3_k _ _ _ _ b, u3_k _ _ _ _ a]
      have m22 : M1 40 0 22 = n := by rw [eM, u3_k _ _ _ _ (by decide), u3_s]
      have m13 : M1 40 0 13 = M 40 0 13 := by rw [eM, u3_k _ _ _ _ (by decide), u3_j _ _ _ _ (by decide)]
      have m20 : M1 40 0 20 = M 40 0 20 := by rw [eM, u3_k _ _ _ _ (by decide), u3_j _ _ _ _ (by decide)]
      have ck : ∀ k' : Nat, k' ≠ 27 → C1 k' = C k' := fun k' a => by rw [eC, u3_k _ _ _ _ a]
      have kM : KpM M M1 := ⟨mk 44 (by decide) (by decide), mk 46 (by decide) (by decide), mk 55 (by decide) (by decide), mk 62 (by decide) (by decide), m13, m20⟩
      have kC : KpC C C1 Y Y1 := ⟨by rw [ck 0 (by decide)], ck 31 (by decide), fun x => by rw [eY]⟩
      have hl := kM.lnE
      have hcf := kM.fcE
      have hL : Lv Y M g (M 66 0 n) (M 57 0 (M 66 0 n)) := Or.inr (Or.inr ⟨n, h0, by omega, q67, rfl, t5, ex, rfl⟩)
      refine ⟨⟨⟨by rw [kC.1, m13]; exact h1.1, fun y y0 y1 => ?_⟩, ⟨fun m a b => ?_, fun m a b => ?_⟩, ?_⟩, m22, ck 28 (by decide), by rw [eY], kC, kM, mk 64 (by decide) (by decide), mk 65 (by decide) (by decide), mk 66 (by decide) (by decide), mk 67 (by decide) (by decide), mk 68 (by decide) (by decide), mk 57 (by decide) (by decide), mk 58 (by decide) (by decide)⟩
      · rw [m13] at y1
        rw [kM.2.2.1, hl, hcf, mk 56 (by decide) (by decide), ck 16 (by decide), eY]
        exact h1.2 y y0 y1
      · rw [m20] at b
        rw [kC.2.1, kM.2.2.2.1, m22]
        obtain ⟨w1, w2, w3⟩ := h2.1 m a b
        exact ⟨w1, hms m a b, w3⟩
      · have h9 := h2.2 m a (by omega)
        unfold nOK at *
        rw [mk 64 (by decide) (by decide), mk 65 (by decide) (by decide), mk 66 (by decide) (by decide), mk 67 (by decide) (by decide), mk 68 (by decide) (by decide), mk 57 (by decide) (by decide), hl, ck 28 (by decide), eY]
        exact h9
      · refine rR_sub h3 (Int.le_refl _) (fun g' r l hv => ?_) (rR_one (w := M 68 0 n) h3 hL ⟨q67, hi⟩ (by rw [eC, u3_s]) (fun y j e => by rw [eC, u3_ij2 e]) (by rw [eM, u3_s]) (fun p e => by rw [eM, u3_j _ _ _ _ e, u3_k _ _ _ _ (by decide)]) (mk 57 (by decide) (by decide)) (mk 58 (by decide) (by decide)) hl12)
        rcases hv with ⟨y, j, y0, y1, j0, j1, jl, l3, jy, jr⟩ | ⟨m, a, b, q, ql, q3, qy, q68⟩ | ⟨m, a, b, q, ql, q3, qy, q66⟩
        · rw [m13] at y1
          rw [hcf] at j1
          rw [hl] at jl
          rw [mk 56 (by decide) (by decide)] at jr
          rw [eY] at jy
          exact Or.inl ⟨y, j, y0, y1, j0, j1, jl, l3, jy, jr⟩
        · rw [mk 67 (by decide) (by decide)] at q
          rw [mk 64 (by decide) (by decide), mk 65 (by decide) (by decide), hl] at ql
          rw [eY] at qy
          rw [mk 68 (by decide) (by decide)] at q68
          exact Or.inr (Or.inl ⟨m, a, by omega, q, ql, q3, qy, q68⟩)
        · rw [mk 67 (by decide) (by decide)] at q
          rw [mk 57 (by decide) (by decide)] at ql
          rw [eY] at qy
          rw [mk 66 (by decide) (by decide)] at q66
          exact Or.inr (Or.inr ⟨m, a, by omega, q, ql, q3, qy, q66⟩)
    · exact absurd ex t2
theorem uKp.rf : uKp C C Y Y M M := ⟨rfl, rfl, ⟨rfl, rfl, fun _ => rfl⟩, ⟨rfl, rfl, rfl, rfl, rfl, rfl⟩, rfl, rfl, rfl, rfl, rfl, rfl, rfl⟩
theorem uKp.tr {C2 M2 : Nat → Int → Int → Int} {Y2 : Nat → Int → Int → Option Int} (h : uKp C C1 Y Y1 M M1) (g : uKp C1 C2 Y1 Y2 M1 M2) : uKp C C2 Y Y2 M M2 := by
  obtain ⟨a1, a2, ⟨a3, a4, a5⟩, ⟨b1, b2, b3, b4, b5, b6⟩, c1, c2, c3, c4, c5, c6, c7⟩ := h
  obtain ⟨d1, d2, ⟨d3, d4, d5⟩, ⟨f1, f2, f3, f4, f5, f6⟩, g1, g2, g3, g4, g5, g6, g7⟩ := g
  exact ⟨d1.trans a1, d2.trans a2, ⟨d3.trans a3, d4.trans a4, fun x => (d5 x).trans (a5 x)⟩, ⟨f1.trans b1, f2.trans b2, f3.trans b3, f4.trans b4, f5.trans b5, f6.trans b6⟩, g1.trans c1, g2.trans c2, g3.trans c3, g4.trans c4, g5.trans c5, g6.trans c6, g7.trans c7⟩
theorem RB_undo {N : Int} (hN : M 40 0 22 = N) (h : RB c C Y ln M) (hp : ∀ n, 0 ≤ n → n < N → M 67 0 n < 12 ∧ (M 67 0 n < 0 → 0 ≤ M 64 0 n ∧ M 64 0 n < M 40 0 13 ∧ 0 ≤ M 65 0 n ∧ M 65 0 n < fcM M (M 64 0 n))) (hf : ∀ y, fcM M y ≤ 5) (hl12 : LnL ln) : ∀ (j : Nat) (C1 M1 : Nat → Int → Int → Int) (Y1 : Nat → Int → Int → Option Int), (j : Int) ≤ N → (∀ m, 0 ≤ m → m < M 40 0 20 → M 62 0 m ≤ N - (j : Int)) → uTrC N j C Y C1 Y1 → uTrM N j M M1 → RB c C1 Y1 ln M1 ∧ M1 40 0 22 = N - (j : Int) ∧ uKp C C1 Y Y1 M M1 := by
  intro j
  induction j with
  | zero =>
    intro C1 M1 Y1 _ _ a b
    obtain ⟨rfl, rfl⟩ := a
    obtain rfl := b
    exact ⟨h, by rw [hN]; simp, uKp.rf⟩
  | succ j ih =>
    intro C1 M1 Y1 hj hst a b
    obtain ⟨C', Y', a1, a2⟩ := a
    obtain ⟨M', b1, b2⟩ := b
    obtain ⟨i1, i2, i3⟩ := ih C' M' Y' (by omega) (fun m m0 m1 => by have := hst m m0 m1; omega) a1 b1
    obtain ⟨k1, k2, kC, kM, k64, k65, k66, k67, k68, k57, k58⟩ := id i3
    have h9 := hp (N - 1 - (j : Int)) (by omega) (by omega)
    rw [← k67, ← k64, ← k65, ← kM.fcE, ← kM.2.2.2.2.1] at h9
    have h8 := RB_undo1 i1 (by omega) a2 b2 h9.2 h9.1 (by rw [kM.fcE]; exact hf) hl12 (fun m m0 m1 => by
      rw [kM.2.2.2.2.2] at m1
      rw [kM.2.2.2.1]
      have := hst m m0 m1
      omega)
    exact ⟨h8.1, by rw [h8.2.1]; omega, i3.tr h8.2.2⟩
/-- a mark more -/
theorem rN_mark (h : rN C Y M) (hn : C 29 0 1 = M 40 0 22) (hm : C 29 0 3 = M 40 0 20) (h28 : ∀ n, C1 28 n 1 = C 28 n 1 ∧ C1 28 n 2 = C 28 n 2) (hs : C1 31 0 (C 29 0 3) = C 29 0 1) (ho : ∀ j, j ≠ C 29 0 3 → C1 31 0 j = C 31 0 j) (ms : M1 62 0 (M 40 0 20) = M 40 0 22) (mo : ∀ j, j ≠ M 40 0 20 → M1 62 0 j = M 62 0 j) (m20 : M1 40 0 20 = M 40 0 20 + 1) (m22 : M1 40 0 22 = M 40 0 22) (hl : lnM M1 = lnM M) (hk : ∀ k ∈ [57, 64, 65, 66, 67, 68], M1 k = M k) : rN C1 Y M1 := by
  refine ⟨fun m a b => ?_, fun n a b => ?_⟩
  · by_cases e : m = M 40 0 20
    · rw [e, ms, m22, ← hm, hs]
      refine ⟨hn, Int.le_refl _, fun m' a' b' => ?_⟩
      rw [hm] at b'
      by_cases e' : m' = M 40 0 20
      · rw [e', ms]
        exact Int.le_refl _
      · rw [mo m' e']
        exact (h.1 m' a' (by omega)).2.1
    · rw [mo m e, ho m (by rw [hm]; exact e), m22]
      obtain ⟨q1, q2, q3⟩ := h.1 m a (by omega)
      exact ⟨q1, q2, fun m' a' b' => by rw [mo m' (by omega)]; exact q3 m' a' b'⟩
  · have h9 := h.2 n a (by omega)
    unfold nOK at *
    rw [hk 64 (by decide), hk 65 (by decide), hk 66 (by decide), hk 67 (by decide), hk 68 (by decide), hk 57 (by decide), hl, (h28 n).1, (h28 n).2]
    exact h9
end RO
end
section
/-! things come, fields come and go -/
section RT
variable {C C1 M M1 : Nat → Int → Int → Int} {Y Y1 : Nat → Int → Int → Option Int} {ln ln1 : Int → Int} {c c1 : Int}
/-- the notes and rows as they are -/
def KpN (C C1 : Nat → Int → Int → Int) (Y Y1 : Nat → Int → Int → Option Int) (M M1 : Nat → Int → Int → Int) : Prop := C1 28 = C 28 ∧ Y1 28 = Y 28 ∧ C1 31 = C 31 ∧ C1 27 = C 27 ∧ (∀ k ∈ [57, 58, 59, 62, 64, 65, 66, 67, 68], M1 k = M k) ∧ M1 40 0 20 = M 40 0 20 ∧ M1 40 0 22 = M 40 0 22
theorem KpN.of {L N K : List Nat} (h : Frm L C C1) (g : Frm N Y Y1) (k : Frm K M M1) (hd : ∀ q ∈ [2801, 2802, 2803, 2804, 3100, 2700], q ∉ L) (hx : ∀ j, fcode 28 j ∉ L) (hy : ∀ j, fcode 28 j ∉ N) (hk : ∀ q ∈ [5700, 5800, 5900, 6200, 6400, 6500, 6600, 6700, 6800, 4021, 4023], q ∉ K) : KpN C C1 Y Y1 M M1 := by
  refine ⟨h.fn 28 hx, g.fn 28 hy, h.arr 31 (by decide +kernel) (hd 3100 (by decide)), h.arr 27 (by decide +kernel) (hd 2700 (by decide)), fun q hq => ?_, k 40 0 20 (hk 4021 (by decide)), k 40 0 22 (hk 4023 (by decide))⟩
  simp only [List.mem_cons, List.not_mem_nil, or_false] at hq
  rcases hq with rfl | rfl | rfl | rfl | rfl | rfl | rfl | rfl | rfl
  · exact k.arr 57 (by decide +kernel) (hk 5700 (by decide))
  · exact k.arr 58 (by decide +kernel) (hk 5800 (by decide))
  · exact k.arr 59 (by decide +kernel) (hk 5900 (by decide))
  · exact k.arr 62 (by decide +kernel) (hk 6200 (by decide))
  · exact k.arr 64 (by decide +kernel) (hk 6400 (by decide))
  · exact k.arr 65 (by decide +kernel) (hk 6500 (by decide))
  · exact k.arr 66 (by decide +kernel) (hk 6600 (by decide))
  · exact k.arr 67 (by decide +kernel) (hk 6700 (by decide))
  · exact k.arr 68 (by decide +kernel) (hk 6800 (by decide))
theorem KpN.nok {n : Int} (h : KpN C C1 Y Y1 M M1) (hl : M 67 0 n < 0 → lnM M1 (M 64 0 n) (M 65 0 n) = lnM M (M 64 0 n) (M 65 0 n)) (h9 : nOK C Y M n) : nOK C1 Y1 M1 n := by
  obtain ⟨k1, k2, k3, k4, k5, k6, k7⟩ := h
  unfold nOK at *
  rw [k5 64 (by decide), k5 65 (by decide), k5 66 (by decide), k5 67 (by decide), k5 68 (by decide), k5 57 (by decide), k1, k2]
  refine ⟨fun q => ?_, h9.2⟩
  rw [hl q]
  exact h9.1 q
theorem KpN.lv {g r l : Int} (h : KpN C C1 Y Y1 M M1) (hl : ∀ n, 0 ≤ n → n < M 40 0 22 → M 67 0 n < 0 → lnM M1 (M 64 0 n) (M 65 0 n) = lnM M (M 64 0 n) (M 65 0 n)) (hv : LvN Y1 M1 g r l ∨ LvI Y1 M1 g r l) : Lv Y M g r l := by
  obtain ⟨k1, k2, k3, k4, k5, k6, k7⟩ := h
  rcases hv with ⟨n, a, b, q67, ql, q3, qy, q68⟩ | ⟨n, a, b, q67, ql, q3, qy, q66⟩
  · rw [k7] at b
    rw [k5 67 (by decide)] at q67
    rw [k5 64 (by decide), k5 65 (by decide), hl n a b q67] at ql
    rw [k2] at qy
    rw [k5 68 (by decide)] at q68
    exact Or.inr (Or.inl ⟨n, a, b, q67, ql, q3, qy, q68⟩)
  · rw [k7] at b
    rw [k5 67 (by decide)] at q67
    rw [k5 57 (by decide)] at ql
    rw [k2] at qy
    rw [k5 66 (by decide)] at q66
    exact Or.inr (Or.inr ⟨n, a, b, q67, ql, q3, qy, q66⟩)
/-- the notes and the rows behind a change that is none of theirs: what is left to show is the places -/
theorem RB_of (h : RB c C Y ln M) (kN : KpN C C1 Y Y1 M M1) (hc : c ≤ c1) (hln : ∀ g, 0 ≤ g → g < c → ln1 g = ln g) (hl12 : LnL ln) (hl : ∀ n, 0 ≤ n → n < M 40 0 22 → M 67 0 n < 0 → lnM M1 (M 64 0 n) (M 65 0 n) = lnM M (M 64 0 n) (M 65 0 n)) (hH : rH C1 Y1 M1) (hv : ∀ g r l, LvF Y1 M1 g r l → Lv Y M g r l) : RB c1 C1 Y1 ln1 M1 := by
  obtain ⟨h1, h2, h3⟩ := h
  obtain ⟨k1, k2, k3, k4, k5, k6, k7⟩ := id kN
  refine ⟨hH, ⟨fun m a b => ?_, fun n a b => kN.nok (hl n a (by omega)) (h2.2 n a (by omega))⟩, ?_⟩
  · rw [k3, k5 62 (by decide), k7]
    exact h2.1 m a (by omega)
  · refine rR_sub h3 hc (fun g r l q => ?_) (rR_same h3 (fun g _ _ => by rw [k4]) hln (fun g r l _ => ⟨by rw [k5 57 (by decide)], by rw [k5 58 (by decide)], fun i _ _ => by rw [k5 59 (by decide)]⟩) hl12)
    rcases q with q | q
    · exact hv g r l q
    · exact kN.lv hl q
/-- N things come, the types T, all their fields as at first -/
theorem RB_things {N : Int} {T : Int → Int} (h : RB c C Y ln M) (kN : KpN C C1 Y Y1 M M1) (hl12 : LnL ln) (hN : 0 ≤ N)
    (c3 : C1 0 0 3 = C 0 0 3 + N) (c15 : ∀ y, M 40 0 13 ≤ y → y < M 40 0 13 + N → Y1 15 y 0 = some (T y)) (c15o : ∀ y, y < M 40 0 13 → Y1 15 y 0 = Y 15 y 0)
    (cn : ∀ y k, M 40 0 13 ≤ y → y < M 40 0 13 + N → 0 ≤ k → k < M 44 0 (T y) → C1 16 y k = C 22 (T y) k ∧ Y1 17 y k = none) (co : ∀ y k, y < M 40 0 13 → C1 16 y k = C 16 y k ∧ Y1 17 y k = Y 17 y k)
    (m13 : M1 40 0 13 = M 40 0 13 + N) (m44 : M1 44 = M 44) (m46 : M1 46 = M 46) (m55 : ∀ y, M 40 0 13 ≤ y → y < M 40 0 13 + N → M1 55 0 y = T y) (m55o : ∀ y, y < M 40 0 13 → M1 55 0 y = M 55 0 y)
    (mn : ∀ y k, M 40 0 13 ≤ y → y < M 40 0 13 + N → 0 ≤ k → k < M 44 0 (T y) → M1 56 0 (5 * y + k) = M 47 0 (5 * T y + k)) (mo : ∀ j, j < 5 * M 40 0 13 → M1 56 0 j = M 56 0 j) (hf : ∀ t, M 44 0 t ≤ 5)
    (hd : ∀ y k, M 40 0 13 ≤ y → y < M 40 0 13 + N → 0 ≤ k → k < M 44 0 (T y) → C 22 (T y) k = M 47 0 (5 * T y + k) ∧ (M 46 0 (5 * T y + k) ≠ 0 → M 47 0 (5 * T y + k) = -1))
    (hnt : ∀ n, 0 ≤ n → n < M 40 0 22 → M 67 0 n < 0 → M 64 0 n < M 40 0 13) : RB c C1 Y1 ln M1 := by
  have hl : ∀ y k, y < M 40 0 13 → lnM M1 y k = lnM M y k := fun y k hy => by simp only [lnM, m46, m55o y hy]
  have hc : ∀ y, y < M 40 0 13 → fcM M1 y = fcM M y := fun y hy => by simp only [fcM, m44, m55o y hy]
  have hln : ∀ y k, M 40 0 13 ≤ y → y < M 40 0 13 + N → lnM M1 y k = M 46 0 (5 * T y + k) := fun y k h0 h1 => by simp only [lnM, m46, m55 y h0 h1]
  have hcn : ∀ y, M 40 0 13 ≤ y → y < M 40 0 13 + N → fcM M1 y = M 44 0 (T y) := fun y h0 h1 => by simp only [fcM, m44, m55 y h0 h1]
  refine RB_of h kN (Int.le_refl _) (fun _ _ _ => rfl) hl12 (fun n a b q => hl _ _ (hnt n a b q)) ⟨by rw [c3, m13, h.1.1], fun y y0 y1 => ?_⟩ (fun g r l q => ?_)
  · rw [m13] at y1
    by_cases hy : y < M 40 0 13
    · obtain ⟨a1, a2⟩ := h.1.2 y y0 hy
      rw [c15o y hy, m55o y hy, hc y hy]
      refine ⟨a1, fun k k0 k1 => ?_⟩
      have hf1 : fcM M y ≤ 5 := hf _
      rw [hl y k hy, (co y k hy).1, (co y k hy).2, mo _ (by omega)]
      exact a2 k k0 k1
    · rw [c15 y (by omega) y1, m55 y (by omega) y1, hcn y (by omega) y1]
      refine ⟨rfl, fun k k0 k1 => ?_⟩
      have e1 := cn y k (by omega) y1 k0 k1
      have e2 := hd y k (by omega) y1 k0 k1
      rw [hln y k (by omega) y1, e1.1, e1.2, mn y k (by omega) y1 k0 k1]
      exact ⟨fun _ => e2.1, fun q => ⟨fun _ => by rw [e2.2 (by omega)]; decide, fun _ => rfl⟩⟩
  · obtain ⟨y, k, y0, y1, k0, k1, kl, l3, ky, kr⟩ := q
    rw [m13] at y1
    by_cases hy : y < M 40 0 13
    · have hf1 : fcM M y ≤ 5 := hf _
      rw [hc y hy] at k1
      rw [hl y k hy] at kl
      rw [(co y k hy).2] at ky
      rw [mo _ (by omega)] at kr
      exact Or.inl ⟨y, k, y0, hy, k0, k1, kl, l3, ky, kr⟩
    · rw [hcn y (by omega) y1] at k1
      rw [(cn y k (by omega) y1 k0 k1).2] at ky
      cases ky
/-- things go: the last ones, that no other and no note speaks of -/
theorem RB_less {N : Int} (h : RB c C Y ln M) (kN : KpN C C1 Y Y1 M M1) (hl12 : LnL ln) (hN : 0 ≤ N ∧ N ≤ M 40 0 13) (c3 : C1 0 0 3 = N) (m13 : M1 40 0 13 = N) (m44 : M1 44 = M 44) (m46 : M1 46 = M 46) (m55 : M1 55 = M 55) (m56 : M1 56 = M 56) (c16 : C1 16 = C 16) (y15 : Y1 15 = Y 15) (y17 : Y1 17 = Y 17) : RB c C1 Y1 ln M1 := by
  have hl : lnM M1 = lnM M := by
    funext y k
    simp only [lnM, m46, m55]
  have hc : fcM M1 = fcM M := by
    funext y
    simp only [fcM, m44, m55]
  refine RB_of h kN (Int.le_refl _) (fun _ _ _ => rfl) hl12 (fun n a b q => by rw [hl]) ⟨by rw [c3, m13], fun y y0 y1 => ?_⟩ (fun g r l q => ?_)
  · rw [hl, hc, m55, m56, c16, y15, y17]
    exact h.1.2 y y0 (by omega)
  · obtain ⟨y, k, y0, y1, k0, k1, kl, l3, ky, kr⟩ := q
    rw [hc] at k1
    rw [hl] at kl
    rw [y17] at ky
    rw [m56] at kr
    exact Or.inl ⟨y, k, y0, by omega, k0, k1, kl, l3, ky, kr⟩
/-- the things' types, their fields and lanes as they are -/
theorem RB_keep (h : RB c C Y ln M) (kN : KpN C C1 Y Y1 M M1) (hc1 : c ≤ c1) (hlN : ∀ g, 0 ≤ g → g < c → ln1 g = ln g) (hl12 : LnL ln) (c3 : C1 0 0 3 = C 0 0 3) (m13 : M1 40 0 13 = M 40 0 13) (m55 : M1 55 = M 55) (m56 : M1 56 = M 56) (c16 : C1 16 = C 16) (y15 : ∀ x, Y1 15 x 0 = Y 15 x 0) (y17 : Y1 17 = Y 17) (hf : ∀ y, 0 ≤ y → y < M 40 0 13 → fcM M1 y = fcM M y ∧ ∀ k, 0 ≤ k → k < fcM M y → lnM M1 y k = lnM M y k)
    (hnt : ∀ n, 0 ≤ n → n < M 40 0 22 → M 67 0 n < 0 → (0 ≤ M 64 0 n ∧ M 64 0 n < M 40 0 13) ∧ 0 ≤ M 65 0 n ∧ M 65 0 n < fcM M (M 64 0 n)) : RB c1 C1 Y1 ln1 M1 := by
  refine RB_of h kN hc1 hlN hl12 (fun n a b q => ?_) ⟨by rw [c3, m13]; exact h.1.1, fun y y0 y1 => ?_⟩ (fun g r l q => ?_)
  · obtain ⟨q1, q2⟩ := hnt n a b q
    exact (hf _ q1.1 q1.2).2 _ q2.1 q2.2
  · rw [m13] at y1
    obtain ⟨f1, f2⟩ := hf y y0 y1
    obtain ⟨a1, a2⟩ := h.1.2 y y0 y1
    rw [m55, m56, c16, y15, y17, f1]
    refine ⟨a1, fun k k0 k1 => ?_⟩
    rw [f2 k k0 k1]
    exact a2 k k0 k1
  · obtain ⟨y, k, y0, y1, k0, k1, kl, l3, ky, kr⟩ := q
    rw [m13] at y1
    obtain ⟨f1, f2⟩ := hf y y0 y1
    rw [f1] at k1
    rw [f2 k k0 k1] at kl
    rw [y17] at ky
    rw [m56] at kr
    exact Or.inl ⟨y, k, y0, y1, k0, k1, kl, l3, ky, kr⟩
/-- a field comes to type t: no mark stands, so no note -/
theorem RB_field {t kk dv : Int} (h : RB c C Y ln M) (kN : KpN C C1 Y Y1 M M1) (hl12 : LnL ln) (h0 : M 40 0 22 = 0) (hkk : kk = M 44 0 t) (hk4 : 0 ≤ kk ∧ kk ≤ 4) (c3 : C1 0 0 3 = C 0 0 3) (y15 : ∀ x, Y1 15 x 0 = Y 15 x 0) (m13 : M1 40 0 13 = M 40 0 13) (m55 : M1 55 = M 55) (m44 : M1 44 0 t = kk + 1) (m44o : ∀ y, y ≠ t → M1 44 0 y = M 44 0 y) (m46o : ∀ y, y ≠ 5 * t + kk → M1 46 0 y = M 46 0 y) (hf : ∀ t, M 44 0 t ≤ 5)
    (cn : ∀ x, 0 ≤ x → x < C 0 0 3 → Y 15 x 0 = some t → C1 16 x kk = dv ∧ Y1 17 x kk = none) (co : ∀ x k, 0 ≤ x → x < C 0 0 3 → ¬ (Y 15 x 0 = some t ∧ k = kk) → C1 16 x k = C 16 x k ∧ Y1 17 x k = Y 17 x k)
    (mn : ∀ x, 0 ≤ x → x < M 40 0 13 → M 55 0 x = t → M1 56 0 (5 * x + kk) = dv) (mo : ∀ x k, 0 ≤ x → x < M 40 0 13 → 0 ≤ k → k ≤ 4 → ¬ (M 55 0 x = t ∧ k = kk) → M1 56 0 (5 * x + k) = M 56 0 (5 * x + k)) (hdv : 3 ≤ M1 46 0 (5 * t + kk) → dv = -1) : RB c C1 Y1 ln M1 := by
  have hx : ∀ x, 0 ≤ x → x < M 40 0 13 → Y 15 x 0 = some (M 55 0 x) := fun x a b => (h.1.2 x a b).1
  have hc3 := h.1.1
  have hl : ∀ y k, 0 ≤ k → k < fcM M y → lnM M1 y k = lnM M y k := fun y k k0 k1 => by
    have := hf (M 55 0 y)
    simp only [fcM] at k1
    simp only [lnM, m55]
    refine m46o _ (fun q => ?_)
    by_cases e : M 55 0 y = t
    · rw [e] at q k1
      omega
    · omega
  refine RB_of h kN (Int.le_refl _) (fun _ _ _ => rfl) hl12 (fun n a b q => by omega) ⟨by rw [c3, m13]; exact hc3, fun y y0 y1 => ?_⟩ (fun g r l q => ?_)
  · rw [m13] at y1
    obtain ⟨a1, a2⟩ := h.1.2 y y0 y1
    rw [y15, m55]
    refine ⟨a1, fun k k0 k1 => ?_⟩
    by_cases e : M 55 0 y = t ∧ k = kk
    · obtain ⟨e1, e2⟩ := e
      have e3 := cn y y0 (by omega) (by rw [a1, e1])
      have e4 := mn y y0 y1 e1
      have e5 : lnM M1 y kk = M1 46 0 (5 * t + kk) := by simp only [lnM, m55, e1]
      rw [e2, e3.1, e3.2, e4, e5]
      exact ⟨fun _ => rfl, fun q => ⟨fun _ => by rw [hdv q]; decide, fun _ => rfl⟩⟩
    · have hk : k < fcM M y := by
        simp only [fcM, m55] at k1 ⊢
        by_cases e1 : M 55 0 y = t
        · rw [e1, m44] at k1
          rw [e1]
          have : k ≠ kk := fun q => e ⟨e1, q⟩
          omega
        · rw [m44o _ e1] at k1
          exact k1
      have hf1 := hf (M 55 0 y)
      have hk4' : k ≤ 4 := by
        simp only [fcM] at hk
        omega
      have e3 := co y k y0 (by omega) (fun q => e ⟨by have q1 := q.1; rw [a1] at q1; cases q1; rfl, q.2⟩)
      rw [e3.1, e3.2, mo y k y0 y1 k0 hk4' e, hl y k k0 hk]
      exact a2 k k0 hk
  · obtain ⟨y, k, y0, y1, k0, k1, kl, l3, ky, kr⟩ := q
    rw [m13] at y1
    have a1 := hx y y0 y1
    by_cases e : M 55 0 y = t ∧ k = kk
    · obtain ⟨e1, e2⟩ := e
      rw [e2, (cn y y0 (by omega) (by rw [a1, e1])).2] at ky
      cases ky
    · have hk : k < fcM M y := by
        simp only [fcM, m55] at k1 ⊢
        by_cases e1 : M 55 0 y = t
        · rw [e1, m44] at k1
          rw [e1]
          have : k ≠ kk := fun q => e ⟨e1, q⟩
          omega
        · rw [m44o _ e1] at k1
          exact k1
      have hf1 := hf (M 55 0 y)
      have hk4' : k ≤ 4 := by
        simp only [fcM] at hk
        omega
      have e3 := co y k y0 (by omega) (fun q => e ⟨by have q1 := q.1; rw [a1] at q1; cases q1; rfl, q.2⟩)
      rw [e3.2] at ky
      rw [mo y k y0 y1 k0 hk4' e] at kr
      rw [hl y k k0 hk] at kl
      exact Or.inl ⟨y, k, y0, y1, k0, hk, kl, l3, ky, kr⟩
/-- the field kk of type t goes -/
theorem RB_drop {t kk : Int} (h : RB c C Y ln M) (kN : KpN C C1 Y Y1 M M1) (hl12 : LnL ln) (h0 : M 40 0 22 = 0) (hkk : 0 ≤ kk ∧ kk < M 44 0 t) (c3 : C1 0 0 3 = C 0 0 3) (y15 : ∀ x, Y1 15 x 0 = Y 15 x 0) (m13 : M1 40 0 13 = M 40 0 13) (m55 : M1 55 = M 55) (m44 : M1 44 0 t = M 44 0 t - 1) (m44o : ∀ y, y ≠ t → M1 44 0 y = M 44 0 y) (m46 : Sh 46 M M1 0 (5 * t + kk) (5 * t + (M 44 0 t - 1))) (hf : ∀ t, M 44 0 t ≤ 5)
    (cn : ∀ x k, 0 ≤ x → x < C 0 0 3 → Y 15 x 0 = some t → kk ≤ k → k < 4 → C1 16 x k = C 16 x (k + 1) ∧ Y1 17 x k = Y 17 x (k + 1)) (co : ∀ x k, 0 ≤ x → x < C 0 0 3 → ¬ (Y 15 x 0 = some t ∧ kk ≤ k) → C1 16 x k = C 16 x k ∧ Y1 17 x k = Y 17 x k)
    (mn : ∀ x k, 0 ≤ x → x < M 40 0 13 → M 55 0 x = t → kk ≤ k → k < M 44 0 t - 1 → M1 56 0 (5 * x + k) = M 56 0 (5 * x + k + 1)) (mo : ∀ x k, 0 ≤ x → x < M 40 0 13 → 0 ≤ k → k ≤ 4 → ¬ (M 55 0 x = t ∧ kk ≤ k) → M1 56 0 (5 * x + k) = M 56 0 (5 * x + k)) : RB c C1 Y1 ln M1 := by
  have hc3 := h.1.1
  have hft := hf t
  -- a field behind is one of before
  have key : ∀ y k, 0 ≤ y → y < M 40 0 13 → 0 ≤ k → k < fcM M1 y → ∃ k', 0 ≤ k' ∧ k' < fcM M y ∧ lnM M1 y k = lnM M y k' ∧ C1 16 y k = C 16 y k' ∧ Y1 17 y k = Y 17 y k' ∧ M1 56 0 (5 * y + k) = M 56 0 (5 * y + k') := by
    intro y k y0 y1 k0 k1
    have a1 := (h.1.2 y y0 y1).1
    have hfy := hf (M 55 0 y)
    simp only [fcM, m55] at k1
    by_cases e : M 55 0 y = t ∧ kk ≤ k
    · obtain ⟨e1, e2⟩ := e
      rw [e1, m44] at k1
      have e3 := cn y k y0 (by omega) (by rw [a1, e1]) e2 (by omega)
      refine ⟨k + 1, by omega, by simp only [fcM, e1]; omega, ?_, e3.1, e3.2, by rw [mn y k y0 y1 e1 e2 k1, show 5 * y + k + 1 = 5 * y + (k + 1) by omega]⟩
      simp only [lnM, m55, e1]
      rw [m46, if_pos ⟨rfl, by omega, by omega⟩, show 5 * t + k + 1 = 5 * t + (k + 1) by omega]
    · have hk : k < M 44 0 (M 55 0 y) := by
        by_cases e1 : M 55 0 y = t
        · rw [e1, m44] at k1
          rw [e1]
          omega
        · rw [m44o _ e1] at k1
          exact k1
      have e3 := co y k y0 (by omega) (fun q => e ⟨by have q1 := q.1; rw [a1] at q1; cases q1; rfl, q.2⟩)
      refine ⟨k, k0, hk, ?_, e3.1, e3.2, mo y k y0 y1 k0 (by omega) e⟩
      simp only [lnM, m55]
      rw [m46, if_neg (fun q => ?_)]
      by_cases e1 : M 55 0 y = t
      · rw [e1] at q
        exact e ⟨e1, by omega⟩
      · omega
  refine RB_of h kN (Int.le_refl _) (fun _ _ _ => rfl) hl12 (fun n a b q => by omega) ⟨by rw [c3, m13]; exact hc3, fun y y0 y1 => ?_⟩ (fun g r l q => ?_)
  · rw [m13] at y1
    obtain ⟨a1, a2⟩ := h.1.2 y y0 y1
    rw [y15, m55]
    refine ⟨a1, fun k k0 k1 => ?_⟩
    obtain ⟨k', p1, p2, p3, p4, p5, p6⟩ := key y k y0 y1 k0 k1
    rw [p3, p4, p5, p6]
    exact a2 k' p1 p2
  · obtain ⟨y, k, y0, y1, k0, k1, kl, l3, ky, kr⟩ := q
    rw [m13] at y1
    obtain ⟨k', p1, p2, p3, p4, p5, p6⟩ := key y k y0 y1 k0 k1
    rw [p3] at kl
    rw [p5] at ky
    rw [p6] at kr
    exact Or.inl ⟨y, k', y0, y1, p1, p2, kl, l3, ky, kr⟩
end RT
end
section
/-! one position of recording, case by case -/
section RP
variable {la vl rid : Int → Int → Int} {y k p : Int} {s : Nat → Int → Int}
theorem recP_1 (h : la y k < 2) : recP la vl rid y k p s = u2 s 5 p (vl y k) := by unfold recP; rw [if_pos h]
theorem recP_2n (h : la y k = 2) (hv : vl y k < 0) : recP la vl rid y k p s = u2 s 5 p (-1) := by unfold recP; rw [if_neg (by omega), if_pos h, if_pos hv]
theorem recP_2o (h : la y k = 2) (hv : 0 ≤ vl y k) (hn : nmAt (s 1) (vl y k) (s 0 0).toNat ≠ -1) : recP la vl rid y k p s = u2 s 5 p (nmAt (s 1) (vl y k) (s 0 0).toNat) := by unfold recP; rw [if_neg (by omega), if_pos h, if_neg (by omega), if_neg hn]
theorem recP_2w (h : la y k = 2) (hv : 0 ≤ vl y k) (hn : nmAt (s 1) (vl y k) (s 0 0).toNat = -1) : recP la vl rid y k p s = u2 (u2 (u2 s 1 (s 0 0) (vl y k)) 5 p (s 0 0)) 0 0 (s 0 0 + 1) := by unfold recP; rw [if_neg (by omega), if_pos h, if_neg (by omega), if_pos hn]
theorem recP_3n (h : 3 ≤ la y k) (hv : rid y k < 0) : recP la vl rid y k p s = u2 s 5 p (-1) := by unfold recP; rw [if_neg (by omega), if_neg (by omega), if_pos hv]
theorem recP_3o (h : 3 ≤ la y k) (hv : 0 ≤ rid y k) (hn : nmAt (fun q => rid (s 3 q) (s 4 q)) (rid y k) (s 2 0).toNat ≠ -1) : recP la vl rid y k p s = u2 s 5 p (nmAt (fun q => rid (s 3 q) (s 4 q)) (rid y k) (s 2 0).toNat) := by unfold recP; rw [if_neg (by omega), if_neg (by omega), if_neg (by omega), if_neg hn]
theorem recP_3w (h : 3 ≤ la y k) (hv : 0 ≤ rid y k) (hn : nmAt (fun q => rid (s 3 q) (s 4 q)) (rid y k) (s 2 0).toNat = -1) : recP la vl rid y k p s = u2 (u2 (u2 (u2 s 3 (s 2 0) y) 4 (s 2 0) k) 5 p (s 2 0)) 2 0 (s 2 0 + 1) := by unfold recP; rw [if_neg (by omega), if_neg (by omega), if_neg (by omega), if_pos hn]
/-- values of other positions stay -/
theorem recP_5 {q : Int} (h : q ≠ p) : recP la vl rid y k p s 5 q = s 5 q := by
  unfold recP
  split
  · exact u2_i _ _ _ h
  · split
    · split
      · exact u2_i _ _ _ h
      · split
        · rw [u2_k _ _ _ _ (by decide), u2_i _ _ _ h, u2_k _ _ _ _ (by decide)]
        · exact u2_i _ _ _ h
    · split
      · exact u2_i _ _ _ h
      · split
        · rw [u2_k _ _ _ _ (by decide), u2_i _ _ _ h, u2_k _ _ _ _ (by decide), u2_k _ _ _ _ (by decide)]
        · exact u2_i _ _ _ h
theorem recK_5 {r q : Int} {n : Nat} (h : q < 5 * r ∨ 5 * r + (n : Int) ≤ q) : recK la vl rid s r n 5 q = s 5 q := by
  induction n with
  | zero => rfl
  | succ n ih =>
    simp only [recK]
    rw [recP_5 (by omega)]
    exact ih (by omega)
theorem recK_m {r : Int} (n : Nat) : s 0 0 ≤ recK la vl rid s r n 0 0 := by
  induction n with
  | zero => exact Int.le_refl _
  | succ n ih => exact Int.le_trans ih recP_m
theorem recK_o {r q : Int} (n : Nat) (hq : 0 ≤ q ∧ q < s 0 0) : recK la vl rid s r n 1 q = s 1 q := by
  induction n with
  | zero => rfl
  | succ n ih =>
    have := recK_m (la := la) (vl := vl) (rid := rid) (s := s) (r := r) n
    simp only [recK]
    rw [recP_o (by omega)]
    exact ih
end RP
/-! the reference's recording against the pure run: the fifth save -/
def mRid (X : Nat → Int → Int → Int) (y k : Int) : Int := X 56 0 (5 * y + k)
def rmT (X : Nat → Int → Int → Int) (s : Nat → Int → Int) : Prop := X 70 0 4 = s 0 0 ∧ ∀ i, 0 ≤ i → i < s 0 0 → X 80 0 i = s 1 i
def rmR (X : Nat → Int → Int → Int) (s : Nat → Int → Int) : Prop := X 76 0 4 = s 2 0 ∧ ∀ i, 0 ≤ i → i < s 2 0 → X 81 0 i = mRid X (s 3 i) (s 4 i) ∧ X 77 0 (600 + i) = X 57 0 (X 81 0 i) ∧ X 78 0 (600 + i) = X 58 0 (X 81 0 i) ∧ ∀ j, 0 ≤ j → j < 12 → X 79 0 (12 * (600 + i) + j) = X 59 0 (12 * X 81 0 i + j)
def rmL (X : Nat → Int → Int → Int) (s : Nat → Int → Int) (r k : Int) : Prop := X 73 0 (5 * (120 + r) + k) = X 45 0 (5 * X 55 0 (s 1 r) + k) ∧ X 74 0 (5 * (120 + r) + k) = lnM X (s 1 r) k ∧ X 75 0 (5 * (120 + r) + k) = s 5 (5 * r + k)
def rmV (X : Nat → Int → Int → Int) (s : Nat → Int → Int) (r k : Int) : Prop := (∀ r', 0 ≤ r' → r' < r → X 71 0 (120 + r') = X 55 0 (s 1 r') ∧ X 72 0 (120 + r') = fcM X (s 1 r') ∧ ∀ k', 0 ≤ k' → k' < fcM X (s 1 r') → rmL X s r' k') ∧ ∀ k', 0 ≤ k' → k' < k → rmL X s r k'
section RM
variable {X X1 : Nat → Int → Int → Int} {s s' : Nat → Int → Int} {x : Int}
theorem rmT.of (h : rmT X s) (e0 : X1 70 0 4 = X 70 0 4) (e1 : X1 80 = X 80) (f0 : s' 0 0 = s 0 0) (f1 : s' 1 = s 1) : rmT X1 s' := by
  unfold rmT at *
  rw [e0, e1, f0, f1]
  exact h
theorem rmR.of (h : rmR X s) (e0 : X1 76 0 4 = X 76 0 4) (e : ∀ κ ∈ [56, 57, 58, 59, 77, 78, 79, 81], X1 κ = X κ) (f2 : s' 2 0 = s 2 0) (f3 : s' 3 = s 3) (f4 : s' 4 = s 4) : rmR X1 s' := by
  unfold rmR mRid at *
  rw [e0, e 56 (by decide), e 57 (by decide), e 58 (by decide), e 59 (by decide), e 77 (by decide), e 78 (by decide), e 79 (by decide), e 81 (by decide), f2, f3, f4]
  exact h
theorem rmT.push (h : rmT X s) (hp : 0 ≤ s 0 0) (e1 : X1 70 0 4 = X 70 0 4 + 1) (e2 : X1 80 0 (X 70 0 4) = x) (e3 : ∀ j, j ≠ X 70 0 4 → X1 80 0 j = X 80 0 j) : rmT X1 (u2 (u2 s 1 (s 0 0) x) 0 0 (s 0 0 + 1)) := by
  obtain ⟨h1, h2⟩ := h
  rw [h1] at e1 e2 e3
  refine ⟨by rw [u2_s, e1], fun i i0 i1 => ?_⟩
  rw [u2_s] at i1
  rw [u2_k _ _ _ _ (by decide)]
  by_cases e : i = s 0 0
  · rw [e, u2_s, e2]
  · rw [u2_i _ _ _ e, e3 i e]
    exact h2 i i0 (by omega)
theorem rmR.push {y k : Int} (h : rmR X s) (hp : 0 ≤ s 2 0) (e1 : X1 76 0 4 = X 76 0 4 + 1) (e2 : X1 81 0 (X 76 0 4) = mRid X y k) (e3 : ∀ j, j ≠ X 76 0 4 → X1 81 0 j = X 81 0 j) (e4 : X1 77 0 (600 + X 76 0 4) = X 57 0 (mRid X y k) ∧ X1 78 0 (600 + X 76 0 4) = X 58 0 (mRid X y k)) (e5 : ∀ j, j ≠ 600 + X 76 0 4 → X1 77 0 j = X 77 0 j ∧ X1 78 0 j = X 78 0 j) (e6 : ∀ j, 0 ≤ j → j < 12 → X1 79 0 (12 * (600 + X 76 0 4) + j) = X 59 0 (12 * mRid X y k + j)) (e7 : ∀ j, j < 12 * (600 + X 76 0 4) → X1 79 0 j = X 79 0 j) (e : ∀ κ ∈ [56, 57, 58, 59], X1 κ = X κ) : rmR X1 (u2 (u2 (u2 s 3 (s 2 0) y) 4 (s 2 0) k) 2 0 (s 2 0 + 1)) := by
  obtain ⟨h1, h2⟩ := h
  rw [h1] at e1 e2 e3 e4 e5 e6 e7
  have f3 : ∀ i, i ≠ s 2 0 → u2 (u2 (u2 s 3 (s 2 0) y) 4 (s 2 0) k) 2 0 (s 2 0 + 1) 3 i = s 3 i := fun i hi => by rw [u2_k _ _ _ _ (by decide), u2_k _ _ _ _ (by decide), u2_i _ _ _ hi]
  have f4 : ∀ i, i ≠ s 2 0 → u2 (u2 (u2 s 3 (s 2 0) y) 4 (s 2 0) k) 2 0 (s 2 0 + 1) 4 i = s 4 i := fun i hi => by rw [u2_k _ _ _ _ (by decide), u2_i _ _ _ hi, u2_k _ _ _ _ (by decide)]
  have g3 : u2 (u2 (u2 s 3 (s 2 0) y) 4 (s 2 0) k) 2 0 (s 2 0 + 1) 3 (s 2 0) = y := by rw [u2_k _ _ _ _ (by decide), u2_k _ _ _ _ (by decide), u2_s]
  have g4 : u2 (u2 (u2 s 3 (s 2 0) y) 4 (s 2 0) k) 2 0 (s 2 0 + 1) 4 (s 2 0) = k := by rw [u2_k _ _ _ _ (by decide), u2_s]
  have hm : ∀ a b, mRid X1 a b = mRid X a b := fun a b => by unfold mRid; rw [e 56 (by decide)]
  refine ⟨by rw [u2_s, e1], fun i i0 i1 => ?_⟩
  rw [u2_s] at i1
  rw [hm, e 57 (by decide), e 58 (by decide), e 59 (by decide)]
  by_cases q : i = s 2 0
  · rw [q, g3, g4, e2]
    exact ⟨rfl, e4.1, e4.2, e6⟩
  · rw [f3 i q, f4 i q, e3 i q, (e5 (600 + i) (by omega)).1, (e5 (600 + i) (by omega)).2]
    obtain ⟨a1, a2, a3, a4⟩ := h2 i i0 (by omega)
    exact ⟨a1, a2, a3, fun j j0 j1 => by rw [e7 _ (by omega)]; exact a4 j j0 j1⟩
end RM
end
section
/-! numbers cut to a lane; a new row of the reference; a mark of a used row -/
def cutZ (lane v : Int) : Int := if lane = 3 then ((jI v).toInt8.toInt32).toInt else if lane = 4 then (jI v).toInt else v
theorem x_eqi {p : Program} {l : Launch} {e : Env} {R : Room} {s : State} {m : MethodId} {args : Array Value} {below : List Frame} {meth : Method} {c : Code} {H : Heap} {locs : List Loc} {cells slots : Nat} {Q : State → Prop} {pc : Nat} {ls : Array Slot} {rest : List Value} {x : Int32} (k : ∀ z : Int, (-2147483648 ≤ z ∧ z ≤ 2147483647) → z = x.toInt → W p l e R s m args below meth c H locs cells slots Q (F0 m pc ls (.int (jI z) :: rest))) : W p l e R s m args below meth c H locs cells slots Q (F0 m pc ls (.int x :: rest)) := by
  obtain ⟨z, hz, rfl⟩ := jI_of x
  exact k z hz (jI_toInt hz).symm
theorem us1 {X : Nat → Int → Int → Int} {w z : Int} (h : X 60 0 w = 1) : u3 X 60 0 z 1 60 0 w = 1 := by
  by_cases e : w = z
  · rw [e, u3_s]
  · rw [u3_j _ _ _ _ e]
    exact h
def nwM (X X1 : Nat → Int → Int → Int) (lane n r : Int) : Prop := (∀ x k, 0 ≤ x → x < X 40 0 13 → 0 ≤ k → k < X 44 0 (X 55 0 x) → 3 ≤ X 46 0 (5 * X 55 0 x + k) → X 56 0 (5 * x + k) ≠ r) ∧ (∀ m, 0 ≤ m → m < X 40 0 22 → X 66 0 m ≠ r) ∧ X1 57 0 r = lane ∧ X1 58 0 r = n ∧ (∀ y, y ≠ r → X1 57 0 y = X 57 0 y ∧ X1 58 0 y = X 58 0 y) ∧ (∀ j, 0 ≤ j → j < 12 → X1 59 0 (12 * r + j) = 0) ∧ ∀ p, ¬ (12 * r ≤ p ∧ p < 12 * r + 12) → X1 59 0 p = X 59 0 p
section NW
variable {X X0 X1 X2 : Nat → Int → Int → Int} {lane n r : Int} {L : List Nat}
theorem nwM.to (h : nwM X X1 lane n r) (e57 : X2 57 = X1 57) (e58 : X2 58 = X1 58) (e59 : X2 59 = X1 59) : nwM X X2 lane n r := by
  unfold nwM at *
  rw [e57, e58, e59]
  exact h
theorem nwM.from (h : nwM X0 X1 lane n r) (hF : Frm L X X0) (hd : ∀ q ∈ [4014, 4023, 4400, 4600, 5500, 5600, 5700, 5800, 5900, 6600], q ∉ L) : nwM X X1 lane n r := by
  unfold nwM at *
  rw [hF.arr 44 (by decide +kernel) (hd 4400 (by decide)), hF.arr 46 (by decide +kernel) (hd 4600 (by decide)), hF.arr 55 (by decide +kernel) (hd 5500 (by decide)), hF.arr 56 (by decide +kernel) (hd 5600 (by decide)), hF.arr 57 (by decide +kernel) (hd 5700 (by decide)), hF.arr 58 (by decide +kernel) (hd 5800 (by decide)), hF.arr 59 (by decide +kernel) (hd 5900 (by decide)), hF.arr 66 (by decide +kernel) (hd 6600 (by decide)), hF 40 0 13 (hd 4014 (by decide)), hF 40 0 22 (hd 4023 (by decide))] at h
  exact h
theorem nwM.fresh {C : Nat → Int → Int → Int} {Y : Nat → Int → Int → Option Int} (h : nwM X X1 lane n r) (hN : rN C Y X) : ∀ g r' l, Lv Y X g r' l → r' ≠ r := by
  intro g r' l hv
  rcases hv with ⟨x, k, x0, x1, k0, k1, kl, l3, ky, kr⟩ | ⟨m, a, b, q67, ql, q3, qy, q68⟩ | ⟨m, a, b, q67, ql, q3, qy, q66⟩
  · rw [← kr]
    unfold lnM at kl
    exact h.1 x k x0 x1 k0 k1 (by omega)
  · have h9 := ((hN.2 m a b).1 q67).2.2.2 (by omega)
    rw [← q68, ← h9.2]
    exact h.2.1 m a b
  · rw [← q66]
    exact h.2.1 m a b
end NW
end
section
/-! a check's verdict, out of what it reads -/
def rlen (ln : Int → Int) : Option Int → Int
  | none => -1
  | some q => ln q
theorem rlen_n {ln : Int → Int} : rlen ln none = -1 := rfl
theorem rlen_s {ln : Int → Int} {q : Int} : rlen ln (some q) = ln q := rfl
def ckF (kd a b v fc la lb va vb rn it mt ld : Int) : Int :=
  if kd = 0 then (if ¬ (a < fc ∧ la = 0 ∧ b < fc ∧ lb = 0) then 4 else if vb = 0 then 5 else 0)
  else if kd = 1 then (if ¬ (a < fc ∧ la = 2) then 4 else if mt < 0 then 1 else if mt = v then 0 else 4)
  else if kd = 2 then (if ¬ (a < fc ∧ 3 ≤ la ∧ b < fc ∧ lb = 0) then 4 else if rn < 0 then 1 else if vb < 0 ∨ rn ≤ vb then 2 else if v < it then 0 else 6)
  else if kd = 3 then (if ¬ (a < fc ∧ la = 0) then 4 else if 12 < va then 6 else if va < 0 then 3 else 0)
  else if kd = 4 then (if ¬ (a < fc ∧ la = 0) then 4 else if va < v then 6 else 0)
  else (if ¬ (a < fc ∧ la = 2) then 4 else if mt < 0 then 1 else if ld < -1 then 4 else if ld < 0 then 1 else 0)
def ldM (X : Nat → Int → Int → Int) (x y a : Int) : Int := if nmAt (fun j => X 45 0 (5 * X 55 0 y + j)) (X 45 0 (5 * X 55 0 x + a)) (X 44 0 (X 55 0 y)).toNat < 0 then -2 else if X 46 0 (5 * X 55 0 y + nmAt (fun j => X 45 0 (5 * X 55 0 y + j)) (X 45 0 (5 * X 55 0 x + a)) (X 44 0 (X 55 0 y)).toNat) ≠ 2 then -2 else X 56 0 (5 * y + nmAt (fun j => X 45 0 (5 * X 55 0 y + j)) (X 45 0 (5 * X 55 0 x + a)) (X 44 0 (X 55 0 y)).toNat)
def ckM (X : Nat → Int → Int → Int) (x c : Int) : Int := ckF (X 50 0 c) (X 51 0 c) (X 52 0 c) (X 53 0 c) (X 44 0 (X 55 0 x)) (X 46 0 (5 * X 55 0 x + X 51 0 c)) (X 46 0 (5 * X 55 0 x + X 52 0 c)) (X 56 0 (5 * x + X 51 0 c)) (X 56 0 (5 * x + X 52 0 c)) (if X 56 0 (5 * x + X 51 0 c) < 0 then -1 else X 58 0 (X 56 0 (5 * x + X 51 0 c))) (X 59 0 (12 * X 56 0 (5 * x + X 51 0 c) + X 56 0 (5 * x + X 52 0 c))) (if X 56 0 (5 * x + X 51 0 c) < 0 then -1 else X 55 0 (X 56 0 (5 * x + X 51 0 c))) (ldM X x (X 56 0 (5 * x + X 51 0 c)) (X 51 0 c))
def ldC (X : Nat → Int → Int → Int) (Y : Nat → Int → Int → Option Int) (x y a : Int) : Int := if nmAt (X 20 (tyo (Y 15 y 0))) (X 20 (tyo (Y 15 x 0)) a) (X 19 (tyo (Y 15 y 0)) 1).toNat < 0 then -2 else if X 21 (tyo (Y 15 y 0)) (nmAt (X 20 (tyo (Y 15 y 0))) (X 20 (tyo (Y 15 x 0)) a) (X 19 (tyo (Y 15 y 0)) 1).toNat) ≠ 2 then -2 else if 0 ≤ X 16 y (nmAt (X 20 (tyo (Y 15 y 0))) (X 20 (tyo (Y 15 x 0)) a) (X 19 (tyo (Y 15 y 0)) 1).toNat) ∧ X 16 y (nmAt (X 20 (tyo (Y 15 y 0))) (X 20 (tyo (Y 15 x 0)) a) (X 19 (tyo (Y 15 y 0)) 1).toNat) < X 0 0 3 then X 16 y (nmAt (X 20 (tyo (Y 15 y 0))) (X 20 (tyo (Y 15 x 0)) a) (X 19 (tyo (Y 15 y 0)) 1).toNat) else -1
def ckC (X : Nat → Int → Int → Int) (Y : Nat → Int → Int → Option Int) (ln : Int → Int) (x g : Int) : Int := ckF (X 25 g 0) (X 25 g 1) (X 25 g 2) (X 25 g 3) (X 19 (tyo (Y 15 x 0)) 1) (X 21 (tyo (Y 15 x 0)) (X 25 g 1)) (X 21 (tyo (Y 15 x 0)) (X 25 g 2)) (X 16 x (X 25 g 1)) (X 16 x (X 25 g 2)) (rlen ln (Y 17 x (X 25 g 1))) (X 27 (tyo (Y 17 x (X 25 g 1))) (X 16 x (X 25 g 2))) (if 0 ≤ X 16 x (X 25 g 1) ∧ X 16 x (X 25 g 1) < X 0 0 3 then X 19 (tyo (Y 15 (X 16 x (X 25 g 1)) 0)) 0 else -1) (ldC X Y x (X 16 x (X 25 g 1)) (X 25 g 1))
theorem u3_own {α : Type} (Z : Nat → Int → Int → α) (k : Nat) (i j : Int) : u3 Z k i j (Z k i j) = Z := by
  funext k' i' j'
  simp only [u3]
  split
  · rename_i h
    obtain ⟨rfl, rfl, rfl⟩ := h
    rfl
  · rfl
/-! the reference's drop over the things -/
def DrI (X Xb : Nat → Int → Int → Int) (t k j x : Int) : Prop := ∀ y i, 0 ≤ y → y < X 40 0 13 → 0 ≤ i → i ≤ 4 → Xb 56 0 (5 * y + i) = if X 55 0 y = t ∧ k ≤ i ∧ (i < j ∨ (i = j ∧ y < x)) then X 56 0 (5 * y + i + 1) else X 56 0 (5 * y + i)
section DI
variable {X Xa Xb Xc : Nat → Int → Int → Int} {t k j x v : Int}
theorem DrI.in_ (h : ∀ p, Xa 56 0 p = X 56 0 p) : DrI X Xa t k k 0 := fun y i y0 y1 i0 i1 => by rw [if_neg (fun q => by omega), h]
theorem DrI.of (h : DrI X Xa t k j x) (e : ∀ p, Xb 56 0 p = Xa 56 0 p) : DrI X Xb t k j x := fun y i y0 y1 i0 i1 => by rw [e]; exact h y i y0 y1 i0 i1
theorem DrI.yes (h : DrI X Xb t k j x) (hx : 0 ≤ x ∧ x < X 40 0 13) (hj : 0 ≤ j ∧ j ≤ 3) (hk : k ≤ j) (ht : X 55 0 x = t) (e : Xc = u3 Xb 56 0 (5 * x + j) v) (hv : v = Xb 56 0 (5 * x + j + 1)) : DrI X Xc t k j (x + 1) := fun y i y0 y1 i0 i1 => by
  by_cases q : y = x ∧ i = j
  · obtain ⟨rfl, rfl⟩ := q
    have h9 := h y (i + 1) y0 y1 (by omega) (by omega)
    rw [if_neg (fun q => by omega), show 5 * y + (i + 1) = 5 * y + i + 1 by omega] at h9
    rw [e, u3_s, hv, h9, if_pos ⟨ht, hk, Or.inr ⟨rfl, by omega⟩⟩]
  · rw [e, u3_j _ _ _ _ (by omega), h y i y0 y1 i0 i1]
    by_cases c : X 55 0 y = t ∧ k ≤ i ∧ (i < j ∨ (i = j ∧ y < x))
    · rw [if_pos c, if_pos ⟨c.1, c.2.1, by omega⟩]
    · rw [if_neg c, if_neg (fun c2 => c ⟨c2.1, c2.2.1, by omega⟩)]
theorem DrI.no (h : DrI X Xb t k j x) (ht : X 55 0 x ≠ t) (e : Xc = u3 Xb 56 0 (5 * x + j) (Xb 56 0 (5 * x + j))) : DrI X Xc t k j (x + 1) := fun y i y0 y1 i0 i1 => by
  rw [e, u3_own, h y i y0 y1 i0 i1]
  by_cases c : X 55 0 y = t ∧ k ≤ i ∧ (i < j ∨ (i = j ∧ y < x))
  · rw [if_pos c, if_pos ⟨c.1, c.2.1, by omega⟩]
  · rw [if_neg c, if_neg (fun c2 => c ⟨c2.1, c2.2.1, by
      rcases c2.2.2 with q | ⟨q1, q2⟩
      · exact Or.inl q
      · have : y ≠ x := fun q => ht (by rw [← q]; exact c2.1)
        exact Or.inr ⟨q1, by omega⟩⟩)]
theorem DrI.out (h : DrI X Xb t k j x) (hx : X 40 0 13 ≤ x) : DrI X Xb t k (j + 1) 0 := fun y i y0 y1 i0 i1 => by
  rw [h y i y0 y1 i0 i1]
  by_cases c : X 55 0 y = t ∧ k ≤ i ∧ (i < j ∨ (i = j ∧ y < x))
  · rw [if_pos c, if_pos ⟨c.1, c.2.1, by omega⟩]
  · rw [if_neg c, if_neg (fun c2 => c ⟨c2.1, c2.2.1, by omega⟩)]
theorem DrI.fin (h : DrI X Xb t k j 0) : (∀ y i, 0 ≤ y → y < X 40 0 13 → X 55 0 y = t → k ≤ i → i < j → 0 ≤ i → i ≤ 4 → Xb 56 0 (5 * y + i) = X 56 0 (5 * y + i + 1)) ∧ ∀ y i, 0 ≤ y → y < X 40 0 13 → 0 ≤ i → i ≤ 4 → ¬ (X 55 0 y = t ∧ k ≤ i) → Xb 56 0 (5 * y + i) = X 56 0 (5 * y + i) :=
  ⟨fun y i y0 y1 e a b c d => by rw [h y i y0 y1 c d, if_pos ⟨e, a, Or.inl b⟩], fun y i y0 y1 c d n => by rw [h y i y0 y1 c d, if_neg (fun q => n ⟨q.1, q.2.1⟩)]⟩
end DI
/-! the reference's undoing, a step more -/
theorem uTrM.push {N : Int} {V Xa Xn : Nat → Int → Int → Int} (h : uTrM N (N - Xa 40 0 22).toNat V Xa) (hN : Xa 40 0 22 ≤ N) (hs : uStM (Xa 40 0 22 - 1) Xa Xn) (e : Xn 40 0 22 = Xa 40 0 22 - 1) : uTrM N (N - Xn 40 0 22).toNat V Xn := by
  rw [show (N - Xn 40 0 22).toNat = (N - Xa 40 0 22).toNat + 1 by omega]
  refine ⟨Xa, h, ?_⟩
  rw [show N - 1 - (((N - Xa 40 0 22).toNat : Nat) : Int) = Xa 40 0 22 - 1 by omega]
  exact hs
theorem uTrC.push {N iz : Int} {X Xa Xn : Nat → Int → Int → Int} {Y Ya Yn : Nat → Int → Int → Option Int} (h : uTrC N (N - 1 - iz).toNat X Y Xa Ya) (hN : iz ≤ N - 1) (hs : uStC iz Xa Xn Ya Yn) : uTrC N (N - 1 - (iz - 1)).toNat X Y Xn Yn := by
  rw [show (N - 1 - (iz - 1)).toNat = (N - 1 - iz).toNat + 1 by omega]
  refine ⟨Xa, Ya, h, ?_⟩
  rw [show N - 1 - (((N - 1 - iz).toNat : Nat) : Int) = iz by omega]
  exact hs
end
section
/-! the pure run: more of it -/
section RR
variable {fc : Int → Int} {la vl rid : Int → Int → Int} {x : Int}
theorem recR_ms (n : Nat) : recR fc la vl rid x n 0 0 ≤ recR fc la vl rid x (n + 1) 0 0 := by
  simp only [recR]
  by_cases c : (n : Int) < recR fc la vl rid x n 0 0
  · rw [if_pos c]
    exact recK_m _
  · rw [if_neg c]
    exact Int.le_refl _
theorem recR_os (n : Nat) {q : Int} (hq : 0 ≤ q ∧ q < recR fc la vl rid x n 0 0) : recR fc la vl rid x (n + 1) 1 q = recR fc la vl rid x n 1 q := by
  simp only [recR]
  by_cases c : (n : Int) < recR fc la vl rid x n 0 0
  · rw [if_pos c]
    exact recK_o _ hq
  · rw [if_neg c]
theorem recR_m (n d : Nat) : recR fc la vl rid x n 0 0 ≤ recR fc la vl rid x (n + d) 0 0 := by
  induction d with
  | zero => exact Int.le_refl _
  | succ d ih => exact Int.le_trans ih (recR_ms (n + d))
theorem recR_o (n d : Nat) {q : Int} (hq : 0 ≤ q ∧ q < recR fc la vl rid x n 0 0) : recR fc la vl rid x (n + d) 1 q = recR fc la vl rid x n 1 q := by
  induction d with
  | zero => rfl
  | succ d ih =>
    have := recR_m (fc := fc) (la := la) (vl := vl) (rid := rid) (x := x) n d
    rw [show n + (d + 1) = n + d + 1 by omega, recR_os (n + d) ⟨hq.1, by omega⟩]
    exact ih
theorem recR_stop (n d : Nat) (h : ¬ (n : Int) < recR fc la vl rid x n 0 0) : recR fc la vl rid x (n + d) = recR fc la vl rid x n := by
  induction d with
  | zero => rfl
  | succ d ih =>
    rw [show n + (d + 1) = n + d + 1 by omega]
    simp only [recR]
    rw [ih, if_neg (by omega)]
theorem recR_up (n : Nat) (h : (n : Int) < recR fc la vl rid x n 0 0) : recR fc la vl rid x (n + 1) = recK la vl rid (recR fc la vl rid x n) (n : Int) (fc (recR fc la vl rid x n 1 (n : Int))).toNat := by
  simp only [recR]
  rw [if_pos h]
theorem recR_z : recR fc la vl rid x 0 = u2 (u2 (u2 (fun _ _ => 0) 1 0 x) 0 0 1) 2 0 0 := rfl
theorem recK_z {s : Nat → Int → Int} {r : Int} : recK la vl rid s r 0 = s := rfl
theorem recK_s {s : Nat → Int → Int} {r k : Int} (hk : 0 ≤ k) : recK la vl rid s r (k + 1).toNat = recP la vl rid (s 1 r) k (5 * r + k) (recK la vl rid s r k.toNat) := by
  rw [show (k + 1).toNat = k.toNat + 1 by omega]
  simp only [recK]
  rw [show ((k.toNat : Nat) : Int) = k by omega]
end RR
/-! the reference, one position -/
section MS
variable {X X1 : Nat → Int → Int → Int} {s s' : Nat → Int → Int} {la vl rid : Int → Int → Int} {y k p v : Int}
def mStp (la vl rid : Int → Int → Int) (y k p : Int) (X1 : Nat → Int → Int → Int) (s : Nat → Int → Int) (v : Int) : Prop := rmT X1 (recP la vl rid y k p s) ∧ rmR X1 (recP la vl rid y k p s) ∧ v = recP la vl rid y k p s 5 p
theorem u2_f2 (s : Nat → Int → Int) {κ κ' : Nat} (i v : Int) (h : κ' ≠ κ) : u2 s κ i v κ' = s κ' := funext fun j => u2_k s i v j h
theorem mStp_v (hT : rmT X s) (hR : rmR X s) (e : recP la vl rid y k p s = u2 s 5 p v) : mStp la vl rid y k p X s v := by
  unfold mStp
  rw [e]
  refine ⟨hT.of rfl rfl (u2_k _ _ _ _ (by decide)) (u2_f2 _ _ _ (by decide)), hR.of rfl (fun _ _ => rfl) (u2_k _ _ _ _ (by decide)) (u2_f2 _ _ _ (by decide)) (u2_f2 _ _ _ (by decide)), (u2_s _ _ _ _).symm⟩
theorem mStp_t (hl : la y k = 2) (hv : 0 ≤ vl y k) (hT : rmT X1 (if nmAt (s 1) (vl y k) (s 0 0).toNat = -1 then u2 (u2 s 1 (s 0 0) (vl y k)) 0 0 (s 0 0 + 1) else s)) (hR : rmR X1 s) (hz : v = if nmAt (s 1) (vl y k) (s 0 0).toNat = -1 then s 0 0 else nmAt (s 1) (vl y k) (s 0 0).toNat) : mStp la vl rid y k p X1 s v := by
  unfold mStp
  by_cases c : nmAt (s 1) (vl y k) (s 0 0).toNat = -1
  · rw [if_pos c] at hT hz
    rw [recP_2w hl hv c]
    refine ⟨hT.of rfl rfl (by rw [u2_s, u2_s]) ?_, hR.of rfl (fun _ _ => rfl) ?_ ?_ ?_, ?_⟩
    · rw [u2_f2 (κ := 0) _ _ _ (by decide), u2_f2 (κ := 5) _ _ _ (by decide), u2_f2 (κ := 0) _ _ _ (by decide)]
    · rw [u2_k _ _ _ _ (by decide), u2_k _ _ _ _ (by decide), u2_k _ _ _ _ (by decide)]
    · rw [u2_f2 _ _ _ (by decide), u2_f2 _ _ _ (by decide), u2_f2 _ _ _ (by decide)]
    · rw [u2_f2 _ _ _ (by decide), u2_f2 _ _ _ (by decide), u2_f2 _ _ _ (by decide)]
    · rw [u2_k _ _ _ _ (by decide), u2_s]
      exact hz
  · rw [if_neg c] at hT hz
    rw [hz]
    exact mStp_v hT hR (recP_2o hl hv c)
theorem mStp_r (hl : 3 ≤ la y k) (hv : 0 ≤ rid y k) (hT : rmT X1 s) (hR : rmR X1 (if nmAt (fun q => rid (s 3 q) (s 4 q)) (rid y k) (s 2 0).toNat = -1 then u2 (u2 (u2 s 3 (s 2 0) y) 4 (s 2 0) k) 2 0 (s 2 0 + 1) else s)) (hz : v = if nmAt (fun q => rid (s 3 q) (s 4 q)) (rid y k) (s 2 0).toNat = -1 then s 2 0 else nmAt (fun q => rid (s 3 q) (s 4 q)) (rid y k) (s 2 0).toNat) : mStp la vl rid y k p X1 s v := by
  unfold mStp
  by_cases c : nmAt (fun q => rid (s 3 q) (s 4 q)) (rid y k) (s 2 0).toNat = -1
  · rw [if_pos c] at hR hz
    rw [recP_3w hl hv c]
    refine ⟨hT.of rfl rfl ?_ ?_, hR.of rfl (fun _ _ => rfl) (by rw [u2_s, u2_s]) ?_ ?_, ?_⟩
    · rw [u2_k _ _ _ _ (by decide), u2_k _ _ _ _ (by decide), u2_k _ _ _ _ (by decide), u2_k _ _ _ _ (by decide)]
    · rw [u2_f2 _ _ _ (by decide), u2_f2 _ _ _ (by decide), u2_f2 _ _ _ (by decide), u2_f2 _ _ _ (by decide)]
    · rw [u2_f2 (κ := 2) _ _ _ (by decide), u2_f2 (κ := 5) _ _ _ (by decide), u2_f2 (κ := 4) _ _ _ (by decide), u2_f2 (κ := 2) _ _ _ (by decide), u2_f2 (κ := 4) _ _ _ (by decide)]
    · rw [u2_f2 (κ := 2) _ _ _ (by decide), u2_f2 (κ := 5) _ _ _ (by decide), u2_f2 (κ := 2) _ _ _ (by decide)]
    · rw [u2_k _ _ _ _ (by decide), u2_s]
      exact hz
  · rw [if_neg c] at hR hz
    rw [hz]
    exact mStp_v hT hR (recP_3o hl hv c)
/-- what the slots speak of beside their own rows -/
def mSt (X X1 : Nat → Int → Int → Int) : Prop := X1 44 = X 44 ∧ X1 45 = X 45 ∧ X1 46 = X 46 ∧ X1 55 = X 55
theorem mSt.of {L : List Nat} (h : Frm L X X1) (hd : ∀ q ∈ [4400, 4500, 4600, 5500], q ∉ L) : mSt X X1 := ⟨h.arr 44 (by decide +kernel) (hd 4400 (by decide)), h.arr 45 (by decide +kernel) (hd 4500 (by decide)), h.arr 46 (by decide +kernel) (hd 4600 (by decide)), h.arr 55 (by decide +kernel) (hd 5500 (by decide))⟩
theorem rmL.of {r k : Int} (h : rmL X s r k) (hs : mSt X X1) (e3 : X1 73 0 (5 * (120 + r) + k) = X 73 0 (5 * (120 + r) + k)) (e4 : X1 74 0 (5 * (120 + r) + k) = X 74 0 (5 * (120 + r) + k)) (e5 : X1 75 0 (5 * (120 + r) + k) = X 75 0 (5 * (120 + r) + k)) (f1 : s' 1 r = s 1 r) (f5 : s' 5 (5 * r + k) = s 5 (5 * r + k)) : rmL X1 s' r k := by
  obtain ⟨h4, h5, h6, h7⟩ := hs
  unfold rmL lnM at *
  rw [e3, e4, e5, f1, f5, h5, h6, h7]
  exact h
theorem rmV.push {r k : Int} (h : rmV X s r k) (hs : mSt X X1) (hk : 0 ≤ k ∧ k ≤ 4) (hr : 0 ≤ r) (hf : ∀ t, X 44 0 t ≤ 5) (o71 : X1 71 = X 71) (o72 : X1 72 = X 72) (o3 : ∀ j, j ≠ 5 * (120 + r) + k → X1 73 0 j = X 73 0 j) (o4 : ∀ j, j ≠ 5 * (120 + r) + k → X1 74 0 j = X 74 0 j) (o5 : ∀ j, j ≠ 5 * (120 + r) + k → X1 75 0 j = X 75 0 j) (f1 : ∀ q, 0 ≤ q → q ≤ r → s' 1 q = s 1 q) (f5 : ∀ q, q ≠ 5 * r + k → s' 5 q = s 5 q) (hn : rmL X1 s' r k) : rmV X1 s' r (k + 1) := by
  obtain ⟨h1, h2⟩ := h
  refine ⟨fun r' a b => ?_, fun k' a b => ?_⟩
  · obtain ⟨g1, g2, g3⟩ := h1 r' a b
    have e := f1 r' a (by omega)
    have hfc : ∀ q, fcM X1 q = fcM X q := fun q => by simp only [fcM, hs.1, hs.2.2.2]
    rw [o71, o72, e, hfc, hs.2.2.2]
    refine ⟨g1, g2, fun k' a' b' => ?_⟩
    have h5 : fcM X (s 1 r') ≤ 5 := hf _
    exact (g3 k' a' b').of hs (o3 _ (by omega)) (o4 _ (by omega)) (o5 _ (by omega)) e (f5 _ (by omega))
  · by_cases e : k' = k
    · rw [e]
      exact hn
    · exact (h2 k' a (by omega)).of hs (o3 _ (by omega)) (o4 _ (by omega)) (o5 _ (by omega)) (f1 r hr (Int.le_refl _)) (f5 _ (by omega))
theorem rmV.next {r : Int} (h : rmV X s r (fcM X (s 1 r))) (h1 : X 71 0 (120 + r) = X 55 0 (s 1 r)) (h2 : X 72 0 (120 + r) = fcM X (s 1 r)) : rmV X s (r + 1) 0 := by
  refine ⟨fun r' a b => ?_, fun k' a b => by omega⟩
  by_cases e : r' = r
  · rw [e]
    exact ⟨h1, h2, h.2⟩
  · exact h.1 r' a (by omega)
theorem rmV.in_ {r : Int} (h : rmV X s r 0) (hs : mSt X X1) (hr : 0 ≤ r) (hf : ∀ t, X 44 0 t ≤ 5) (o71 : ∀ j, j ≠ 120 + r → X1 71 0 j = X 71 0 j) (o72 : ∀ j, j ≠ 120 + r → X1 72 0 j = X 72 0 j) (o3 : X1 73 = X 73) (o4 : X1 74 = X 74) (o5 : X1 75 = X 75) : rmV X1 s r 0 := by
  refine ⟨fun r' a b => ?_, fun k' a b => by omega⟩
  obtain ⟨g1, g2, g3⟩ := h.1 r' a b
  have hfc : ∀ q, fcM X1 q = fcM X q := fun q => by simp only [fcM, hs.1, hs.2.2.2]
  rw [o71 _ (by omega), o72 _ (by omega), hfc, hs.2.2.2]
  exact ⟨g1, g2, fun k' a' b' => (g3 k' a' b').of hs (by rw [o3]) (by rw [o4]) (by rw [o5]) rfl rfl⟩
end MS
/-! verdicts over versions -/
def jdM (X : Nat → Int → Int → Int) (x z : Int) : Prop := (z = 0 ∧ ∀ c, 0 ≤ c → c < X 49 0 (X 55 0 x) → ckM X x (4 * X 55 0 x + c) = 0) ∨ (z ≠ 0 ∧ ∃ c, 0 ≤ c ∧ c < X 49 0 (X 55 0 x) ∧ (∀ c', 0 ≤ c' → c' < c → ckM X x (4 * X 55 0 x + c') = 0) ∧ z = ckM X x (4 * X 55 0 x + c))
theorem jdM.from {L : List Nat} {X X0 : Nat → Int → Int → Int} {x z : Int} (h : jdM X0 x z) (hF : Frm L X X0) (hd : ∀ q ∈ [4400, 4500, 4600, 4900, 5000, 5100, 5200, 5300, 5500, 5600, 5800, 5900], q ∉ L) : jdM X x z := by
  have e4 := hF.arr 44 (by decide +kernel) (hd 4400 (by decide))
  have e5 := hF.arr 45 (by decide +kernel) (hd 4500 (by decide))
  have e6 := hF.arr 46 (by decide +kernel) (hd 4600 (by decide))
  have e9 := hF.arr 49 (by decide +kernel) (hd 4900 (by decide))
  have f0 := hF.arr 50 (by decide +kernel) (hd 5000 (by decide))
  have f1 := hF.arr 51 (by decide +kernel) (hd 5100 (by decide))
  have f2 := hF.arr 52 (by decide +kernel) (hd 5200 (by decide))
  have f3 := hF.arr 53 (by decide +kernel) (hd 5300 (by decide))
  have f5 := hF.arr 55 (by decide +kernel) (hd 5500 (by decide))
  have f6 := hF.arr 56 (by decide +kernel) (hd 5600 (by decide))
  have f8 := hF.arr 58 (by decide +kernel) (hd 5800 (by decide))
  have f9 := hF.arr 59 (by decide +kernel) (hd 5900 (by decide))
  have e : ckM X0 = ckM X := by
    funext x c
    simp only [ckM, ldM, e4, e5, e6, f0, f1, f2, f3, f5, f6, f8, f9]
  unfold jdM at *
  rw [e, e9, f5] at h
  exact h
def sg0 : Nat → Int → Int := fun _ _ => 0
section RI
variable {fc : Int → Int} {la vl rid : Int → Int → Int} {x r k q : Int} {V : Nat → Int → Int → Int}
theorem rmT.init (h : rmT V (if nmAt (sg0 1) x (sg0 0 0).toNat = -1 then u2 (u2 sg0 1 (sg0 0 0) x) 0 0 (sg0 0 0 + 1) else sg0)) : rmT V (recR fc la vl rid x 0) := by
  have c : nmAt (sg0 1) x (sg0 0 0).toNat = -1 := rfl
  rw [if_pos c] at h
  refine h.of rfl rfl ?_ ?_
  · rw [recR_z, u2_k _ _ _ _ (by decide), u2_s, u2_s]
    rfl
  · rw [recR_z, u2_f2 (κ := 2) _ _ _ (by decide), u2_f2 (κ := 0) _ _ _ (by decide), u2_f2 (κ := 0) _ _ _ (by decide)]
    rfl
theorem rmR.init (h : V 76 0 4 = 0) : rmR V (recR fc la vl rid x 0) := by
  have e : recR fc la vl rid x 0 2 0 = 0 := by rw [recR_z, u2_s]
  refine ⟨by rw [h, e], fun i a b => ?_⟩
  rw [e] at b
  omega
theorem recR_next (hr : 0 ≤ r) (hlt : r < recR fc la vl rid x r.toNat 0 0) (hk : k = fc (recR fc la vl rid x r.toNat 1 r)) : recR fc la vl rid x (r + 1).toNat = recK la vl rid (recR fc la vl rid x r.toNat) r k.toNat := by
  have e : ((r.toNat : Nat) : Int) = r := by omega
  rw [show (r + 1).toNat = r.toNat + 1 by omega, recR_up r.toNat (by rw [e]; exact hlt), e, hk]
theorem recR_at (hr : 0 ≤ r ∧ r ≤ 30) (hq : 0 ≤ q ∧ q < recR fc la vl rid x r.toNat 0 0) : recR fc la vl rid x 30 1 q = recR fc la vl rid x r.toNat 1 q ∧ q < recR fc la vl rid x 30 0 0 := by
  have e : r.toNat + (30 - r.toNat) = 30 := by omega
  have h1 := recR_o (fc := fc) (la := la) (vl := vl) (rid := rid) (x := x) r.toNat (30 - r.toNat) hq
  have h2 := recR_m (fc := fc) (la := la) (vl := vl) (rid := rid) (x := x) r.toNat (30 - r.toNat)
  rw [e] at h1 h2
  exact ⟨h1, by omega⟩
theorem recR_end (hr : 0 ≤ r ∧ r ≤ 30) (hs : recR fc la vl rid x r.toNat 0 0 ≤ r) : recR fc la vl rid x 30 = recR fc la vl rid x r.toNat := by
  have e : r.toNat + (30 - r.toNat) = 30 := by omega
  have h1 := recR_stop (fc := fc) (la := la) (vl := vl) (rid := rid) (x := x) r.toNat (30 - r.toNat) (by omega)
  rw [e] at h1
  exact h1
end RI
theorem rmV.upto {X : Nat → Int → Int → Int} {s : Nat → Int → Int} {r r' : Int} (h : rmV X s r 0) (hr : r' ≤ r) : rmV X s r' 0 := ⟨fun q a b => h.1 q a (by omega), fun k' a b => by omega⟩
theorem recR_pos {fc : Int → Int} {la vl rid : Int → Int → Int} {x : Int} (n : Nat) : 1 ≤ recR fc la vl rid x n 0 0 := by
  have h := recR_m (fc := fc) (la := la) (vl := vl) (rid := rid) (x := x) 0 n
  rw [Nat.zero_add] at h
  have e : recR fc la vl rid x 0 0 0 = 1 := by rw [recR_z, u2_k _ _ _ _ (by decide), u2_s]
  omega
end
section
/-! blocks that are copied; saves that are the same; the first difference -/
def andZ (a b : Int) : Int := (jI a &&& jI b).toInt
def CpK (κ : Nat) (E X : Nat → Int → Int → Int) (d s0 n : Int) : Prop := ∀ j, X κ 0 j = if d ≤ j ∧ j < d + n then E κ 0 (s0 + (j - d)) else E κ 0 j
section CP
variable {κ : Nat} {E Xa Xb Xc : Nat → Int → Int → Int} {d s0 n a b v : Int}
theorem CpK.in_ (h : Xa κ = E κ) : CpK κ E Xa d s0 0 := fun j => by rw [if_neg (fun q => by omega), h]
theorem CpK.of (h : CpK κ E Xa d s0 n) (e : Xb κ = Xa κ) : CpK κ E Xb d s0 n := fun j => by rw [e]; exact h j
theorem CpK.len {m : Int} (h : CpK κ E Xa d s0 n) (e : n = m) : CpK κ E Xa d s0 m := by rw [← e]; exact h
theorem CpK.step (h : CpK κ E Xa d s0 n) (hn : 0 ≤ n) (hd : d + n ≤ s0) (e0 : Xc κ = Xa κ) (e : Xb κ = u3 Xc κ 0 a v κ) (ha : a = d + n) (hv : v = Xa κ 0 b) (hb : b = s0 + n) : CpK κ E Xb d s0 (n + 1) := fun j => by
  rw [e]
  by_cases hc : j = a
  · rw [hc, u3_s, hv, h, if_neg (fun q => by omega), if_pos ⟨by omega, by omega⟩]
    congr 1
    omega
  · rw [u3_j _ _ _ _ hc, e0, h]
    by_cases q : d ≤ j ∧ j < d + n
    · rw [if_pos q, if_pos ⟨q.1, by omega⟩]
    · rw [if_neg q, if_neg (fun q2 => q ⟨q2.1, by omega⟩)]
theorem CpK.at_ (h : CpK κ E Xa d s0 n) {i : Int} (h0 : 0 ≤ i) (h1 : i < n) : Xa κ 0 (d + i) = E κ 0 (s0 + i) := by
  rw [h, if_pos ⟨by omega, by omega⟩]
  congr 1
  omega
theorem CpK.out (h : CpK κ E Xa d s0 n) {j : Int} (hj : ¬ (d ≤ j ∧ j < d + n)) : Xa κ 0 j = E κ 0 j := by rw [h, if_neg hj]
end CP
/-- what of the first four saves stays when the fifth is written -/
def S5 (X X1 : Nat → Int → Int → Int) : Prop := (∀ j, j ≤ 3 → X1 76 0 j = X 76 0 j) ∧ (∀ j, j < 600 → X1 73 0 j = X 73 0 j ∧ X1 77 0 j = X 77 0 j ∧ X1 78 0 j = X 78 0 j) ∧ ∀ j, j < 7200 → X1 79 0 j = X 79 0 j
section SF
variable {X X1 X2 : Nat → Int → Int → Int} {M : List Nat}
theorem S5.rf : S5 X X := ⟨fun _ _ => rfl, fun _ _ => ⟨rfl, rfl, rfl⟩, fun _ _ => rfl⟩
theorem S5.tr (h : S5 X X1) (g : S5 X1 X2) : S5 X X2 := ⟨fun j q => (g.1 j q).trans (h.1 j q), fun j q => ⟨(g.2.1 j q).1.trans (h.2.1 j q).1, (g.2.1 j q).2.1.trans (h.2.1 j q).2.1, (g.2.1 j q).2.2.trans (h.2.1 j q).2.2⟩, fun j q => (g.2.2 j q).trans (h.2.2 j q)⟩
theorem S5.set {k : Nat} {i z v : Int} (h : S5 X X1) (hk : (k = 76 → 4 ≤ z) ∧ (k = 73 → 600 ≤ z) ∧ (k = 77 → 600 ≤ z) ∧ (k = 78 → 600 ≤ z) ∧ (k = 79 → 7200 ≤ z)) : S5 X (u3 X1 k i z v) :=
  ⟨fun j q => (u3_at (by omega)).trans (h.1 j q), fun j q => ⟨(u3_at (by omega)).trans (h.2.1 j q).1, (u3_at (by omega)).trans (h.2.1 j q).2.1, (u3_at (by omega)).trans (h.2.1 j q).2.2⟩, fun j q => (u3_at (by omega)).trans (h.2.2 j q)⟩
theorem S5.frm (hF : Frm M X X1) (hd : ∀ c ∈ [7300, 7600, 7700, 7800, 7900], c ∉ M) : S5 X X1 := ⟨fun j _ => hF 76 0 j (hd 7600 (by decide)), fun j _ => ⟨hF 73 0 j (hd 7300 (by decide)), hF 77 0 j (hd 7700 (by decide)), hF 78 0 j (hd 7800 (by decide))⟩, fun j _ => hF 79 0 j (hd 7900 (by decide))⟩
end SF
/-- rows of saves that are the same -/
def rdE (X : Nat → Int → Int → Int) (a b : Int) : Prop := X 77 0 a = X 77 0 b ∧ X 78 0 a = X 78 0 b ∧ ∀ k, 0 ≤ k → k < X 78 0 a → X 79 0 (12 * a + k) = X 79 0 (12 * b + k)
def dfP (n : Int) (sh : Int → Prop) (fc : Int → Int) (vq : Int → Int → Prop) (nm : Int → Int → Int) (z : Int) : Prop := (z = -1 ∧ ∀ r, 0 ≤ r → r < n → sh r ∧ ∀ f, 0 ≤ f → f < fc r → vq r f) ∨ ∃ r, 0 ≤ r ∧ r < n ∧ (∀ r', 0 ≤ r' → r' < r → sh r' ∧ ∀ f, 0 ≤ f → f < fc r' → vq r' f) ∧ ((¬ sh r ∧ z = 100 * r + 99) ∨ (sh r ∧ ∃ f, 0 ≤ f ∧ f < fc r ∧ (∀ f', 0 ≤ f' → f' < f → vq r f') ∧ ¬ vq r f ∧ z = 100 * r + nm r f))
theorem dfP_uniq {n : Int} {sh sh' : Int → Prop} {fc fc' : Int → Int} {vq vq' : Int → Int → Prop} {nm nm' : Int → Int → Int} {z z' : Int} (h : dfP n sh fc vq nm z) (h' : dfP n sh' fc' vq' nm' z') (e : ∀ r, 0 ≤ r → r < n → (sh r ↔ sh' r) ∧ (sh r → fc r = fc' r ∧ ∀ f, 0 ≤ f → f < fc r → (vq r f ↔ vq' r f) ∧ nm r f = nm' r f)) : z = z' := by
  have ok : ∀ r, 0 ≤ r → r < n → (sh r ∧ ∀ f, 0 ≤ f → f < fc r → vq r f) → (sh' r ∧ ∀ f, 0 ≤ f → f < fc' r → vq' r f) := fun r a b q => by
    obtain ⟨e1, e2⟩ := e r a b
    obtain ⟨e3, e4⟩ := e2 q.1
    exact ⟨e1.mp q.1, fun f f0 f1 => (e4 f f0 (by omega)).1.mp (q.2 f f0 (by omega))⟩
  have ko : ∀ r, 0 ≤ r → r < n → (sh' r ∧ ∀ f, 0 ≤ f → f < fc' r → vq' r f) → (sh r ∧ ∀ f, 0 ≤ f → f < fc r → vq r f) := fun r a b q => by
    obtain ⟨e1, e2⟩ := e r a b
    have q1 := e1.mpr q.1
    obtain ⟨e3, e4⟩ := e2 q1
    exact ⟨q1, fun f f0 f1 => (e4 f f0 f1).1.mpr (q.2 f f0 (by omega))⟩
  -- a difference at r is none where all are the same
  have bad : ∀ r, 0 ≤ r → r < n → ((¬ sh r ∧ z = 100 * r + 99) ∨ (sh r ∧ ∃ f, 0 ≤ f ∧ f < fc r ∧ (∀ f', 0 ≤ f' → f' < f → vq r f') ∧ ¬ vq r f ∧ z = 100 * r + nm r f)) → ¬ (sh r ∧ ∀ f, 0 ≤ f → f < fc r → vq r f) := fun r a b q w => by
    rcases q with ⟨q, -⟩ | ⟨-, f, f0, f1, -, q, -⟩
    · exact q w.1
    · exact q (w.2 f f0 f1)
  have bad' : ∀ r, 0 ≤ r → r < n → ((¬ sh' r ∧ z' = 100 * r + 99) ∨ (sh' r ∧ ∃ f, 0 ≤ f ∧ f < fc' r ∧ (∀ f', 0 ≤ f' → f' < f → vq' r f') ∧ ¬ vq' r f ∧ z' = 100 * r + nm' r f)) → ¬ (sh' r ∧ ∀ f, 0 ≤ f → f < fc' r → vq' r f) := fun r a b q w => by
    rcases q with ⟨q, -⟩ | ⟨-, f, f0, f1, -, q, -⟩
    · exact q w.1
    · exact q (w.2 f f0 f1)
  rcases h with ⟨z1, a1⟩ | ⟨r, r0, r1, a1, d1⟩ <;> rcases h' with ⟨z2, a2⟩ | ⟨r', r0', r1', a2, d2⟩
  · omega
  · exact absurd (ok r' r0' r1' (a1 r' r0' r1')) (bad' r' r0' r1' d2)
  · exact absurd (ko r r0 r1 (a2 r r0 r1)) (bad r r0 r1 d1)
  · have hr : r = r' := by
      by_cases h1 : r < r'
      · exact absurd (ko r r0 r1 (a2 r r0 h1)) (bad r r0 r1 d1)
      · by_cases h2 : r' < r
        · exact absurd (ok r' r0' r1' (a1 r' r0' h2)) (bad' r' r0' r1' d2)
        · omega
    subst hr
    obtain ⟨e1, e2⟩ := e r r0 r1
    rcases d1 with ⟨q1, z1⟩ | ⟨q1, f, f0, f1, p1, n1, z1⟩ <;> rcases d2 with ⟨q2, z2⟩ | ⟨q2, f', f0', f1', p2, n2, z2⟩
    · omega
    · exact absurd (e1.mpr q2) q1
    · exact absurd (e1.mp q1) q2
    · obtain ⟨e3, e4⟩ := e2 q1
      have hf : f = f' := by
        by_cases h1 : f < f'
        · exact absurd ((e4 f f0 f1).1.mpr (p2 f f0 h1)) n1
        · by_cases h2 : f' < f
          · exact absurd ((e4 f' f0' (by omega)).1.mp (p1 f' f0' h2)) n2
          · omega
      subst hf
      have := (e4 f f0 f1).2
      omega
theorem rdr_eq {L : List Nat} {X X0 : Nat → Int → Int → Int} (hF : Frm L X X0) (hd : ∀ q ∈ [4400, 4600, 5500, 5600], q ∉ L) : fcM X0 = fcM X ∧ lnM X0 = lnM X ∧ mRid X0 = mRid X := by
  have e4 := hF.arr 44 (by decide +kernel) (hd 4400 (by decide))
  have e6 := hF.arr 46 (by decide +kernel) (hd 4600 (by decide))
  have e5 := hF.arr 55 (by decide +kernel) (hd 5500 (by decide))
  have f6 := hF.arr 56 (by decide +kernel) (hd 5600 (by decide))
  refine ⟨?_, ?_, ?_⟩
  · funext y
    simp only [fcM, e4, e5]
  · funext y k
    simp only [lnM, e6, e5]
  · funext y k
    simp only [mRid, f6]
def svC (E X1 : Nat → Int → Int → Int) (sv : Int) : Prop := X1 70 0 sv = E 70 0 4 ∧ X1 76 0 sv = E 76 0 4 ∧ (∀ j, j ≠ sv → X1 70 0 j = E 70 0 j ∧ X1 76 0 j = E 76 0 j) ∧ CpK 71 E X1 (30 * sv) 120 (E 70 0 4) ∧ CpK 72 E X1 (30 * sv) 120 (E 70 0 4) ∧ CpK 73 E X1 (150 * sv) 600 (5 * E 70 0 4) ∧ CpK 74 E X1 (150 * sv) 600 (5 * E 70 0 4) ∧ CpK 75 E X1 (150 * sv) 600 (5 * E 70 0 4) ∧ CpK 77 E X1 (150 * sv) 600 (E 76 0 4) ∧ CpK 78 E X1 (150 * sv) 600 (E 76 0 4) ∧ CpK 79 E X1 (1800 * sv) 7200 (12 * E 76 0 4)
def shM (X : Nat → Int → Int → Int) (sv r : Int) : Prop := r < X 70 0 sv ∧ r < X 70 0 4 ∧ X 71 0 (30 * sv + r) = X 71 0 (120 + r) ∧ X 72 0 (30 * sv + r) = X 72 0 (120 + r) ∧ ∀ k, 0 ≤ k → k < X 72 0 (30 * sv + r) → X 73 0 (5 * (30 * sv + r) + k) = X 73 0 (5 * (120 + r) + k) ∧ X 74 0 (5 * (30 * sv + r) + k) = X 74 0 (5 * (120 + r) + k)
def vqM (X : Nat → Int → Int → Int) (sv r f : Int) : Prop := X 75 0 (5 * (30 * sv + r) + f) = X 75 0 (5 * (120 + r) + f) ∧ (2 < X 74 0 (5 * (30 * sv + r) + f) → 0 ≤ X 75 0 (5 * (30 * sv + r) + f) → rdE X (150 * sv + X 75 0 (5 * (30 * sv + r) + f)) (600 + X 75 0 (5 * (30 * sv + r) + f)))
def mxM (X : Nat → Int → Int → Int) (sv : Int) : Int := if X 70 0 4 < X 70 0 sv then X 70 0 sv else X 70 0 4
end
section
/-! the class's recording against the pure run -/
def cFc (X : Nat → Int → Int → Int) (Y : Nat → Int → Int → Option Int) (y : Int) : Int := X 19 (tyo (Y 15 y 0)) 1
def cLa (X : Nat → Int → Int → Int) (Y : Nat → Int → Int → Option Int) (y k : Int) : Int := X 21 (tyo (Y 15 y 0)) k
def cRid (Y : Nat → Int → Int → Option Int) (y k : Int) : Int := tyo (Y 17 y k)
def cVl (X : Nat → Int → Int → Int) (Y : Nat → Int → Int → Option Int) (y k : Int) : Int := if cLa X Y y k = 2 then (if 0 ≤ X 16 y k ∧ X 16 y k < X 0 0 3 then X 16 y k else -1) else X 16 y k
theorem nmAt_push {f g : Int → Int} {a b n : Int} (hn : 0 ≤ n) (hg : ∀ j, 0 ≤ j → j < n → g j = f j) (hb : g n = b) : nmAt g a (n + 1).toNat = if nmAt f a n.toNat = -1 then (if b = a then n else -1) else nmAt f a n.toNat := by
  have e : (n + 1).toNat = n.toNat + 1 := by omega
  have e2 : ((n.toNat : Nat) : Int) = n := by omega
  rw [e]
  simp only [nmAt]
  rw [nmAt_congr (f := g) (g := f) (fun j j0 j1 => hg j j0 (by omega)), e2, hb]
/-- the records' things and the things' numbers -/
def rcT (X : Nat → Int → Int → Int) (Y : Nat → Int → Int → Option Int) (g : Int) (s : Nat → Int → Int) : Prop :=
  X 7 g 0 = s 0 0 ∧ (∀ i, 0 ≤ i → i < s 0 0 → Y 5 0 i = some (s 1 i) ∧ (0 ≤ s 1 i ∧ s 1 i < X 0 0 3) ∧ X 8 g i = tyo (Y 15 (s 1 i) 0) ∧ X 9 g i = cFc X Y (s 1 i)) ∧ ∀ x, 0 ≤ x → x < X 0 0 3 → X 15 x 3 = nmAt (s 1) x (s 0 0).toNat
/-- the records' rows and the rows' numbers -/
def rcR (X : Nat → Int → Int → Int) (Y : Nat → Int → Int → Option Int) (ln : Int → Int) (g : Int) (s : Nat → Int → Int) : Prop :=
  X 7 g 6 = s 2 0 ∧ (∀ i, 0 ≤ i → i < s 2 0 → X 13 g i = ln (cRid Y (s 3 i) (s 4 i)) ∧ ∀ j, 0 ≤ j → j < X 13 g i → X 14 g (12 * i + j) = X 27 (cRid Y (s 3 i) (s 4 i)) j) ∧ ∀ y k w, 0 ≤ y → y < X 0 0 3 → 0 ≤ k → k < cFc X Y y → Y 17 y k = some w → X 26 w 1 = nmAt (fun q => cRid Y (s 3 q) (s 4 q)) w (s 2 0).toNat
section RC3
variable {M N : List Nat} {X X1 : Nat → Int → Int → Int} {Y Y1 : Nat → Int → Int → Option Int} {ln : Int → Int} {g x : Int} {s : Nat → Int → Int}
theorem rcT.frm (h : rcT X Y g s) (hF : Frm M X X1) (hH : Frm N Y Y1) (hd : ∀ c ∈ [701, 4, 800, 900, 1902, 1504], c ∉ M) (he : ∀ c ∈ [500, 1501], c ∉ N) : rcT X1 Y1 g s := by
  have a1 : X1 7 g 0 = X 7 g 0 := hF 7 g 0 (hd 701 (by decide))
  have a2 : X1 0 0 3 = X 0 0 3 := hF 0 0 3 (hd 4 (by decide))
  have a3 : ∀ i, X1 8 g i = X 8 g i := fun i => hF 8 g i (hd 800 (by decide))
  have a4 : ∀ i, X1 9 g i = X 9 g i := fun i => hF 9 g i (hd 900 (by decide))
  have a5 : ∀ i, X1 19 i 1 = X 19 i 1 := fun i => hF 19 i 1 (hd 1902 (by decide))
  have a6 : ∀ i, X1 15 i 3 = X 15 i 3 := fun i => hF 15 i 3 (hd 1504 (by decide))
  have b1 : ∀ i, Y1 5 0 i = Y 5 0 i := fun i => hH 5 0 i (he 500 (by decide))
  have b2 : ∀ i, Y1 15 i 0 = Y 15 i 0 := fun i => hH 15 i 0 (he 1501 (by decide))
  unfold rcT cFc at *
  simp only [a1, a2, a3, a4, a5, a6, b1, b2]
  exact h
theorem rcR.frm (h : rcR X Y ln g s) (hF : Frm M X X1) (hH : Frm N Y Y1) (hd : ∀ c ∈ [707, 4, 1300, 1400, 1902, 2602, 2700], c ∉ M) (he : ∀ c ∈ [1700, 1501], c ∉ N) : rcR X1 Y1 ln g s := by
  have a1 : X1 7 g 6 = X 7 g 6 := hF 7 g 6 (hd 707 (by decide))
  have a2 : X1 0 0 3 = X 0 0 3 := hF 0 0 3 (hd 4 (by decide))
  have a3 : ∀ i, X1 13 g i = X 13 g i := fun i => hF 13 g i (hd 1300 (by decide))
  have a4 : ∀ i, X1 14 g i = X 14 g i := fun i => hF 14 g i (hd 1400 (by decide))
  have a5 : ∀ i, X1 19 i 1 = X 19 i 1 := fun i => hF 19 i 1 (hd 1902 (by decide))
  have a6 : ∀ i, X1 26 i 1 = X 26 i 1 := fun i => hF 26 i 1 (hd 2602 (by decide))
  have a7 : ∀ i j, X1 27 i j = X 27 i j := fun i j => hF 27 i j (hd 2700 (by decide))
  have b1 : ∀ i j, Y1 17 i j = Y 17 i j := fun i j => hH 17 i j (he 1700 (by decide))
  have b2 : ∀ i, Y1 15 i 0 = Y 15 i 0 := fun i => hH 15 i 0 (he 1501 (by decide))
  unfold rcR cFc cRid at *
  simp only [a1, a2, a3, a4, a5, a6, a7, b1, b2]
  exact h
/-- a thing becomes the next record -/
theorem rcT.push (h : rcT X Y g s) (hp : 0 ≤ s 0 0) (hx : 0 ≤ x ∧ x < X 0 0 3) (hn : X 15 x 3 = -1) (e1 : X1 7 g 0 = X 7 g 0 + 1) (e2 : X1 0 0 3 = X 0 0 3) (e3 : X1 15 x 3 = X 7 g 0) (e4 : ∀ i, i ≠ x → X1 15 i 3 = X 15 i 3) (e5 : Y1 5 0 (X 7 g 0) = some x) (e6 : ∀ j, j ≠ X 7 g 0 → Y1 5 0 j = Y 5 0 j) (e7 : X1 8 g (X 7 g 0) = tyo (Y 15 x 0)) (e8 : ∀ j, j ≠ X 7 g 0 → X1 8 g j = X 8 g j) (e9 : X1 9 g (X 7 g 0) = cFc X Y x) (e10 : ∀ j, j ≠ X 7 g 0 → X1 9 g j = X 9 g j) (e11 : ∀ i, X1 19 i 1 = X 19 i 1) (e12 : ∀ i, Y1 15 i 0 = Y 15 i 0) : rcT X1 Y1 g (u2 (u2 s 1 (s 0 0) x) 0 0 (s 0 0 + 1)) := by
  obtain ⟨h1, h2, h3⟩ := h
  have f0 : u2 (u2 s 1 (s 0 0) x) 0 0 (s 0 0 + 1) 0 0 = s 0 0 + 1 := u2_s _ _ _ _
  have f1 : ∀ i, u2 (u2 s 1 (s 0 0) x) 0 0 (s 0 0 + 1) 1 i = u2 s 1 (s 0 0) x 1 i := fun i => u2_k _ _ _ _ (by decide)
  have f2 : ∀ i, i ≠ s 0 0 → u2 s 1 (s 0 0) x 1 i = s 1 i := fun i hi => u2_i _ _ _ hi
  have f3 : u2 s 1 (s 0 0) x 1 (s 0 0) = x := u2_s _ _ _ _
  rw [h1] at e1 e3 e5 e6 e7 e8 e9 e10
  refine ⟨by rw [f0, e1], fun i i0 i1 => ?_, fun y y0 y1 => ?_⟩
  · rw [f0] at i1
    rw [f1]
    unfold cFc at e9 ⊢
    by_cases e : i = s 0 0
    · rw [e, f3, e5, e7, e9, e2]
      simp only [e11, e12]
      exact ⟨trivial, hx, trivial, trivial⟩
    · rw [f2 i e, e6 i e, e8 i e, e10 i e, e2]
      simp only [e11, e12]
      have := h2 i i0 (by omega)
      unfold cFc at this
      exact this
  · rw [f0]
    rw [e2] at y1
    have hc : nmAt (u2 (u2 s 1 (s 0 0) x) 0 0 (s 0 0 + 1) 1) y (s 0 0 + 1).toNat = if nmAt (s 1) y (s 0 0).toNat = -1 then (if x = y then s 0 0 else -1) else nmAt (s 1) y (s 0 0).toNat := nmAt_push hp (fun j j0 j1 => by rw [f1, f2 j (by omega)]) (by rw [f1, f3])
    rw [hc]
    by_cases e : y = x
    · rw [e, e3, ← h3 x hx.1 hx.2, hn, if_pos rfl, if_pos rfl]
    · rw [e4 y e, h3 y y0 y1]
      by_cases c : nmAt (s 1) y (s 0 0).toNat = -1
      · rw [if_pos c, if_neg (fun q => e q.symm), c]
      · rw [if_neg c]
/-- a row becomes the next one -/
theorem rcR.push {y k w : Int} (h : rcR X Y ln g s) (hp : 0 ≤ s 2 0) (hl : ∀ i, X 13 g i ≤ 12) (hw : Y 17 y k = some w) (hn : X 26 w 1 = -1) (e1 : X1 7 g 6 = X 7 g 6 + 1) (e2 : X1 0 0 3 = X 0 0 3) (e3 : X1 26 w 1 = X 7 g 6) (e4 : ∀ i, i ≠ w → X1 26 i 1 = X 26 i 1) (e5 : X1 13 g (X 7 g 6) = ln w) (e6 : ∀ i, i ≠ X 7 g 6 → X1 13 g i = X 13 g i) (e7 : ∀ j, 0 ≤ j → j < ln w → X1 14 g (12 * X 7 g 6 + j) = X 27 w j) (e8 : ∀ p, p < 12 * X 7 g 6 → X1 14 g p = X 14 g p) (e9 : ∀ i j, X1 27 i j = X 27 i j) (e10 : ∀ i, X1 19 i 1 = X 19 i 1) (e11 : ∀ i, Y1 15 i 0 = Y 15 i 0) (e12 : ∀ i j, Y1 17 i j = Y 17 i j) : rcR X1 Y1 ln g (u2 (u2 (u2 s 3 (s 2 0) y) 4 (s 2 0) k) 2 0 (s 2 0 + 1)) := by
  obtain ⟨h1, h2, h3⟩ := h
  have f0 : u2 (u2 (u2 s 3 (s 2 0) y) 4 (s 2 0) k) 2 0 (s 2 0 + 1) 2 0 = s 2 0 + 1 := u2_s _ _ _ _
  have f3 : ∀ i, i ≠ s 2 0 → u2 (u2 (u2 s 3 (s 2 0) y) 4 (s 2 0) k) 2 0 (s 2 0 + 1) 3 i = s 3 i := fun i hi => by rw [u2_k _ _ _ _ (by decide), u2_k _ _ _ _ (by decide), u2_i _ _ _ hi]
  have f4 : ∀ i, i ≠ s 2 0 → u2 (u2 (u2 s 3 (s 2 0) y) 4 (s 2 0) k) 2 0 (s 2 0 + 1) 4 i = s 4 i := fun i hi => by rw [u2_k _ _ _ _ (by decide), u2_i _ _ _ hi, u2_k _ _ _ _ (by decide)]
  have g3 : u2 (u2 (u2 s 3 (s 2 0) y) 4 (s 2 0) k) 2 0 (s 2 0 + 1) 3 (s 2 0) = y := by rw [u2_k _ _ _ _ (by decide), u2_k _ _ _ _ (by decide), u2_s]
  have g4 : u2 (u2 (u2 s 3 (s 2 0) y) 4 (s 2 0) k) 2 0 (s 2 0 + 1) 4 (s 2 0) = k := by rw [u2_k _ _ _ _ (by decide), u2_s]
  have hr : cRid Y y k = w := tyo_some hw
  have hrd : ∀ a b, cRid Y1 a b = cRid Y a b := fun a b => by unfold cRid; rw [e12]
  rw [h1] at e1 e3 e5 e6 e7 e8
  refine ⟨by rw [f0, e1], fun i i0 i1 => ?_, fun y' k' w' y0 y1 k0 k1 hw' => ?_⟩
  · rw [f0] at i1
    rw [hrd]
    by_cases e : i = s 2 0
    · rw [e, g3, g4, hr, e5]
      exact ⟨rfl, fun j j0 j1 => by rw [e7 j j0 j1, e9]⟩
    · rw [f3 i e, f4 i e, e6 i e]
      obtain ⟨a, b⟩ := h2 i i0 (by omega)
      refine ⟨a, fun j j0 j1 => ?_⟩
      have := hl i
      rw [e8 _ (by omega), e9]
      exact b j j0 j1
  · rw [f0]
    rw [e2] at y1
    rw [e12] at hw'
    have k1' : k' < cFc X Y y' := by unfold cFc at k1 ⊢; rw [e10, e11] at k1; exact k1
    have hc : nmAt (fun q => cRid Y1 (u2 (u2 (u2 s 3 (s 2 0) y) 4 (s 2 0) k) 2 0 (s 2 0 + 1) 3 q) (u2 (u2 (u2 s 3 (s 2 0) y) 4 (s 2 0) k) 2 0 (s 2 0 + 1) 4 q)) w' (s 2 0 + 1).toNat = if nmAt (fun q => cRid Y (s 3 q) (s 4 q)) w' (s 2 0).toNat = -1 then (if w = w' then s 2 0 else -1) else nmAt (fun q => cRid Y (s 3 q) (s 4 q)) w' (s 2 0).toNat := nmAt_push hp (fun j j0 j1 => by show cRid Y1 _ _ = cRid Y (s 3 j) (s 4 j); rw [hrd, f3 j (by omega), f4 j (by omega)]) (by show cRid Y1 _ _ = w; rw [hrd, g3, g4, hr])
    rw [hc]
    have h4 := h3 y' k' w' y0 y1 k0 k1' hw'
    by_cases e : w' = w
    · rw [e] at h4 ⊢
      rw [e3, ← h4, hn, if_pos rfl, if_pos rfl]
    · rw [e4 w' e, h4]
      by_cases c : nmAt (fun q => cRid Y (s 3 q) (s 4 q)) w' (s 2 0).toNat = -1
      · rw [if_pos c, if_neg (fun q => e q.symm), c]
      · rw [if_neg c]
end RC3
end
section
/-! the class's recording: readers over versions, the slots -/
section RC4
variable {M N : List Nat} {X X1 : Nat → Int → Int → Int} {Y Y1 : Nat → Int → Int → Option Int} {ln : Int → Int} {g x : Int} {s s' : Nat → Int → Int}
theorem cFc.frm (hF : Frm M X X1) (hH : Frm N Y Y1) (hd : 1902 ∉ M) (he : 1501 ∉ N) : cFc X1 Y1 = cFc X Y := by
  funext y
  unfold cFc
  rw [hH 15 y 0 he, hF 19 _ 1 hd]
theorem cLa.frm (hF : Frm M X X1) (hH : Frm N Y Y1) (hd : 2100 ∉ M) (he : 1501 ∉ N) : cLa X1 Y1 = cLa X Y := by
  funext y k
  unfold cLa
  rw [hH 15 y 0 he, hF 21 _ k hd]
theorem cRid.frm (hH : Frm N Y Y1) (he : 1700 ∉ N) : cRid Y1 = cRid Y := by
  funext y k
  unfold cRid
  rw [hH 17 y k he]
theorem cVl.frm (hF : Frm M X X1) (hH : Frm N Y Y1) (hd : ∀ c ∈ [2100, 1600, 4], c ∉ M) (he : 1501 ∉ N) : cVl X1 Y1 = cVl X Y := by
  funext y k
  unfold cVl
  rw [cLa.frm hF hH (hd 2100 (by decide)) he, hF 16 y k (hd 1600 (by decide)), hF 0 0 3 (hd 4 (by decide))]
theorem rcT.cong (h : rcT X Y g s) (f0 : s' 0 0 = s 0 0) (f1 : s' 1 = s 1) : rcT X Y g s' := by
  unfold rcT at *
  rw [f0, f1]
  exact h
theorem rcR.cong (h : rcR X Y ln g s) (f2 : s' 2 0 = s 2 0) (f3 : s' 3 = s 3) (f4 : s' 4 = s 4) : rcR X Y ln g s' := by
  unfold rcR at *
  rw [f2, f3, f4]
  exact h
theorem u2_f (s : Nat → Int → Int) {κ κ' : Nat} (i v : Int) (h : κ' ≠ κ) : u2 s κ i v κ' = s κ' := funext fun j => u2_k s i v j h
def rcL (X : Nat → Int → Int → Int) (Y : Nat → Int → Int → Option Int) (g : Int) (s : Nat → Int → Int) (r k : Int) : Prop := X 10 g (5 * r + k) = X 20 (tyo (Y 15 (s 1 r) 0)) k ∧ X 11 g (5 * r + k) = cLa X Y (s 1 r) k ∧ X 12 g (5 * r + k) = s 5 (5 * r + k)
def rcV (X : Nat → Int → Int → Int) (Y : Nat → Int → Int → Option Int) (g : Int) (s : Nat → Int → Int) (r k : Int) : Prop := (∀ r' k', 0 ≤ r' → r' < r → 0 ≤ k' → k' < cFc X Y (s 1 r') → rcL X Y g s r' k') ∧ ∀ k', 0 ≤ k' → k' < k → rcL X Y g s r k'
end RC4
end
section
/-! a verdict by its kind -/
section CK
variable {kd a b v fc la lb va vb rn it mt ld : Int}
theorem ckF_c (hk : 0 ≤ kd ∧ kd ≤ 5) (h : ¬ (a < fc ∧ (kd = 2 → 3 ≤ la) ∧ ((kd = 1 ∨ kd = 5) → la = 2) ∧ ((kd = 0 ∨ kd = 3 ∨ kd = 4) → la = 0)) ∨ ((kd = 0 ∨ kd = 2) ∧ ¬ (b < fc ∧ lb = 0))) : ckF kd a b v fc la lb va vb rn it mt ld = 4 := by
  unfold ckF
  (repeat' split) <;> omega
theorem ckF_0 (hk : kd = 0) (h : a < fc ∧ la = 0 ∧ b < fc ∧ lb = 0) : ckF kd a b v fc la lb va vb rn it mt ld = if vb = 0 then 5 else 0 := by
  unfold ckF
  rw [if_pos hk, if_neg (fun q => q h)]
theorem ckF_1 (hk : kd = 1) (h : a < fc ∧ la = 2) : ckF kd a b v fc la lb va vb rn it mt ld = if mt < 0 then 1 else if mt = v then 0 else 4 := by
  unfold ckF
  rw [if_neg (by omega), if_pos hk, if_neg (fun q => q h)]
theorem ckF_2 (hk : kd = 2) (h : a < fc ∧ 3 ≤ la ∧ b < fc ∧ lb = 0) : ckF kd a b v fc la lb va vb rn it mt ld = if rn < 0 then 1 else if vb < 0 ∨ rn ≤ vb then 2 else if v < it then 0 else 6 := by
  unfold ckF
  rw [if_neg (by omega), if_neg (by omega), if_pos hk, if_neg (fun q => q h)]
theorem ckF_3 (hk : kd = 3) (h : a < fc ∧ la = 0) : ckF kd a b v fc la lb va vb rn it mt ld = if 12 < va then 6 else if va < 0 then 3 else 0 := by
  unfold ckF
  rw [if_neg (by omega), if_neg (by omega), if_neg (by omega), if_pos hk, if_neg (fun q => q h)]
theorem ckF_4 (hk : kd = 4) (h : a < fc ∧ la = 0) : ckF kd a b v fc la lb va vb rn it mt ld = if va < v then 6 else 0 := by
  unfold ckF
  rw [if_neg (by omega), if_neg (by omega), if_neg (by omega), if_neg (by omega), if_pos hk, if_neg (fun q => q h)]
theorem ckF_5 (hk : kd = 5) (h : a < fc ∧ la = 2) : ckF kd a b v fc la lb va vb rn it mt ld = if mt < 0 then 1 else if ld < -1 then 4 else if ld < 0 then 1 else 0 := by
  unfold ckF
  rw [if_neg (by omega), if_neg (by omega), if_neg (by omega), if_neg (by omega), if_neg (by omega), if_neg (fun q => q h)]
end CK
end
section
/-! putting back: a field's verdict, a field's step, the run of fields and records -/
def goZ (a b : Int) : Prop := a = b ∨ (a = 1 ∧ b = 0) ∨ (a = 3 ∧ 3 < b) ∨ (a = 4 ∧ b = 5)
def fvF (tt lane fl v ou r1 r2 : Int) : Int := if tt < 0 then (if r1 = 0 then 8 else 0) else if ¬ (fl = lane ∨ (fl = 1 ∧ lane = 0) ∨ (fl = 3 ∧ 3 < lane) ∨ (fl = 4 ∧ lane = 5)) then 9 else if lane = 1 ∧ 0 ≤ v ∧ ou = 1 ∧ r2 = 0 then 7 else 0
/-- where the saved field k of record r of save s goes, in the reference -/
def toM (X : Nat → Int → Int → Int) (s r k : Int) : Int := nmAt (fun j => X 45 0 (5 * X 71 0 (30 * s + r) + j)) (X 73 0 (5 * (30 * s + r) + k)) (X 44 0 (X 71 0 (30 * s + r))).toNat
def tlM (X : Nat → Int → Int → Int) (s r k : Int) : Int := X 46 0 (5 * X 71 0 (30 * s + r) + toM X s r k)
def tvM (X : Nat → Int → Int → Int) (s r k : Int) : Int := X 75 0 (5 * (30 * s + r) + k)
def twM (X : Nat → Int → Int → Int) (s r k : Int) : Int := if tlM X s r k = 1 ∧ 0 ≤ tvM X s r k ∧ X 42 0 (tvM X s r k) = 1 then -1 else tvM X s r k
def fvM (X : Nat → Int → Int → Int) (s r k rule : Int) : Int := fvF (toM X s r k) (tlM X s r k) (X 74 0 (5 * (30 * s + r) + k)) (tvM X s r k) (X 42 0 (tvM X s r k)) (andZ rule 1) (andZ rule 2)
def rbM (s w lane : Int) (X X1 : Nat → Int → Int → Int) (row : Int) : Prop := (0 ≤ X 85 0 (3 * w + lane - 3) ∧ row = X 85 0 (3 * w + lane - 3) ∧ X1 = X) ∨ (X 85 0 (3 * w + lane - 3) < 0 ∧ (0 ≤ row ∧ row ≤ 399) ∧ ((∀ x k, 0 ≤ x → x < X 40 0 13 → 0 ≤ k → k < X 44 0 (X 55 0 x) → 3 ≤ X 46 0 (5 * X 55 0 x + k) → X 56 0 (5 * x + k) ≠ row) ∧ ∀ m, 0 ≤ m → m < X 40 0 22 → X 66 0 m ≠ row) ∧ (X1 57 0 row = lane ∧ X1 58 0 row = X 78 0 (150 * s + w)) ∧ (∀ y, y ≠ row → X1 57 0 y = X 57 0 y ∧ X1 58 0 y = X 58 0 y) ∧ (∀ j, 0 ≤ j → j < X 78 0 (150 * s + w) → X1 59 0 (12 * row + j) = X 79 0 (12 * (150 * s + w) + j)) ∧ (∀ p, ¬ (12 * row ≤ p ∧ p < 12 * row + 12) → X1 59 0 p = X 59 0 p) ∧ X1 85 0 (3 * w + lane - 3) = row ∧ (∀ j, j ≠ 3 * w + lane - 3 → X1 85 0 j = X 85 0 j) ∧ Frm [6000, 5700, 5800, 5900, 8500] X X1)
def fStM (s r bs k : Int) (X X1 : Nat → Int → Int → Int) : Prop := (toM X s r k < 0 ∧ X1 = X) ∨ (0 ≤ toM X s r k ∧ (tlM X s r k < 2 ∨ twM X s r k < 0) ∧ X1 = u3 X 56 0 (5 * (bs + r) + toM X s r k) (twM X s r k)) ∨ (0 ≤ toM X s r k ∧ tlM X s r k = 2 ∧ 0 ≤ twM X s r k ∧ X1 = u3 X 56 0 (5 * (bs + r) + toM X s r k) (bs + twM X s r k)) ∨ (0 ≤ toM X s r k ∧ 3 ≤ tlM X s r k ∧ 0 ≤ twM X s r k ∧ ∃ (X' : Nat → Int → Int → Int) (row : Int), rbM s (twM X s r k) (tlM X s r k) X X' row ∧ X1 = u3 X' 56 0 (5 * (bs + r) + toM X s r k) row)
def fTrM (s r rule bs : Int) : Nat → (Nat → Int → Int → Int) → (Nat → Int → Int → Int) → Prop
  | 0, X, X1 => X1 = X
  | k + 1, X, X1 => ∃ X', fTrM s r rule bs k X X' ∧ fvM X' s r (k : Int) rule = 0 ∧ fStM s r bs (k : Int) X' X1
def rTrM (s rule bs : Int) : Nat → (Nat → Int → Int → Int) → (Nat → Int → Int → Int) → Prop
  | 0, X, X1 => X1 = X
  | r + 1, X, X1 => ∃ X', rTrM s rule bs r X X' ∧ fTrM s (r : Int) rule bs (X' 72 0 (30 * s + (r : Int))).toNat X' X1
def fEndM (s r rule bs z : Int) (X X1 : Nat → Int → Int → Int) : Prop := (z = 0 ∧ fTrM s r rule bs (X 72 0 (30 * s + r)).toNat X X1) ∨ (z ≠ 0 ∧ ∃ (k : Int) (X' : Nat → Int → Int → Int), 0 ≤ k ∧ k < X 72 0 (30 * s + r) ∧ fTrM s r rule bs k.toNat X X' ∧ fvM X' s r k rule ≠ 0 ∧ z = -10 - fvM X' s r k rule ∧ Frm [4042, 4043, 4044] X' X1)
theorem fTrM.push {s r rule bs k : Int} {X Xa Xb : Nat → Int → Int → Int} (h : fTrM s r rule bs k.toNat X Xa) (hk : 0 ≤ k) (hv : fvM Xa s r k rule = 0) (hs : fStM s r bs k Xa Xb) : fTrM s r rule bs (k + 1).toNat X Xb := by
  rw [show (k + 1).toNat = k.toNat + 1 by omega]
  refine ⟨Xa, h, ?_⟩
  rw [show ((k.toNat : Nat) : Int) = k by omega]
  exact ⟨hv, hs⟩
theorem rTrM.push {s r rule bs : Int} {X Xa Xb : Nat → Int → Int → Int} (h : rTrM s rule bs r.toNat X Xa) (hr : 0 ≤ r) (hs : fTrM s r rule bs (Xa 72 0 (30 * s + r)).toNat Xa Xb) : rTrM s rule bs (r + 1).toNat X Xb := by
  rw [show (r + 1).toNat = r.toNat + 1 by omega]
  refine ⟨Xa, h, ?_⟩
  rw [show ((r.toNat : Nat) : Int) = r by omega]
  exact hs
section FV
variable {tt lane fl v ou r1 r2 : Int}
theorem fvF_g (h : tt < 0) (h1 : r1 = 0) : fvF tt lane fl v ou r1 r2 = 8 := by unfold fvF; rw [if_pos h, if_pos h1]
theorem fvF_g0 (h : tt < 0) (h1 : r1 ≠ 0) : fvF tt lane fl v ou r1 r2 = 0 := by unfold fvF; rw [if_pos h, if_neg h1]
theorem fvF_l (h : 0 ≤ tt) (h1 : ¬ (fl = lane ∨ (fl = 1 ∧ lane = 0) ∨ (fl = 3 ∧ 3 < lane) ∨ (fl = 4 ∧ lane = 5))) : fvF tt lane fl v ou r1 r2 = 9 := by unfold fvF; rw [if_neg (by omega), if_pos h1]
theorem fvF_w (h : 0 ≤ tt) (h1 : fl = lane ∨ (fl = 1 ∧ lane = 0) ∨ (fl = 3 ∧ 3 < lane) ∨ (fl = 4 ∧ lane = 5)) (h2 : lane = 1 ∧ 0 ≤ v ∧ ou = 1 ∧ r2 = 0) : fvF tt lane fl v ou r1 r2 = 7 := by unfold fvF; rw [if_neg (by omega), if_neg (fun q => q h1), if_pos h2]
theorem fvF_0 (h : 0 ≤ tt) (h1 : fl = lane ∨ (fl = 1 ∧ lane = 0) ∨ (fl = 3 ∧ 3 < lane) ∨ (fl = 4 ∧ lane = 5)) (h2 : ¬ (lane = 1 ∧ 0 ≤ v ∧ ou = 1 ∧ r2 = 0)) : fvF tt lane fl v ou r1 r2 = 0 := by unfold fvF; rw [if_neg (by omega), if_neg (fun q => q h1), if_neg h2]
end FV
theorem stM_eq {L : List Nat} {X X0 : Nat → Int → Int → Int} (hF : Frm L X X0) (hd : ∀ q ∈ [4200, 4400, 4500, 4600, 7100, 7300, 7400, 7500], q ∉ L) : toM X0 = toM X ∧ tlM X0 = tlM X ∧ tvM X0 = tvM X ∧ twM X0 = twM X ∧ fvM X0 = fvM X := by
  have e2 := hF.arr 42 (by decide +kernel) (hd 4200 (by decide))
  have e4 := hF.arr 44 (by decide +kernel) (hd 4400 (by decide))
  have e5 := hF.arr 45 (by decide +kernel) (hd 4500 (by decide))
  have e6 := hF.arr 46 (by decide +kernel) (hd 4600 (by decide))
  have f1 := hF.arr 71 (by decide +kernel) (hd 7100 (by decide))
  have f3 := hF.arr 73 (by decide +kernel) (hd 7300 (by decide))
  have f4 := hF.arr 74 (by decide +kernel) (hd 7400 (by decide))
  have f5 := hF.arr 75 (by decide +kernel) (hd 7500 (by decide))
  have g1 : toM X0 = toM X := by
    funext s r k
    simp only [toM, e4, e5, f1, f3]
  have g2 : tlM X0 = tlM X := by
    funext s r k
    simp only [tlM, g1, e6, f1]
  have g3 : tvM X0 = tvM X := by
    funext s r k
    simp only [tvM, f5]
  have g4 : twM X0 = twM X := by
    funext s r k
    simp only [twM, g2, g3, e2]
  refine ⟨g1, g2, g3, g4, ?_⟩
  funext s r k rule
  simp only [fvM, g1, g2, g3, e2, f4]
end
section
/-! the class's verdicts -/
theorem tyo_s {q : Int} : tyo (some q) = q := rfl
def jdC (X : Nat → Int → Int → Int) (Y : Nat → Int → Int → Option Int) (ln : Int → Int) (x z : Int) : Prop := (z = 0 ∧ ∀ c, 0 ≤ c → c < X 19 (tyo (Y 15 x 0)) 6 → ckC X Y ln x (tyo (Y 24 (tyo (Y 15 x 0)) c)) = 0) ∨ (z ≠ 0 ∧ ∃ c, 0 ≤ c ∧ c < X 19 (tyo (Y 15 x 0)) 6 ∧ (∀ c', 0 ≤ c' → c' < c → ckC X Y ln x (tyo (Y 24 (tyo (Y 15 x 0)) c')) = 0) ∧ z = ckC X Y ln x (tyo (Y 24 (tyo (Y 15 x 0)) c)))
/-- a row of references whose end moved down by one -/
def ShY (κ : Nat) (Y Ya : Nat → Int → Int → Option Int) (q k i : Int) : Prop := ∀ y j, Ya κ y j = if y = q ∧ k ≤ j ∧ j < i then Y κ y (j + 1) else Y κ y j
theorem ShY.in_ {κ : Nat} {Y Ya : Nat → Int → Int → Option Int} {q k : Int} (h : Ya κ = Y κ) : ShY κ Y Ya q k k := fun y j => by rw [if_neg (fun g => by omega), h]
theorem ShY.step {κ : Nat} {Y Ya Yb : Nat → Int → Int → Option Int} {q k i : Int} {v : Option Int} (h : ShY κ Y Ya q k i) (hk : k ≤ i) (e : Yb κ = u3 Ya κ q i v κ) (hv : v = Ya κ q (i + 1)) : ShY κ Y Yb q k (i + 1) := fun y j => by
  rw [e]
  by_cases hc : y = q ∧ j = i
  · obtain ⟨rfl, rfl⟩ := hc
    rw [u3_s, hv, h, if_neg (fun g => by omega), if_pos ⟨rfl, hk, by omega⟩]
  · have e2 : u3 Ya κ q i v κ y j = Ya κ y j := by
      simp only [u3]
      rw [if_neg (fun g => hc g.2)]
    rw [e2, h]
    by_cases hd : y = q ∧ k ≤ j ∧ j < i
    · rw [if_pos hd, if_pos ⟨hd.1, hd.2.1, by omega⟩]
    · rw [if_neg hd, if_neg (fun g => hd ⟨g.1, g.2.1, by
        have : j ≠ i := fun q9 => hc ⟨g.1, q9⟩
        omega⟩)]
/-! a field comes to, or goes from, the things of a type, in the class -/
def FdC (X Xa : Nat → Int → Int → Int) (Y Ya : Nat → Int → Int → Option Int) (t K dv x : Int) : Prop := (∀ y, 0 ≤ y → y < x → Y 15 y 0 = some t → Xa 16 y K = dv ∧ Ya 17 y K = none) ∧ ∀ y j, ¬ (0 ≤ y ∧ y < x ∧ Y 15 y 0 = some t ∧ j = K) → Xa 16 y j = X 16 y j ∧ Ya 17 y j = Y 17 y j
def DrC (X Xa : Nat → Int → Int → Int) (Y Ya : Nat → Int → Int → Option Int) (t k x : Int) : Prop := (∀ y, 0 ≤ y → y < x → Y 15 y 0 = some t → ∀ j, Xa 16 y j = (if k ≤ j ∧ j < 4 then X 16 y (j + 1) else X 16 y j) ∧ Ya 17 y j = (if k ≤ j ∧ j < 4 then Y 17 y (j + 1) else Y 17 y j)) ∧ ∀ y, ¬ (0 ≤ y ∧ y < x ∧ Y 15 y 0 = some t) → ∀ j, Xa 16 y j = X 16 y j ∧ Ya 17 y j = Y 17 y j
section FC
variable {X Xa Xo Xe : Nat → Int → Int → Int} {Y Ya Yo Ye : Nat → Int → Int → Option Int} {t K dv x k : Int}
theorem FdC.in_ (e : ∀ y j, Xa 16 y j = X 16 y j) (f : ∀ y j, Ya 17 y j = Y 17 y j) : FdC X Xa Y Ya t K dv 0 := ⟨fun y a b => by omega, fun y j _ => ⟨e y j, f y j⟩⟩
theorem FdC.yes (h : FdC X Xa Y Ya t K dv x) (s1 : Xe 16 x K = dv) (s2 : ∀ y j, ¬ (y = x ∧ j = K) → Xe 16 y j = Xa 16 y j) (s3 : Ye 17 x K = none) (s4 : ∀ y j, ¬ (y = x ∧ j = K) → Ye 17 y j = Ya 17 y j) (hx : 0 ≤ x) (ht : Y 15 x 0 = some t) : FdC X Xe Y Ye t K dv (x + 1) := by
  refine ⟨fun y a b c => ?_, fun y j n => ?_⟩
  · by_cases e : y = x
    · rw [e]
      exact ⟨s1, s3⟩
    · rw [s2 y K (fun q => e q.1), s4 y K (fun q => e q.1)]
      exact h.1 y a (by omega) c
  · have e : ¬ (y = x ∧ j = K) := fun q => n ⟨by omega, by omega, by rw [q.1]; exact ht, q.2⟩
    rw [s2 y j e, s4 y j e]
    exact h.2 y j (fun q => n ⟨q.1, by omega, q.2.2.1, q.2.2.2⟩)
theorem FdC.no (h : FdC X Xa Y Ya t K dv x) (ht : Y 15 x 0 ≠ some t) : FdC X Xa Y Ya t K dv (x + 1) := by
  refine ⟨fun y a b c => ?_, fun y j n => h.2 y j (fun q => n ⟨q.1, by omega, q.2.2.1, q.2.2.2⟩)⟩
  exact h.1 y a (by
    have : y ≠ x := fun q => ht (by rw [← q]; exact c)
    omega) c
theorem DrC.in_ (e : ∀ y j, Xa 16 y j = X 16 y j) (f : ∀ y j, Ya 17 y j = Y 17 y j) : DrC X Xa Y Ya t k 0 := ⟨fun y a b => by omega, fun y _ j => ⟨e y j, f y j⟩⟩
theorem DrC.yes (h : DrC X Xa Y Ya t k x) (s1 : Sh 16 Xo Xe x k 4) (s2 : ShY 17 Yo Ye x k 4) (e1 : ∀ y j, Xo 16 y j = Xa 16 y j) (e2 : ∀ y j, Yo 17 y j = Ya 17 y j) (hx : 0 ≤ x) (ht : Y 15 x 0 = some t) : DrC X Xe Y Ye t k (x + 1) := by
  refine ⟨fun y a b c j => ?_, fun y n j => ?_⟩
  · rw [s1, s2, e1, e1, e2, e2]
    by_cases e : y = x
    · subst e
      have h9 := fun j => h.2 y (fun q => by omega) j
      by_cases q : k ≤ j ∧ j < 4
      · have q2 : y = y ∧ k ≤ j ∧ j < 4 := ⟨rfl, q.1, q.2⟩
        rw [if_pos q2, if_pos q2, if_pos q, if_pos q]
        exact h9 (j + 1)
      · have q2 : ¬ (y = y ∧ k ≤ j ∧ j < 4) := fun w => q w.2
        rw [if_neg q2, if_neg q2, if_neg q, if_neg q]
        exact h9 j
    · have q2 : ¬ (y = x ∧ k ≤ j ∧ j < 4) := fun w => e w.1
      rw [if_neg q2, if_neg q2]
      exact h.1 y a (by omega) c j
  · have e : y ≠ x := fun q => n ⟨by omega, by omega, by rw [q]; exact ht⟩
    rw [s1, s2, if_neg (fun w => e w.1), if_neg (fun w => e w.1), e1, e2]
    exact h.2 y (fun q => n ⟨q.1, by omega, q.2.2⟩) j
theorem DrC.no (h : DrC X Xa Y Ya t k x) (ht : Y 15 x 0 ≠ some t) : DrC X Xa Y Ya t k (x + 1) := by
  refine ⟨fun y a b c => ?_, fun y n => h.2 y (fun q => n ⟨q.1, by omega, q.2.2⟩)⟩
  exact h.1 y a (by
    have : y ≠ x := fun q => ht (by rw [← q]; exact c)
    omega) c
end FC
/-- verdicts over versions, in the class -/
theorem ckC_frm {M N : List Nat} {X X1 : Nat → Int → Int → Int} {Y Y1 : Nat → Int → Int → Option Int} {ln : Int → Int} (hF : Frm M X X1) (hH : Frm N Y Y1) (hd : ∀ c ∈ [4, 1600, 1901, 1902, 2000, 2100, 2501, 2502, 2503, 2504, 2700], c ∉ M) (he : ∀ c ∈ [1501, 1700], c ∉ N) : ckC X1 Y1 ln = ckC X Y ln := by
  have a0 : X1 0 0 3 = X 0 0 3 := hF 0 0 3 (hd 4 (by decide))
  have a1 : X1 16 = X 16 := hF.arr 16 (by decide +kernel) (hd 1600 (by decide))
  have a2 : ∀ i, X1 19 i 0 = X 19 i 0 := fun i => hF 19 i 0 (hd 1901 (by decide))
  have a3 : ∀ i, X1 19 i 1 = X 19 i 1 := fun i => hF 19 i 1 (hd 1902 (by decide))
  have a4 : X1 20 = X 20 := hF.arr 20 (by decide +kernel) (hd 2000 (by decide))
  have a5 : X1 21 = X 21 := hF.arr 21 (by decide +kernel) (hd 2100 (by decide))
  have a6 : ∀ i, X1 25 i 0 = X 25 i 0 := fun i => hF 25 i 0 (hd 2501 (by decide))
  have a7 : ∀ i, X1 25 i 1 = X 25 i 1 := fun i => hF 25 i 1 (hd 2502 (by decide))
  have a8 : ∀ i, X1 25 i 2 = X 25 i 2 := fun i => hF 25 i 2 (hd 2503 (by decide))
  have a9 : ∀ i, X1 25 i 3 = X 25 i 3 := fun i => hF 25 i 3 (hd 2504 (by decide))
  have b0 : X1 27 = X 27 := hF.arr 27 (by decide +kernel) (hd 2700 (by decide))
  have c1 : ∀ i, Y1 15 i 0 = Y 15 i 0 := fun i => hH 15 i 0 (he 1501 (by decide))
  have c2 : Y1 17 = Y 17 := hH.arr 17 (by decide +kernel) (he 1700 (by decide))
  funext x g
  simp only [ckC, ldC, a0, a1, a2, a3, a4, a5, a6, a7, a8, a9, b0, c1, c2]
theorem jdC_frm {M N : List Nat} {X X1 : Nat → Int → Int → Int} {Y Y1 : Nat → Int → Int → Option Int} {ln : Int → Int} (hF : Frm M X X1) (hH : Frm N Y Y1) (hd : ∀ c ∈ [4, 1600, 1901, 1902, 1907, 2000, 2100, 2501, 2502, 2503, 2504, 2700], c ∉ M) (he : ∀ c ∈ [1501, 1700, 2400], c ∉ N) : jdC X1 Y1 ln = jdC X Y ln := by
  have e := ckC_frm (ln := ln) hF hH (fun c hc => hd c (by simp only [List.mem_cons, List.not_mem_nil, or_false] at hc ⊢; omega)) (fun c hc => he c (by simp only [List.mem_cons, List.not_mem_nil, or_false] at hc ⊢; omega))
  have c1 : ∀ i, Y1 15 i 0 = Y 15 i 0 := fun i => hH 15 i 0 (he 1501 (by decide))
  have c2 : Y1 24 = Y 24 := hH.arr 24 (by decide +kernel) (he 2400 (by decide))
  have c3 : ∀ i, X1 19 i 6 = X 19 i 6 := fun i => hF 19 i 6 (hd 1907 (by decide))
  funext x z
  simp only [jdC, e, c1, c2, c3]
end
section
/-! the class, one position of recording; the other records stay -/
def gK (g : Int) (X X1 : Nat → Int → Int → Int) : Prop := ∀ y, y ≠ g → (X1 7 y 0 = X 7 y 0 ∧ X1 7 y 6 = X 7 y 6) ∧ X1 8 y = X 8 y ∧ X1 9 y = X 9 y ∧ X1 10 y = X 10 y ∧ X1 11 y = X 11 y ∧ X1 12 y = X 12 y ∧ X1 13 y = X 13 y ∧ X1 14 y = X 14 y
section GK
variable {X X1 X2 : Nat → Int → Int → Int} {g : Int} {M : List Nat}
theorem gK.rf : gK g X X := fun _ _ => ⟨⟨rfl, rfl⟩, rfl, rfl, rfl, rfl, rfl, rfl, rfl⟩
theorem gK.tr (h : gK g X X1) (k : gK g X1 X2) : gK g X X2 := fun y hy => by
  obtain ⟨⟨a1, a2⟩, a3, a4, a5, a6, a7, a8, a9⟩ := h y hy
  obtain ⟨⟨b1, b2⟩, b3, b4, b5, b6, b7, b8, b9⟩ := k y hy
  exact ⟨⟨b1.trans a1, b2.trans a2⟩, b3.trans a3, b4.trans a4, b5.trans a5, b6.trans a6, b7.trans a7, b8.trans a8, b9.trans a9⟩
theorem gK.set {κ : Nat} {i j v : Int} (h : gK g X X1) (hk : 7 ≤ κ ∧ κ ≤ 14 → i = g) : gK g X (u3 X1 κ i j v) := fun y hy => by
  have e : ∀ q : Nat, 7 ≤ q → q ≤ 14 → u3 X1 κ i j v q y = X1 q y := fun q h1 h2 => u3_ne _ _ _ _ _ _ _ (fun w => hy (by
    have := hk ⟨by omega, by omega⟩
    rw [w.2, this]))
  obtain ⟨⟨a1, a2⟩, a3, a4, a5, a6, a7, a8, a9⟩ := h y hy
  rw [e 7 (by decide) (by decide), e 8 (by decide) (by decide), e 9 (by decide) (by decide), e 10 (by decide) (by decide), e 11 (by decide) (by decide), e 12 (by decide) (by decide), e 13 (by decide) (by decide), e 14 (by decide) (by decide)]
  exact ⟨⟨a1, a2⟩, a3, a4, a5, a6, a7, a8, a9⟩
theorem gK.frm (hF : Frm M X X1) (hd : ∀ c ∈ [701, 707, 800, 900, 1000, 1100, 1200, 1300, 1400], c ∉ M) : gK g X X1 := fun y _ =>
  ⟨⟨hF 7 y 0 (hd 701 (by decide)), hF 7 y 6 (hd 707 (by decide))⟩, congrFun (hF.arr 8 (by decide +kernel) (hd 800 (by decide))) y, congrFun (hF.arr 9 (by decide +kernel) (hd 900 (by decide))) y, congrFun (hF.arr 10 (by decide +kernel) (hd 1000 (by decide))) y, congrFun (hF.arr 11 (by decide +kernel) (hd 1100 (by decide))) y, congrFun (hF.arr 12 (by decide +kernel) (hd 1200 (by decide))) y, congrFun (hF.arr 13 (by decide +kernel) (hd 1300 (by decide))) y, congrFun (hF.arr 14 (by decide +kernel) (hd 1400 (by decide))) y⟩
end GK
section CS
variable {X X1 : Nat → Int → Int → Int} {Y Y1 : Nat → Int → Int → Option Int} {ln : Int → Int} {g : Int} {s s' : Nat → Int → Int} {la vl rid : Int → Int → Int} {y k p v : Int}
def cStp (la vl rid : Int → Int → Int) (y k p : Int) (X1 : Nat → Int → Int → Int) (Y1 : Nat → Int → Int → Option Int) (ln : Int → Int) (g : Int) (s : Nat → Int → Int) (v : Int) : Prop := rcT X1 Y1 g (recP la vl rid y k p s) ∧ rcR X1 Y1 ln g (recP la vl rid y k p s) ∧ v = recP la vl rid y k p s 5 p
theorem cStp_v (hT : rcT X Y g s) (hR : rcR X Y ln g s) (e : recP la vl rid y k p s = u2 s 5 p v) : cStp la vl rid y k p X Y ln g s v := by
  unfold cStp
  rw [e]
  exact ⟨hT.cong (u2_k _ _ _ _ (by decide)) (u2_f2 _ _ _ (by decide)), hR.cong (u2_k _ _ _ _ (by decide)) (u2_f2 _ _ _ (by decide)) (u2_f2 _ _ _ (by decide)), (u2_s _ _ _ _).symm⟩
theorem cStp_t (hl : la y k = 2) (hv : 0 ≤ vl y k) (hT : rcT X1 Y1 g (if nmAt (s 1) (vl y k) (s 0 0).toNat = -1 then u2 (u2 s 1 (s 0 0) (vl y k)) 0 0 (s 0 0 + 1) else s)) (hR : rcR X1 Y1 ln g s) (hz : v = if nmAt (s 1) (vl y k) (s 0 0).toNat = -1 then s 0 0 else nmAt (s 1) (vl y k) (s 0 0).toNat) : cStp la vl rid y k p X1 Y1 ln g s v := by
  unfold cStp
  by_cases c : nmAt (s 1) (vl y k) (s 0 0).toNat = -1
  · rw [if_pos c] at hT hz
    rw [recP_2w hl hv c]
    refine ⟨hT.cong (by rw [u2_s, u2_s]) ?_, hR.cong ?_ ?_ ?_, ?_⟩
    · rw [u2_f2 (κ := 0) _ _ _ (by decide), u2_f2 (κ := 5) _ _ _ (by decide), u2_f2 (κ := 0) _ _ _ (by decide)]
    · rw [u2_k _ _ _ _ (by decide), u2_k _ _ _ _ (by decide), u2_k _ _ _ _ (by decide)]
    · rw [u2_f2 _ _ _ (by decide), u2_f2 _ _ _ (by decide), u2_f2 _ _ _ (by decide)]
    · rw [u2_f2 _ _ _ (by decide), u2_f2 _ _ _ (by decide), u2_f2 _ _ _ (by decide)]
    · rw [u2_k _ _ _ _ (by decide), u2_s]
      exact hz
  · rw [if_neg c] at hT hz
    rw [hz]
    exact cStp_v hT hR (recP_2o hl hv c)
theorem cStp_r (hl : 3 ≤ la y k) (hv : 0 ≤ rid y k) (hT : rcT X1 Y1 g s) (hR : rcR X1 Y1 ln g (if nmAt (fun q => rid (s 3 q) (s 4 q)) (rid y k) (s 2 0).toNat = -1 then u2 (u2 (u2 s 3 (s 2 0) y) 4 (s 2 0) k) 2 0 (s 2 0 + 1) else s)) (hz : v = if nmAt (fun q => rid (s 3 q) (s 4 q)) (rid y k) (s 2 0).toNat = -1 then s 2 0 else nmAt (fun q => rid (s 3 q) (s 4 q)) (rid y k) (s 2 0).toNat) : cStp la vl rid y k p X1 Y1 ln g s v := by
  unfold cStp
  by_cases c : nmAt (fun q => rid (s 3 q) (s 4 q)) (rid y k) (s 2 0).toNat = -1
  · rw [if_pos c] at hR hz
    rw [recP_3w hl hv c]
    refine ⟨hT.cong ?_ ?_, hR.cong (by rw [u2_s, u2_s]) ?_ ?_, ?_⟩
    · rw [u2_k _ _ _ _ (by decide), u2_k _ _ _ _ (by decide), u2_k _ _ _ _ (by decide), u2_k _ _ _ _ (by decide)]
    · rw [u2_f2 _ _ _ (by decide), u2_f2 _ _ _ (by decide), u2_f2 _ _ _ (by decide), u2_f2 _ _ _ (by decide)]
    · rw [u2_f2 (κ := 2) _ _ _ (by decide), u2_f2 (κ := 5) _ _ _ (by decide), u2_f2 (κ := 4) _ _ _ (by decide), u2_f2 (κ := 2) _ _ _ (by decide), u2_f2 (κ := 4) _ _ _ (by decide)]
    · rw [u2_f2 (κ := 2) _ _ _ (by decide), u2_f2 (κ := 5) _ _ _ (by decide), u2_f2 (κ := 2) _ _ _ (by decide)]
    · rw [u2_k _ _ _ _ (by decide), u2_s]
      exact hz
  · rw [if_neg c] at hR hz
    rw [hz]
    exact cStp_v hT hR (recP_3o hl hv c)
/-- what the slots speak of beside their own rows -/
def cSt (X X1 : Nat → Int → Int → Int) (Y Y1 : Nat → Int → Int → Option Int) : Prop := (∀ i, X1 19 i 1 = X 19 i 1) ∧ X1 20 = X 20 ∧ X1 21 = X 21 ∧ ∀ i, Y1 15 i 0 = Y 15 i 0
theorem cSt.of {L N : List Nat} (h : Frm L X X1) (k : Frm N Y Y1) (hd : ∀ q ∈ [1902, 2000, 2100], q ∉ L) (he : 1501 ∉ N) : cSt X X1 Y Y1 := ⟨fun i => h 19 i 1 (hd 1902 (by decide)), h.arr 20 (by decide +kernel) (hd 2000 (by decide)), h.arr 21 (by decide +kernel) (hd 2100 (by decide)), fun i => k 15 i 0 he⟩
theorem rcL.of {r k : Int} (h : rcL X Y g s r k) (hs : cSt X X1 Y Y1) (e3 : X1 10 g (5 * r + k) = X 10 g (5 * r + k)) (e4 : X1 11 g (5 * r + k) = X 11 g (5 * r + k)) (e5 : X1 12 g (5 * r + k) = X 12 g (5 * r + k)) (f1 : s' 1 r = s 1 r) (f5 : s' 5 (5 * r + k) = s 5 (5 * r + k)) : rcL X1 Y1 g s' r k := by
  obtain ⟨h4, h5, h6, h7⟩ := hs
  unfold rcL cLa at *
  rw [e3, e4, e5, f1, f5, h5, h6, h7]
  exact h
theorem cSt.fc (hs : cSt X X1 Y Y1) (q : Int) : cFc X1 Y1 q = cFc X Y q := by
  unfold cFc
  rw [hs.2.2.2, hs.1]
theorem rcV.push {r k : Int} (h : rcV X Y g s r k) (hs : cSt X X1 Y Y1) (hk : 0 ≤ k ∧ k ≤ 4) (hr : 0 ≤ r) (hf : ∀ t, X 19 t 1 ≤ 5) (o3 : ∀ j, j ≠ 5 * r + k → X1 10 g j = X 10 g j) (o4 : ∀ j, j ≠ 5 * r + k → X1 11 g j = X 11 g j) (o5 : ∀ j, j ≠ 5 * r + k → X1 12 g j = X 12 g j) (f1 : ∀ q, 0 ≤ q → q ≤ r → s' 1 q = s 1 q) (f5 : ∀ q, q ≠ 5 * r + k → s' 5 q = s 5 q) (hn : rcL X1 Y1 g s' r k) : rcV X1 Y1 g s' r (k + 1) := by
  obtain ⟨h1, h2⟩ := h
  refine ⟨fun r' k' a b c d => ?_, fun k' a b => ?_⟩
  · have e := f1 r' a (by omega)
    rw [e, hs.fc] at d
    have h5 : cFc X Y (s 1 r') ≤ 5 := hf _
    exact (h1 r' k' a b c d).of hs (o3 _ (by omega)) (o4 _ (by omega)) (o5 _ (by omega)) e (f5 _ (by omega))
  · by_cases e : k' = k
    · rw [e]
      exact hn
    · exact (h2 k' a (by omega)).of hs (o3 _ (by omega)) (o4 _ (by omega)) (o5 _ (by omega)) (f1 r hr (Int.le_refl _)) (f5 _ (by omega))
theorem rcV.next {r : Int} (h : rcV X Y g s r (cFc X Y (s 1 r))) : rcV X Y g s (r + 1) 0 := by
  refine ⟨fun r' k' a b c d => ?_, fun k' a b => by omega⟩
  by_cases e : r' = r
  · rw [e] at d ⊢
    exact h.2 k' c d
  · exact h.1 r' k' a (by omega) c d
theorem rcV.frm (h : rcV X Y g s y k) (hs : cSt X X1 Y Y1) (e3 : X1 10 = X 10) (e4 : X1 11 = X 11) (e5 : X1 12 = X 12) : rcV X1 Y1 g s y k := by
  refine ⟨fun r' k' a b c d => ?_, fun k' a b => ?_⟩
  · rw [hs.fc] at d
    exact (h.1 r' k' a b c d).of hs (by rw [e3]) (by rw [e4]) (by rw [e5]) rfl rfl
  · exact (h.2 k' a b).of hs (by rw [e3]) (by rw [e4]) (by rw [e5]) rfl rfl
theorem rcV.upto {r r' : Int} (h : rcV X Y g s r 0) (hr : r' ≤ r) : rcV X Y g s r' 0 := ⟨fun q k' a b => h.1 q k' a (by omega), fun k' a b => by omega⟩
theorem rcT.init {fc : Int → Int} {x : Int} (h : rcT X Y g (if nmAt (sg0 1) x (sg0 0 0).toNat = -1 then u2 (u2 sg0 1 (sg0 0 0) x) 0 0 (sg0 0 0 + 1) else sg0)) : rcT X Y g (recR fc la vl rid x 0) := by
  have c : nmAt (sg0 1) x (sg0 0 0).toNat = -1 := rfl
  rw [if_pos c] at h
  refine h.cong ?_ ?_
  · rw [recR_z, u2_k _ _ _ _ (by decide), u2_s, u2_s]
    rfl
  · rw [recR_z, u2_f2 (κ := 2) _ _ _ (by decide), u2_f2 (κ := 0) _ _ _ (by decide), u2_f2 (κ := 0) _ _ _ (by decide)]
    rfl
theorem rcR.init {fc : Int → Int} {x : Int} (h : X 7 g 6 = 0) (hn : ∀ y k w, 0 ≤ y → y < X 0 0 3 → 0 ≤ k → k < cFc X Y y → Y 17 y k = some w → X 26 w 1 = -1) : rcR X Y ln g (recR fc la vl rid x 0) := by
  have e : recR fc la vl rid x 0 2 0 = 0 := by rw [recR_z, u2_s]
  refine ⟨by rw [h, e], fun i a b => ?_, fun y k w a b c d f => ?_⟩
  · rw [e] at b
    omega
  · rw [e]
    exact hn y k w a b c d f
end CS
/-! records that are the same, in the class -/
def itE (X : Nat → Int → Int → Int) (g o i : Int) : Prop := X 13 g i = X 13 o i ∧ ∀ k, 0 ≤ k → k < X 13 g i → X 14 g (12 * i + k) = X 14 o (12 * i + k)
def vqC (X : Nat → Int → Int → Int) (g o i : Int) : Prop := X 12 g i = X 12 o i ∧ (3 ≤ X 11 g i → X 12 g i ≠ -1 → itE X g o (X 12 g i))
def shC (X : Nat → Int → Int → Int) (g o r : Int) : Prop := r < X 7 g 0 ∧ r < X 7 o 0 ∧ X 8 g r = X 8 o r ∧ X 9 g r = X 9 o r ∧ ∀ k, 0 ≤ k → k < X 9 g r → X 10 g (5 * r + k) = X 10 o (5 * r + k) ∧ X 11 g (5 * r + k) = X 11 o (5 * r + k)
def mxC (X : Nat → Int → Int → Int) (g o : Int) : Int := if X 7 g 0 < X 7 o 0 then X 7 o 0 else X 7 g 0
end
section
/-! putting back, in the class: the state is c (how many rows), X, Y, ln -/
def bdC (X : Nat → Int → Int → Int) (v : Int) : Int := if v ≠ -1 ∧ ¬ (0 ≤ v ∧ v < 16 ∧ X 3 0 v = 1) then 1 else 0
def toC (X : Nat → Int → Int → Int) (Y : Nat → Int → Int → Option Int) (x g i : Int) : Int := nmAt (X 20 (tyo (Y 15 x 0))) (X 10 g i) (X 19 (tyo (Y 15 x 0)) 1).toNat
def tlC (X : Nat → Int → Int → Int) (Y : Nat → Int → Int → Option Int) (x g i : Int) : Int := X 21 (tyo (Y 15 x 0)) (toC X Y x g i)
def twC (X : Nat → Int → Int → Int) (Y : Nat → Int → Int → Option Int) (x g i : Int) : Int := if tlC X Y x g i = 1 ∧ bdC X (X 12 g i) = 1 then -1 else X 12 g i
def fvC (X : Nat → Int → Int → Int) (Y : Nat → Int → Int → Option Int) (x g i rule : Int) : Int := fvF (toC X Y x g i) (tlC X Y x g i) (X 11 g i) 0 (bdC X (X 12 g i)) (andZ rule 1) (andZ rule 2)
def rpC (g w lane c : Int) (X : Nat → Int → Int → Int) (Y : Nat → Int → Int → Option Int) (ln : Int → Int) (c1 : Int) (X1 : Nat → Int → Int → Int) (Y1 : Nat → Int → Int → Option Int) (ln1 : Int → Int) (q : Int) : Prop := (Y 6 0 (3 * w + lane - 3) = some q ∧ c1 = c ∧ X1 = X ∧ Y1 = Y ∧ ln1 = ln) ∨ (Y 6 0 (3 * w + lane - 3) = none ∧ q = c ∧ c1 = c + 1 ∧ ln1 c = X 13 g w ∧ (∀ i, 0 ≤ i → i < c → ln1 i = ln i) ∧ (∀ j, 0 ≤ j → j < X 13 g w → X1 27 c j = X 14 g (12 * w + j)) ∧ (∀ y, y ≠ c → X1 27 y = X 27 y) ∧ Frm [2602, 2700] X X1 ∧ Y1 = u3 Y 6 0 (3 * w + lane - 3) (some c))
def fStC (g x i f c : Int) (X : Nat → Int → Int → Int) (Y : Nat → Int → Int → Option Int) (ln : Int → Int) (c1 : Int) (X1 : Nat → Int → Int → Int) (Y1 : Nat → Int → Int → Option Int) (ln1 : Int → Int) : Prop := (toC X Y x g i < 0 ∧ c1 = c ∧ X1 = X ∧ Y1 = Y ∧ ln1 = ln) ∨ (0 ≤ toC X Y x g i ∧ tlC X Y x g i < 3 ∧ c1 = c ∧ X1 = u3 X 16 x (toC X Y x g i) (if tlC X Y x g i = 2 ∧ twC X Y x g i ≠ -1 then f + twC X Y x g i else twC X Y x g i) ∧ Y1 = Y ∧ ln1 = ln) ∨ (0 ≤ toC X Y x g i ∧ 3 ≤ tlC X Y x g i ∧ twC X Y x g i = -1 ∧ c1 = c ∧ X1 = X ∧ Y1 = u3 Y 17 x (toC X Y x g i) none ∧ ln1 = ln) ∨ (0 ≤ toC X Y x g i ∧ 3 ≤ tlC X Y x g i ∧ twC X Y x g i ≠ -1 ∧ ∃ (Y' : Nat → Int → Int → Option Int) (q : Int), rpC g (twC X Y x g i) (tlC X Y x g i) c X Y ln c1 X1 Y' ln1 q ∧ Y1 = u3 Y' 17 x (toC X Y x g i) (some q))
def fTrC (g r f rule : Int) : Nat → Int → (Nat → Int → Int → Int) → (Nat → Int → Int → Option Int) → (Int → Int) → Int → (Nat → Int → Int → Int) → (Nat → Int → Int → Option Int) → (Int → Int) → Prop
  | 0, c, X, Y, ln, c1, X1, Y1, ln1 => c1 = c ∧ X1 = X ∧ Y1 = Y ∧ ln1 = ln
  | k + 1, c, X, Y, ln, c1, X1, Y1, ln1 => ∃ (c' : Int) (X' : Nat → Int → Int → Int) (Y' : Nat → Int → Int → Option Int) (ln' : Int → Int), fTrC g r f rule k c X Y ln c' X' Y' ln' ∧ fvC X' Y' (f + r) g (5 * r + (k : Int)) rule = 0 ∧ fStC g (f + r) (5 * r + (k : Int)) f c' X' Y' ln' c1 X1 Y1 ln1
def rTrC (g f rule : Int) : Nat → Int → (Nat → Int → Int → Int) → (Nat → Int → Int → Option Int) → (Int → Int) → Int → (Nat → Int → Int → Int) → (Nat → Int → Int → Option Int) → (Int → Int) → Prop
  | 0, c, X, Y, ln, c1, X1, Y1, ln1 => c1 = c ∧ X1 = X ∧ Y1 = Y ∧ ln1 = ln
  | r + 1, c, X, Y, ln, c1, X1, Y1, ln1 => ∃ (c' : Int) (X' : Nat → Int → Int → Int) (Y' : Nat → Int → Int → Option Int) (ln' : Int → Int), rTrC g f rule r c X Y ln c' X' Y' ln' ∧ fTrC g (r : Int) f rule (X' 9 g (r : Int)).toNat c' X' Y' ln' c1 X1 Y1 ln1
section TC
variable {g r f rule k c c1 c2 : Int} {X X1 X2 : Nat → Int → Int → Int} {Y Y1 Y2 : Nat → Int → Int → Option Int} {ln ln1 ln2 : Int → Int}
theorem fTrC.push (h : fTrC g r f rule k.toNat c X Y ln c1 X1 Y1 ln1) (hk : 0 ≤ k) (hv : fvC X1 Y1 (f + r) g (5 * r + k) rule = 0) (hs : fStC g (f + r) (5 * r + k) f c1 X1 Y1 ln1 c2 X2 Y2 ln2) : fTrC g r f rule (k + 1).toNat c X Y ln c2 X2 Y2 ln2 := by
  rw [show (k + 1).toNat = k.toNat + 1 by omega]
  refine ⟨c1, X1, Y1, ln1, h, ?_⟩
  rw [show ((k.toNat : Nat) : Int) = k by omega]
  exact ⟨hv, hs⟩
theorem rTrC.push (h : rTrC g f rule r.toNat c X Y ln c1 X1 Y1 ln1) (hr : 0 ≤ r) (hs : fTrC g r f rule (X1 9 g r).toNat c1 X1 Y1 ln1 c2 X2 Y2 ln2) : rTrC g f rule (r + 1).toNat c X Y ln c2 X2 Y2 ln2 := by
  rw [show (r + 1).toNat = r.toNat + 1 by omega]
  refine ⟨c1, X1, Y1, ln1, h, ?_⟩
  rw [show ((r.toNat : Nat) : Int) = r by omega]
  exact hs
end TC
theorem Frm.nil {α : Type} {X X1 : Nat → Int → Int → α} (h : Frm [] X X1) : X1 = X := funext fun k => funext fun i => funext fun j => h k i j (by simp)
end
end
section
set_option maxHeartbeats 4000000 in
set_option maxRecDepth 100000 in
theorem c_X5_init (l : Launch) (D : va_G) (tc : Nat → ClassId) (base : Nat) (u : St) (E : va_W) (h0 : Nat) (n : Int) (hn : 0 ≤ n ∧ n ≤ 12) : KC l D tc base yX5_init wsX5_init ({ frames := 1, cells := 1, slots := 12, locals := 12 } : Room) [.ref h0, .int (jI n)] u (E ++ ([(h0, .inr (5, [.null, .int 0]))] : va_W)) 1 12 (fun u' E' => u' = u ∧ ∃ q1 : Nat, E' = E ++ ([(h0, .inr (5, [.ref q1, .int 0])), (q1, .inl (tc 1, (n : Int).toNat, .inr (.inl (fun _ => 0))))] : va_W)) := by
  refine KC_of (cc := cX5_init) (maxL := 2) (ret := none) (by decide) rfl (Nat.le_of_ble_eq_true rfl) ?_
  intro p e s m below meth c ls hx hb hr hml hown hts hlocks hnm hl hK hw hS
  have hnm : meth.name = "<init>" := hnm
  have hown : s.vm.findClass RX5 = some m.cls := hown
  have hbs : base ≤ s.heap.size := hw.2.2
  have hi5 : ∀ w ∈ wsX50, w ∈ wsX5_init := fun w h => List.mem_cons_of_mem _ (List.mem_append_right _ h)
  have hf5 : fctx s m _ RX5 wsX5_init D tc RX5 TX5 2 5 := ⟨hts, hi5, hown, hK.1, rfl⟩
  have lk7 := hts (.fieldLink RX5 7 (TX5 0).1 (TX5 0).2.1 (TX5 0).2.2.1) (gj_X5_init_0 _ (gp_4 gp_h))
  have hl : lv_has ls 2 [(0, .ref h0), (1, .int (jI n))] := hl
  refine lv_aload_n hx hb dX5_init_0 rfl (lv_at hl 0 rfl) ?_
  refine W.objInit hx hb hown (hts (.methodLink RX5 1 objectInit) (by first | exact gj_X5_init_0 _ (gp_h) | decide +kernel)) (hts (.instanceMethod objectInit) (by first | exact gj_X5_init_0 _ (gp_1 gp_h) | decide +kernel)) (hts _ (List.mem_cons_of_mem _ (List.mem_append_left _ (List.mem_of_getElem? (i := 2) rfl)))) rfl (by rw [hml]; exact hl.1) rfl dX5_init_1 (Nat.le_of_ble_eq_true rfl) (Nat.le_of_ble_eq_true rfl) ?_
  refine W.eq (g2 := F0 m 4 ls []) rfl ?_
  refine lv_aload_n hx hb dX5_init_4 rfl (lv_at hl 0 rfl) ?_
  refine lv_iload_n hx hb dX5_init_5 rfl (lv_at hl 1 rfl) ?_
  refine g_newa (t := 1) (z := n) (a0 := ((n : Int).toNat, .inr (.inl (fun _ => 0)))) (atype := .long) hx hb (hts (.arrayClass .long) (by first | exact gj_X5_init_0 _ (gp_1 (gp_1 (gp_1 gp_h))) | decide +kernel)) rfl hK.1 rfl hw hS hbs (fun _ => rfl) (by omega) (by omega) (show (n : Int).toNat * 8 ≤ 536870912 by omega) (show 0 + 1 ≤ 1 by omega) (show 0 + (n : Int).toNat ≤ 12 by omega) dX5_init_6 (fun q1 H hw hS => ?_)
  have hw : wx D tc base u (E ++ ([(h0, .inr (5, [.null, .int 0])), (q1, .inl (tc 1, (n : Int).toNat, .inr (.inl (fun _ => 0))))] : va_W)) H := hw
  refine W.widen (k := 1) (n := 12) (by omega) (by omega) ?_
  refine g_putF (ci := 5) hx hb hf5 ⟨tyX5_ok, nmX5⟩ hw hS 0 rfl 0 (by decide) lk7 rfl hnm rfl (tyX5_ok 0 (by decide)) rfl rfl (Nat.le_of_ble_eq_true rfl) dX5_init_8 (fun H locs hw hS => ?_)
  have hw : wx D tc base u (E ++ ([(h0, .inr (5, [.ref q1, .int 0])), (q1, .inl (tc 1, (n : Int).toNat, .inr (.inl (fun _ => 0))))] : va_W)) H := hw
  refine ret_x hx hb hr hlocks hw hS (show 1 ≤ 1 by omega) (show 12 ≤ 12 by omega) dX5_init_11 ?_
  exact ⟨rfl, q1, rfl⟩

set_option maxHeartbeats 4000000 in
set_option maxRecDepth 100000 in
theorem c_X0_init (l : Launch) (D : va_G) (tc : Nat → ClassId) (base : Nat) (u : St) (E : va_W) (h0 : Nat) (kind a b v : Int) : KC l D tc base yX0_init wsX0_init ({ frames := 1, cells := 0, slots := 0, locals := 12 } : Room) [.ref h0, .int (jI kind), .int (jI a), .int (jI b), .long (jL v)] u (E ++ ([(h0, .inr (0, [.int 0, .int 0, .int 0, .long 0]))] : va_W)) 0 0 (fun u' E' => u' = u ∧ E' = E ++ ([(h0, .inr (0, [.int (jI kind), .int (jI a), .int (jI b), .long (jL v)]))] : va_W)) := by
  refine KC_of (cc := cX0_init) (maxL := 6) (ret := none) (by decide) rfl (Nat.le_of_ble_eq_true rfl) ?_
  intro p e s m below meth c ls hx hb hr hml hown hts hlocks hnm hl hK hw hS
  have hnm : meth.name = "<init>" := hnm
  have hown : s.vm.findClass RX0 = some m.cls := hown
  have hbs : base ≤ s.heap.size := hw.2.2
  have hi0 : ∀ w ∈ wsX00, w ∈ wsX0_init := fun w h => List.mem_cons_of_mem _ (List.mem_append_right _ h)
  have hf0 : fctx s m _ RX0 wsX0_init D tc RX0 TX0 4 0 := ⟨hts, hi0, hown, hK.1, rfl⟩
  have lk7 := hts (.fieldLink RX0 7 (TX0 0).1 (TX0 0).2.1 (TX0 0).2.2.1) (gj_X0_init_0 _ (gp_1 (gp_1 (gp_1 gp_h))))
  have lk13 := hts (.fieldLink RX0 13 (TX0 1).1 (TX0 1).2.1 (TX0 1).2.2.1) (gj_X0_init_0 _ (gp_4 gp_h))
  have lk16 := hts (.fieldLink RX0 16 (TX0 2).1 (TX0 2).2.1 (TX0 2).2.2.1) (gj_X0_init_0 _ (gp_4 (gp_1 gp_h)))
  have lk19 := hts (.fieldLink RX0 19 (TX0 3).1 (TX0 3).2.1 (TX0 3).2.2.1) (gj_X0_init_0 _ (gp_4 (gp_1 (gp_1 gp_h))))
  have hl : lv_has ls 6 [(0, .ref h0), (1, .int (jI kind)), (2, .int (jI a)), (3, .int (jI b)), (4, .long (jL v))] := hl
  refine lv_aload_n hx hb dX0_init_0 rfl (lv_at hl 0 rfl) ?_
  refine W.objInit hx hb hown (hts (.methodLink RX0 1 objectInit) (by first | exact gj_X0_init_0 _ (gp_h) | decide +kernel)) (hts (.instanceMethod objectInit) (by first | exact gj_X0_init_0 _ (gp_1 gp_h) | decide +kernel)) (hts _ (List.mem_cons_of_mem _ (List.mem_append_left _ (List.mem_of_getElem? (i := 2) rfl)))) rfl (by rw [hml]; exact hl.1) rfl dX0_init_1 (Nat.le_of_ble_eq_true rfl) (Nat.le_of_ble_eq_true rfl) ?_
  refine W.eq (g2 := F0 m 4 ls []) rfl ?_
  refine lv_aload_n hx hb dX0_init_4 rfl (lv_at hl 0 rfl) ?_
  refine lv_iload_n hx hb dX0_init_5 rfl (lv_at hl 1 rfl) ?_
  refine g_putF (ci := 0) hx hb hf0 ⟨tyX0_ok, nmX0⟩ hw hS 0 rfl 0 (by decide) lk7 rfl hnm rfl (tyX0_ok 0 (by decide)) rfl rfl (Nat.le_of_ble_eq_true rfl) dX0_init_6 (fun H locs hw hS => ?_)
  have hw : wx D tc base u (E ++ ([(h0, .inr (0, [.int (jI kind), .int 0, .int 0, .long 0]))] : va_W)) H := hw
  refine lv_aload_n hx hb dX0_init_9 rfl (lv_at hl 0 rfl) ?_
  refine lv_iload_n hx hb dX0_init_10 rfl (lv_at hl 2 rfl) ?_
  refine g_putF (ci := 0) hx hb hf0 ⟨tyX0_ok, nmX0⟩ hw hS 0 rfl 1 (by decide) lk13 rfl hnm rfl (tyX0_ok 1 (by decide)) rfl rfl (Nat.le_of_ble_eq_true rfl) dX0_init_11 (fun H locs hw hS => ?_)
  have hw : wx D tc base u (E ++ ([(h0, .inr (0, [.int (jI kind), .int (jI a), .int 0, .long 0]))] : va_W)) H := hw
  refine lv_aload_n hx hb dX0_init_14 rfl (lv_at hl 0 rfl) ?_
  refine lv_iload_n hx hb dX0_init_15 rfl (lv_at hl 3 rfl) ?_
  refine g_putF (ci := 0) hx hb hf0 ⟨tyX0_ok, nmX0⟩ hw hS 0 rfl 2 (by decide) lk16 rfl hnm rfl (tyX0_ok 2 (by decide)) rfl rfl (Nat.le_of_ble_eq_true rfl) dX0_init_16 (fun H locs hw hS => ?_)
  have hw : wx D tc base u (E ++ ([(h0, .inr (0, [.int (jI kind), .int (jI a), .int (jI b), .long 0]))] : va_W)) H := hw
  refine lv_aload_n hx hb dX0_init_19 rfl (lv_at hl 0 rfl) ?_
  refine lv_lload hx hb dX0_init_20 (lv_at hl 4 rfl) ?_
  refine g_putF (ci := 0) hx hb hf0 ⟨tyX0_ok, nmX0⟩ hw hS 0 rfl 3 (by decide) lk19 rfl hnm rfl (tyX0_ok 3 (by decide)) rfl rfl (Nat.le_of_ble_eq_true rfl) dX0_init_22 (fun H locs hw hS => ?_)
  have hw : wx D tc base u (E ++ ([(h0, .inr (0, [.int (jI kind), .int (jI a), .int (jI b), .long (jL v)]))] : va_W)) H := hw
  refine ret_x hx hb hr hlocks hw hS (show 0 ≤ 0 by omega) (show 0 ≤ 0 by omega) dX0_init_25 ?_
  exact ⟨rfl, rfl⟩

set_option maxHeartbeats 4000000 in
set_option maxRecDepth 100000 in
theorem c_X7_init (l : Launch) (D : va_G) (tc : Nat → ClassId) (base : Nat) (u : St) (E : va_W) (h0 : Nat) (n : Int) : KC l D tc base yX7_init wsX7_init ({ frames := 1, cells := 5, slots := 24, locals := 12 } : Room) [.ref h0, .int (jI n)] u (E ++ ([(h0, .inr (7, [.int 0, .int 0, .null, .null, .null, .null, .int 0, .null]))] : va_W)) 5 24 (fun u' E' => u' = u ∧ ∃ q1 : Nat, ∃ q2 : Nat, ∃ q3 : Nat, ∃ q4 : Nat, ∃ q5 : Nat, E' = E ++ ([(h0, .inr (7, [.int (jI n), .int 0, .ref q1, .ref q2, .ref q3, .ref q4, .int 0, .ref q5])), (q1, .inl (tc 0, (5 : Int).toNat, .inl (fun _ => 0))), (q2, .inl (tc 0, (5 : Int).toNat, .inl (fun _ => 0))), (q3, .inl (tc 1, (5 : Int).toNat, .inr (.inl (fun _ => 0)))), (q4, .inl (tc 2, (5 : Int).toNat, .inl (fun _ => 0))), (q5, .inl (tc 3, (4 : Int).toNat, .inr (.inr (.inr (.inr (fun _ => none))))))] : va_W)) := by
  refine KC_of (cc := cX7_init) (maxL := 2) (ret := none) (by decide) rfl (Nat.le_of_ble_eq_true rfl) ?_
  intro p e s m below meth c ls hx hb hr hml hown hts hlocks hnm hl hK hw hS
  have hnm : meth.name = "<init>" := hnm
  have hown : s.vm.findClass RX7 = some m.cls := hown
  have hbs : base ≤ s.heap.size := hw.2.2
  have hi7 : ∀ w ∈ wsX70, w ∈ wsX7_init := fun w h => List.mem_cons_of_mem _ (List.mem_append_right _ h)
  have hf7 : fctx s m _ RX7 wsX7_init D tc RX7 TX7 8 7 := ⟨hts, hi7, hown, hK.1, rfl⟩
  have lk9 := hts (.fieldLink RX7 9 (TX7 2).1 (TX7 2).2.1 (TX7 2).2.2.1) (gj_X7_init_0 _ (gp_4 gp_h))
  have lk15 := hts (.fieldLink RX7 15 (TX7 3).1 (TX7 3).2.1 (TX7 3).2.2.1) (gj_X7_init_0 _ (gp_4 (gp_1 gp_h)))
  have lk18 := hts (.fieldLink RX7 18 (TX7 4).1 (TX7 4).2.1 (TX7 4).2.2.1) (gj_X7_init_0 _ (gp_4 (gp_1 (gp_1 (gp_1 gp_h)))))
  have lk22 := hts (.fieldLink RX7 22 (TX7 5).1 (TX7 5).2.1 (TX7 5).2.2.1) (gj_X7_init_0 _ (gp_4 (gp_4 (gp_1 gp_h))))
  have lk28 := hts (.fieldLink RX7 28 (TX7 7).1 (TX7 7).2.1 (TX7 7).2.2.1) (gj_X7_init_0 _ (gp_4 (gp_4 (gp_1 (gp_1 (gp_1 gp_h))))))
  have lk32 := hts (.fieldLink RX7 32 (TX7 0).1 (TX7 0).2.1 (TX7 0).2.2.1) (gj_X7_init_0 _ (gp_4 (gp_4 (gp_4 gp_h))))
  have hl : lv_has ls 2 [(0, .ref h0), (1, .int (jI n))] := hl
  refine lv_aload_n hx hb dX7_init_0 rfl (lv_at hl 0 rfl) ?_
  refine W.objInit hx hb hown (hts (.methodLink RX7 3 objectInit) (by first | exact gj_X7_init_0 _ (gp_h) | decide +kernel)) (hts (.instanceMethod objectInit) (by first | exact gj_X7_init_0 _ (gp_1 gp_h) | decide +kernel)) (hts _ (List.mem_cons_of_mem _ (List.mem_append_left _ (List.mem_of_getElem? (i := 2) rfl)))) rfl (by rw [hml]; exact hl.1) rfl dX7_init_1 (Nat.le_of_ble_eq_true rfl) (Nat.le_of_ble_eq_true rfl) ?_
  refine W.eq (g2 := F0 m 4 ls []) rfl ?_
  refine lv_aload_n hx hb dX7_init_4 rfl (lv_at hl 0 rfl) ?_
  refine lv_iconst (v := jI 5) hx hb dX7_init_5 rfl ?_
  refine g_newa (t := 0) (z := 5) (a0 := ((5 : Int).toNat, .inl (fun _ => 0))) (atype := .int) hx hb (hts (.arrayClass .int) (by first | exact gj_X7_init_0 _ (gp_1 (gp_1 (gp_1 gp_h))) | decide +kernel)) rfl hK.1 rfl hw hS hbs (fun _ => rfl) (by omega) (by omega) (by decide) (show 0 + 1 ≤ 5 by omega) (show 0 + (5 : Int).toNat ≤ 24 by omega) dX7_init_6 (fun q1 H hw hS => ?_)
  have hw : wx D tc base u (E ++ ([(h0, .inr (7, [.int 0, .int 0, .null, .null, .null, .null, .int 0, .null])), (q1, .inl (tc 0, (5 : Int).toNat, .inl (fun _ => 0)))] : va_W)) H := hw
  refine W.widen (k := 1) (n := 5) (by omega) (by omega) ?_
  refine g_putF (ci := 7) hx hb hf7 ⟨tyX7_ok, nmX7⟩ hw hS 0 rfl 2 (by decide) lk9 rfl hnm rfl (tyX7_ok 2 (by decide)) rfl rfl (Nat.le_of_ble_eq_true rfl) dX7_init_8 (fun H locs hw hS => ?_)
  have hw : wx D tc base u (E ++ ([(h0, .inr (7, [.int 0, .int 0, .ref q1, .null, .null, .null, .int 0, .null])), (q1, .inl (tc 0, (5 : Int).toNat, .inl (fun _ => 0)))] : va_W)) H := hw
  refine lv_aload_n hx hb dX7_init_11 rfl (lv_at hl 0 rfl) ?_
  refine lv_iconst (v := jI 5) hx hb dX7_init_12 rfl ?_
  refine g_newa (t := 0) (z := 5) (a0 := ((5 : Int).toNat, .inl (fun _ => 0))) (atype := .int) hx hb (hts (.arrayClass .int) (by first | exact gj_X7_init_0 _ (gp_1 (gp_1 (gp_1 gp_h))) | decide +kernel)) rfl hK.1 rfl hw hS hbs (fun _ => rfl) (by omega) (by omega) (by decide) (show 1 + 1 ≤ 5 by omega) (show 5 + (5 : Int).toNat ≤ 24 by omega) dX7_init_13 (fun q2 H hw hS => ?_)
  have hw : wx D tc base u (E ++ ([(h0, .inr (7, [.int 0, .int 0, .ref q1, .null, .null, .null, .int 0, .null])), (q1, .inl (tc 0, (5 : Int).toNat, .inl (fun _ => 0))), (q2, .inl (tc 0, (5 : Int).toNat, .inl (fun _ => 0)))] : va_W)) H := hw
  refine W.widen (k := 2) (n := 10) (by omega) (by omega) ?_
  refine g_putF (ci := 7) hx hb hf7 ⟨tyX7_ok, nmX7⟩ hw hS 0 rfl 3 (by decide) lk15 rfl hnm rfl (tyX7_ok 3 (by decide)) rfl rfl (Nat.le_of_ble_eq_true rfl) dX7_init_15 (fun H locs hw hS => ?_)
  have hw : wx D tc base u (E ++ ([(h0, .inr (7, [.int 0, .int 0, .ref q1, .ref q2, .null, .null, .int 0, .null])), (q1, .inl (tc 0, (5 : Int).toNat, .inl (fun _ => 0))), (q2, .inl (tc 0, (5 : Int).toNat, .inl (fun _ => 0)))] : va_W)) H := hw
  refine lv_aload_n hx hb dX7_init_18 rfl (lv_at hl 0 rfl) ?_
  refine lv_iconst (v := jI 5) hx hb dX7_init_19 rfl ?_
  refine g_newa (t := 1) (z := 5) (a0 := ((5 : Int).toNat, .inr (.inl (fun _ => 0)))) (atype := .long) hx hb (hts (.arrayClass .long) (by first | exact gj_X7_init_0 _ (gp_4 (gp_1 (gp_1 gp_h))) | decide +kernel)) rfl hK.1 rfl hw hS hbs (fun _ => rfl) (by omega) (by omega) (by decide) (show 2 + 1 ≤ 5 by omega) (show 10 + (5 : Int).toNat ≤ 24 by omega) dX7_init_20 (fun q3 H hw hS => ?_)
  have hw : wx D tc base u (E ++ ([(h0, .inr (7, [.int 0, .int 0, .ref q1, .ref q2, .null, .null, .int 0, .null])), (q1, .inl (tc 0, (5 : Int).toNat, .inl (fun _ => 0))), (q2, .inl (tc 0, (5 : Int).toNat, .inl (fun _ => 0))), (q3, .inl (tc 1, (5 : Int).toNat, .inr (.inl (fun _ => 0))))] : va_W)) H := hw
  refine W.widen (k := 3) (n := 15) (by omega) (by omega) ?_
  refine g_putF (ci := 7) hx hb hf7 ⟨tyX7_ok, nmX7⟩ hw hS 0 rfl 4 (by decide) lk18 rfl hnm rfl (tyX7_ok 4 (by decide)) rfl rfl (Nat.le_of_ble_eq_true rfl) dX7_init_22 (fun H locs hw hS => ?_)
  have hw : wx D tc base u (E ++ ([(h0, .inr (7, [.int 0, .int 0, .ref q1, .ref q2, .ref q3, .null, .int 0, .null])), (q1, .inl (tc 0, (5 : Int).toNat, .inl (fun _ => 0))), (q2, .inl (tc 0, (5 : Int).toNat, .inl (fun _ => 0))), (q3, .inl (tc 1, (5 : Int).toNat, .inr (.inl (fun _ => 0))))] : va_W)) H := hw
  refine lv_aload_n hx hb dX7_init_25 rfl (lv_at hl 0 rfl) ?_
  refine lv_iconst (v := jI 5) hx hb dX7_init_26 rfl ?_
  refine g_newa (t := 2) (z := 5) (a0 := ((5 : Int).toNat, .inl (fun _ => 0))) (atype := .boolean) hx hb (hts (.arrayClass .boolean) (by first | exact gj_X7_init_0 _ (gp_4 (gp_4 gp_h)) | decide +kernel)) rfl hK.1 rfl hw hS hbs (fun _ => rfl) (by omega) (by omega) (by decide) (show 3 + 1 ≤ 5 by omega) (show 15 + (5 : Int).toNat ≤ 24 by omega) dX7_init_27 (fun q4 H hw hS => ?_)
  have hw : wx D tc base u (E ++ ([(h0, .inr (7, [.int 0, .int 0, .ref q1, .ref q2, .ref q3, .null, .int 0, .null])), (q1, .inl (tc 0, (5 : Int).toNat, .inl (fun _ => 0))), (q2, .inl (tc 0, (5 : Int).toNat, .inl (fun _ => 0))), (q3, .inl (tc 1, (5 : Int).toNat, .inr (.inl (fun _ => 0)))), (q4, .inl (tc 2, (5 : Int).toNat, .inl (fun _ => 0)))] : va_W)) H := hw
  refine W.widen (k := 4) (n := 20) (by omega) (by omega) ?_
  refine g_putF (ci := 7) hx hb hf7 ⟨tyX7_ok, nmX7⟩ hw hS 0 rfl 5 (by decide) lk22 rfl hnm rfl (tyX7_ok 5 (by decide)) rfl rfl (Nat.le_of_ble_eq_true rfl) dX7_init_29 (fun H locs hw hS => ?_)
  have hw : wx D tc base u (E ++ ([(h0, .inr (7, [.int 0, .int 0, .ref q1, .ref q2, .ref q3, .ref q4, .int 0, .null])), (q1, .inl (tc 0, (5 : Int).toNat, .inl (fun _ => 0))), (q2, .inl (tc 0, (5 : Int).toNat, .inl (fun _ => 0))), (q3, .inl (tc 1, (5 : Int).toNat, .inr (.inl (fun _ => 0)))), (q4, .inl (tc 2, (5 : Int).toNat, .inl (fun _ => 0)))] : va_W)) H := hw
  refine lv_aload_n hx hb dX7_init_32 rfl (lv_at hl 0 rfl) ?_
  refine lv_iconst (v := jI 4) hx hb dX7_init_33 rfl ?_
  refine g_newq (t := 3) (z := 4) hx hb hown (hts (.classLink RX7 26 RX0) (by first | exact gj_X7_init_0 _ (gp_4 (gp_4 (gp_1 (gp_1 gp_h)))) | decide +kernel)) hK.2.2.2.2.2.1 hK.1 rfl hw hS hbs (by omega) (by omega) (show 4 + 1 ≤ 5 by omega) (show 20 + (4 : Int).toNat ≤ 24 by omega) dX7_init_34 (fun q5 H hw hS => ?_)
  have hw : wx D tc base u (E ++ ([(h0, .inr (7, [.int 0, .int 0, .ref q1, .ref q2, .ref q3, .ref q4, .int 0, .null])), (q1, .inl (tc 0, (5 : Int).toNat, .inl (fun _ => 0))), (q2, .inl (tc 0, (5 : Int).toNat, .inl (fun _ => 0))), (q3, .inl (tc 1, (5 : Int).toNat, .inr (.inl (fun _ => 0)))), (q4, .inl (tc 2, (5 : Int).toNat, .inl (fun _ => 0))), (q5, .inl (tc 3, (4 : Int).toNat, .inr (.inr (.inr (.inr (fun _ => none))))))] : va_W)) H := hw
  refine W.widen (k := 5) (n := 24) (by omega) (by omega) ?_
  refine g_putF (ci := 7) hx hb hf7 ⟨tyX7_ok, nmX7⟩ hw hS 0 rfl 7 (by decide) lk28 rfl hnm rfl (tyX7_ok 7 (by decide)) rfl rfl (Nat.le_of_ble_eq_true rfl) dX7_init_37 (fun H locs hw hS => ?_)
  have hw : wx D tc base u (E ++ ([(h0, .inr (7, [.int 0, .int 0, .ref q1, .ref q2, .ref q3, .ref q4, .int 0, .ref q5])), (q1, .inl (tc 0, (5 : Int).toNat, .inl (fun _ => 0))), (q2, .inl (tc 0, (5 : Int).toNat, .inl (fun _ => 0))), (q3, .inl (tc 1, (5 : Int).toNat, .inr (.inl (fun _ => 0)))), (q4, .inl (tc 2, (5 : Int).toNat, .inl (fun _ => 0))), (q5, .inl (tc 3, (4 : Int).toNat, .inr (.inr (.inr (.inr (fun _ => none))))))] : va_W)) H := hw
  refine lv_aload_n hx hb dX7_init_40 rfl (lv_at hl 0 rfl) ?_
  refine lv_iload_n hx hb dX7_init_41 rfl (lv_at hl 1 rfl) ?_
  refine g_putF (ci := 7) hx hb hf7 ⟨tyX7_ok, nmX7⟩ hw hS 0 rfl 0 (by decide) lk32 rfl hnm rfl (tyX7_ok 0 (by decide)) rfl rfl (Nat.le_of_ble_eq_true rfl) dX7_init_42 (fun H locs hw hS => ?_)
  have hw : wx D tc base u (E ++ ([(h0, .inr (7, [.int (jI n), .int 0, .ref q1, .ref q2, .ref q3, .ref q4, .int 0, .ref q5])), (q1, .inl (tc 0, (5 : Int).toNat, .inl (fun _ => 0))), (q2, .inl (tc 0, (5 : Int).toNat, .inl (fun _ => 0))), (q3, .inl (tc 1, (5 : Int).toNat, .inr (.inl (fun _ => 0)))), (q4, .inl (tc 2, (5 : Int).toNat, .inl (fun _ => 0))), (q5, .inl (tc 3, (4 : Int).toNat, .inr (.inr (.inr (.inr (fun _ => none))))))] : va_W)) H := hw
  refine ret_x hx hb hr hlocks hw hS (show 5 ≤ 5 by omega) (show 24 ≤ 24 by omega) dX7_init_45 ?_
  exact ⟨rfl, q1, q2, q3, q4, q5, rfl⟩
end
section
set_option maxHeartbeats 4000000 in
set_option maxRecDepth 100000 in
theorem c_X1_init (l : Launch) (D : va_G) (tc : Nat → ClassId) (base : Nat) (u : St) (E : va_W) (h0 : Nat)  : KC l D tc base yX1_init wsX1_init ({ frames := 1, cells := 0, slots := 0, locals := 12 } : Room) [.ref h0] u (E ++ ([(h0, .inr (1, [.int 0, .int 0, .int 0, .int 0]))] : va_W)) 0 0 (fun u' E' => u' = u ∧ E' = E ++ ([(h0, .inr (1, [.int 0, .int 0, .int 0, .int 0]))] : va_W)) := by
  refine KC_of (cc := cX1_init) (maxL := 1) (ret := none) (by decide) rfl (Nat.le_of_ble_eq_true rfl) ?_
  intro p e s m below meth c ls hx hb hr hml hown hts hlocks hnm hl hK hw hS
  have hnm : meth.name = "<init>" := hnm
  have hown : s.vm.findClass RX1 = some m.cls := hown
  have hbs : base ≤ s.heap.size := hw.2.2
  have hl : lv_has ls 1 [(0, .ref h0)] := hl
  refine lv_aload_n hx hb dX1_init_0 rfl (lv_at hl 0 rfl) ?_
  refine W.objInit hx hb hown (hts (.methodLink RX1 1 objectInit) (by first | exact gj_X1_init_0 _ (gp_h) | decide +kernel)) (hts (.instanceMethod objectInit) (by first | exact gj_X1_init_0 _ (gp_1 gp_h) | decide +kernel)) (hts _ (List.mem_cons_of_mem _ (List.mem_of_getElem? (i := 2) rfl))) rfl (by rw [hml]; exact hl.1) rfl dX1_init_1 (Nat.le_of_ble_eq_true rfl) (Nat.le_of_ble_eq_true rfl) ?_
  refine W.eq (g2 := F0 m 4 ls []) rfl ?_
  refine ret_x hx hb hr hlocks hw hS (show 0 ≤ 0 by omega) (show 0 ≤ 0 by omega) dX1_init_4 ?_
  exact ⟨rfl, rfl⟩

set_option maxHeartbeats 4000000 in
set_option maxRecDepth 100000 in
theorem c_X3_init (l : Launch) (D : va_G) (tc : Nat → ClassId) (base : Nat) (u : St) (E : va_W) (h0 : Nat)  : KC l D tc base yX3_init wsX3_init ({ frames := 1, cells := 0, slots := 0, locals := 12 } : Room) [.ref h0] u (E ++ ([(h0, .inr (3, [.null, .int 0, .long 0, .null]))] : va_W)) 0 0 (fun u' E' => u' = u ∧ E' = E ++ ([(h0, .inr (3, [.null, .int 0, .long 0, .null]))] : va_W)) := by
  refine KC_of (cc := cX3_init) (maxL := 1) (ret := none) (by decide) rfl (Nat.le_of_ble_eq_true rfl) ?_
  intro p e s m below meth c ls hx hb hr hml hown hts hlocks hnm hl hK hw hS
  have hnm : meth.name = "<init>" := hnm
  have hown : s.vm.findClass RX3 = some m.cls := hown
  have hbs : base ≤ s.heap.size := hw.2.2
  have hl : lv_has ls 1 [(0, .ref h0)] := hl
  refine lv_aload_n hx hb dX3_init_0 rfl (lv_at hl 0 rfl) ?_
  refine W.objInit hx hb hown (hts (.methodLink RX3 1 objectInit) (by first | exact gj_X3_init_0 _ (gp_h) | decide +kernel)) (hts (.instanceMethod objectInit) (by first | exact gj_X3_init_0 _ (gp_1 gp_h) | decide +kernel)) (hts _ (List.mem_cons_of_mem _ (List.mem_of_getElem? (i := 2) rfl))) rfl (by rw [hml]; exact hl.1) rfl dX3_init_1 (Nat.le_of_ble_eq_true rfl) (Nat.le_of_ble_eq_true rfl) ?_
  refine W.eq (g2 := F0 m 4 ls []) rfl ?_
  refine ret_x hx hb hr hlocks hw hS (show 0 ≤ 0 by omega) (show 0 ≤ 0 by omega) dX3_init_4 ?_
  exact ⟨rfl, rfl⟩

set_option maxHeartbeats 4000000 in
set_option maxRecDepth 100000 in
theorem c_X4_init (l : Launch) (D : va_G) (tc : Nat → ClassId) (base : Nat) (u : St) (E : va_W) (h0 : Nat)  : KC l D tc base yX4_init wsX4_init ({ frames := 1, cells := 7, slots := 2460, locals := 12 } : Room) [.ref h0] u (E ++ ([(h0, .inr (4, [.int 0, .null, .null, .null, .null, .null, .int 0, .null, .null]))] : va_W)) 7 2460 (fun u' E' => u' = u ∧ ∃ q1 : Nat, ∃ q2 : Nat, ∃ q3 : Nat, ∃ q4 : Nat, ∃ q5 : Nat, ∃ q6 : Nat, ∃ q7 : Nat, E' = E ++ ([(h0, .inr (4, [.int 0, .ref q1, .ref q2, .ref q3, .ref q4, .ref q5, .int 0, .ref q6, .ref q7])), (q1, .inl (tc 0, (30 : Int).toNat, .inl (fun _ => 0))), (q2, .inl (tc 0, (30 : Int).toNat, .inl (fun _ => 0))), (q3, .inl (tc 0, (150 : Int).toNat, .inl (fun _ => 0))), (q4, .inl (tc 0, (150 : Int).toNat, .inl (fun _ => 0))), (q5, .inl (tc 1, (150 : Int).toNat, .inr (.inl (fun _ => 0)))), (q6, .inl (tc 0, (150 : Int).toNat, .inl (fun _ => 0))), (q7, .inl (tc 1, (1800 : Int).toNat, .inr (.inl (fun _ => 0))))] : va_W)) := by
  refine KC_of (cc := cX4_init) (maxL := 1) (ret := none) (by decide) rfl (Nat.le_of_ble_eq_true rfl) ?_
  intro p e s m below meth c ls hx hb hr hml hown hts hlocks hnm hl hK hw hS
  have hnm : meth.name = "<init>" := hnm
  have hown : s.vm.findClass RX4 = some m.cls := hown
  have hbs : base ≤ s.heap.size := hw.2.2
  have hi4 : ∀ w ∈ wsX40, w ∈ wsX4_init := fun w h => List.mem_cons_of_mem _ (List.mem_append_right _ h)
  have hf4 : fctx s m _ RX4 wsX4_init D tc RX4 TX4 9 4 := ⟨hts, hi4, hown, hK.1, rfl⟩
  have lk9 := hts (.fieldLink RX4 9 (TX4 1).1 (TX4 1).2.1 (TX4 1).2.2.1) (gj_X4_init_0 _ (gp_4 gp_h))
  have lk15 := hts (.fieldLink RX4 15 (TX4 2).1 (TX4 2).2.1 (TX4 2).2.2.1) (gj_X4_init_0 _ (gp_4 (gp_1 gp_h)))
  have lk18 := hts (.fieldLink RX4 18 (TX4 3).1 (TX4 3).2.1 (TX4 3).2.2.1) (gj_X4_init_0 _ (gp_4 (gp_1 (gp_1 gp_h))))
  have lk21 := hts (.fieldLink RX4 21 (TX4 4).1 (TX4 4).2.1 (TX4 4).2.2.1) (gj_X4_init_0 _ (gp_4 (gp_1 (gp_1 (gp_1 gp_h)))))
  have lk24 := hts (.fieldLink RX4 24 (TX4 5).1 (TX4 5).2.1 (TX4 5).2.2.1) (gj_X4_init_0 _ (gp_4 (gp_4 (gp_1 gp_h))))
  have lk28 := hts (.fieldLink RX4 28 (TX4 7).1 (TX4 7).2.1 (TX4 7).2.2.1) (gj_X4_init_0 _ (gp_4 (gp_4 (gp_1 (gp_1 gp_h)))))
  have lk31 := hts (.fieldLink RX4 31 (TX4 8).1 (TX4 8).2.1 (TX4 8).2.2.1) (gj_X4_init_0 _ (gp_4 (gp_4 (gp_1 (gp_1 (gp_1 gp_h))))))
  have hl : lv_has ls 1 [(0, .ref h0)] := hl
  refine lv_aload_n hx hb dX4_init_0 rfl (lv_at hl 0 rfl) ?_
  refine W.objInit hx hb hown (hts (.methodLink RX4 3 objectInit) (by first | exact gj_X4_init_0 _ (gp_h) | decide +kernel)) (hts (.instanceMethod objectInit) (by first | exact gj_X4_init_0 _ (gp_1 gp_h) | decide +kernel)) (hts _ (List.mem_cons_of_mem _ (List.mem_append_left _ (List.mem_of_getElem? (i := 2) rfl)))) rfl (by rw [hml]; exact hl.1) rfl dX4_init_1 (Nat.le_of_ble_eq_true rfl) (Nat.le_of_ble_eq_true rfl) ?_
  refine W.eq (g2 := F0 m 4 ls []) rfl ?_
  refine lv_aload_n hx hb dX4_init_4 rfl (lv_at hl 0 rfl) ?_
  refine lv_bipush (v := jI 30) hx hb dX4_init_5 (by decide) ?_
  refine g_newa (t := 0) (z := 30) (a0 := ((30 : Int).toNat, .inl (fun _ => 0))) (atype := .int) hx hb (hts (.arrayClass .int) (by first | exact gj_X4_init_0 _ (gp_1 (gp_1 (gp_1 gp_h))) | decide +kernel)) rfl hK.1 rfl hw hS hbs (fun _ => rfl) (by omega) (by omega) (by decide) (show 0 + 1 ≤ 7 by omega) (show 0 + (30 : Int).toNat ≤ 2460 by omega) dX4_init_7 (fun q1 H hw hS => ?_)
  have hw : wx D tc base u (E ++ ([(h0, .inr (4, [.int 0, .null, .null, .null, .null, .null, .int 0, .null, .null])), (q1, .inl (tc 0, (30 : Int).toNat, .inl (fun _ => 0)))] : va_W)) H := hw
  refine W.widen (k := 1) (n := 30) (by omega) (by omega) ?_
  refine g_putF (ci := 4) hx hb hf4 ⟨tyX4_ok, nmX4⟩ hw hS 0 rfl 1 (by decide) lk9 rfl hnm rfl (tyX4_ok 1 (by decide)) rfl rfl (Nat.le_of_ble_eq_true rfl) dX4_init_9 (fun H locs hw hS => ?_)
  have hw : wx D tc base u (E ++ ([(h0, .inr (4, [.int 0, .ref q1, .null, .null, .null, .null, .int 0, .null, .null])), (q1, .inl (tc 0, (30 : Int).toNat, .inl (fun _ => 0)))] : va_W)) H := hw
  refine lv_aload_n hx hb dX4_init_12 rfl (lv_at hl 0 rfl) ?_
  refine lv_bipush (v := jI 30) hx hb dX4_init_13 (by decide) ?_
  refine g_newa (t := 0) (z := 30) (a0 := ((30 : Int).toNat, .inl (fun _ => 0))) (atype := .int) hx hb (hts (.arrayClass .int) (by first | exact gj_X4_init_0 _ (gp_1 (gp_1 (gp_1 gp_h))) | decide +kernel)) rfl hK.1 rfl hw hS hbs (fun _ => rfl) (by omega) (by omega) (by decide) (show 1 + 1 ≤ 7 by omega) (show 30 + (30 : Int).toNat ≤ 2460 by omega) dX4_init_15 (fun q2 H hw hS => ?_)
  have hw : wx D tc base u (E ++ ([(h0, .inr (4, [.int 0, .ref q1, .null, .null, .null, .null, .int 0, .null, .null])), (q1, .inl (tc 0, (30 : Int).toNat, .inl (fun _ => 0))), (q2, .inl (tc 0, (30 : Int).toNat, .inl (fun _ => 0)))] : va_W)) H := hw
  refine W.widen (k := 2) (n := 60) (by omega) (by omega) ?_
  refine g_putF (ci := 4) hx hb hf4 ⟨tyX4_ok, nmX4⟩ hw hS 0 rfl 2 (by decide) lk15 rfl hnm rfl (tyX4_ok 2 (by decide)) rfl rfl (Nat.le_of_ble_eq_true rfl) dX4_init_17 (fun H locs hw hS => ?_)
  have hw : wx D tc base u (E ++ ([(h0, .inr (4, [.int 0, .ref q1, .ref q2, .null, .null, .null, .int 0, .null, .null])), (q1, .inl (tc 0, (30 : Int).toNat, .inl (fun _ => 0))), (q2, .inl (tc 0, (30 : Int).toNat, .inl (fun _ => 0)))] : va_W)) H := hw
  refine lv_aload_n hx hb dX4_init_20 rfl (lv_at hl 0 rfl) ?_
  refine lv_sipush (v := jI 150) hx hb dX4_init_21 (by decide) ?_
  refine g_newa (t := 0) (z := 150) (a0 := ((150 : Int).toNat, .inl (fun _ => 0))) (atype := .int) hx hb (hts (.arrayClass .int) (by first | exact gj_X4_init_0 _ (gp_1 (gp_1 (gp_1 gp_h))) | decide +kernel)) rfl hK.1 rfl hw hS hbs (fun _ => rfl) (by omega) (by omega) (by decide) (show 2 + 1 ≤ 7 by omega) (show 60 + (150 : Int).toNat ≤ 2460 by omega) dX4_init_24 (fun q3 H hw hS => ?_)
  have hw : wx D tc base u (E ++ ([(h0, .inr (4, [.int 0, .ref q1, .ref q2, .null, .null, .null, .int 0, .null, .null])), (q1, .inl (tc 0, (30 : Int).toNat, .inl (fun _ => 0))), (q2, .inl (tc 0, (30 : Int).toNat, .inl (fun _ => 0))), (q3, .inl (tc 0, (150 : Int).toNat, .inl (fun _ => 0)))] : va_W)) H := hw
  refine W.widen (k := 3) (n := 210) (by omega) (by omega) ?_
  refine g_putF (ci := 4) hx hb hf4 ⟨tyX4_ok, nmX4⟩ hw hS 0 rfl 3 (by decide) lk18 rfl hnm rfl (tyX4_ok 3 (by decide)) rfl rfl (Nat.le_of_ble_eq_true rfl) dX4_init_26 (fun H locs hw hS => ?_)
  have hw : wx D tc base u (E ++ ([(h0, .inr (4, [.int 0, .ref q1, .ref q2, .ref q3, .null, .null, .int 0, .null, .null])), (q1, .inl (tc 0, (30 : Int).toNat, .inl (fun _ => 0))), (q2, .inl (tc 0, (30 : Int).toNat, .inl (fun _ => 0))), (q3, .inl (tc 0, (150 : Int).toNat, .inl (fun _ => 0)))] : va_W)) H := hw
  refine lv_aload_n hx hb dX4_init_29 rfl (lv_at hl 0 rfl) ?_
  refine lv_sipush (v := jI 150) hx hb dX4_init_30 (by decide) ?_
  refine g_newa (t := 0) (z := 150) (a0 := ((150 : Int).toNat, .inl (fun _ => 0))) (atype := .int) hx hb (hts (.arrayClass .int) (by first | exact gj_X4_init_0 _ (gp_1 (gp_1 (gp_1 gp_h))) | decide +kernel)) rfl hK.1 rfl hw hS hbs (fun _ => rfl) (by omega) (by omega) (by decide) (show 3 + 1 ≤ 7 by omega) (show 210 + (150 : Int).toNat ≤ 2460 by omega) dX4_init_33 (fun q4 H hw hS => ?_)
  have hw : wx D tc base u (E ++ ([(h0, .inr (4, [.int 0, .ref q1, .ref q2, .ref q3, .null, .null, .int 0, .null, .null])), (q1, .inl (tc 0, (30 : Int).toNat, .inl (fun _ => 0))), (q2, .inl (tc 0, (30 : Int).toNat, .inl (fun _ => 0))), (q3, .inl (tc 0, (150 : Int).toNat, .inl (fun _ => 0))), (q4, .inl (tc 0, (150 : Int).toNat, .inl (fun _ => 0)))] : va_W)) H := hw
  refine W.widen (k := 4) (n := 360) (by omega) (by omega) ?_
  refine g_putF (ci := 4) hx hb hf4 ⟨tyX4_ok, nmX4⟩ hw hS 0 rfl 4 (by decide) lk21 rfl hnm rfl (tyX4_ok 4 (by decide)) rfl rfl (Nat.le_of_ble_eq_true rfl) dX4_init_35 (fun H locs hw hS => ?_)
  have hw : wx D tc base u (E ++ ([(h0, .inr (4, [.int 0, .ref q1, .ref q2, .ref q3, .ref q4, .null, .int 0, .null, .null])), (q1, .inl (tc 0, (30 : Int).toNat, .inl (fun _ => 0))), (q2, .inl (tc 0, (30 : Int).toNat, .inl (fun _ => 0))), (q3, .inl (tc 0, (150 : Int).toNat, .inl (fun _ => 0))), (q4, .inl (tc 0, (150 : Int).toNat, .inl (fun _ => 0)))] : va_W)) H := hw
  refine lv_aload_n hx hb dX4_init_38 rfl (lv_at hl 0 rfl) ?_
  refine lv_sipush (v := jI 150) hx hb dX4_init_39 (by decide) ?_
  refine g_newa (t := 1) (z := 150) (a0 := ((150 : Int).toNat, .inr (.inl (fun _ => 0)))) (atype := .long) hx hb (hts (.arrayClass .long) (by first | exact gj_X4_init_0 _ (gp_4 (gp_4 gp_h)) | decide +kernel)) rfl hK.1 rfl hw hS hbs (fun _ => rfl) (by omega) (by omega) (by decide) (show 4 + 1 ≤ 7 by omega) (show 360 + (150 : Int).toNat ≤ 2460 by omega) dX4_init_42 (fun q5 H hw hS => ?_)
  have hw : wx D tc base u (E ++ ([(h0, .inr (4, [.int 0, .ref q1, .ref q2, .ref q3, .ref q4, .null, .int 0, .null, .null])), (q1, .inl (tc 0, (30 : Int).toNat, .inl (fun _ => 0))), (q2, .inl (tc 0, (30 : Int).toNat, .inl (fun _ => 0))), (q3, .inl (tc 0, (150 : Int).toNat, .inl (fun _ => 0))), (q4, .inl (tc 0, (150 : Int).toNat, .inl (fun _ => 0))), (q5, .inl (tc 1, (150 : Int).toNat, .inr (.inl (fun _ => 0))))] : va_W)) H := hw
  refine W.widen (k := 5) (n := 510) (by omega) (by omega) ?_
  refine g_putF (ci := 4) hx hb hf4 ⟨tyX4_ok, nmX4⟩ hw hS 0 rfl 5 (by decide) lk24 rfl hnm rfl (tyX4_ok 5 (by decide)) rfl rfl (Nat.le_of_ble_eq_true rfl) dX4_init_44 (fun H locs hw hS => ?_)
  have hw : wx D tc base u (E ++ ([(h0, .inr (4, [.int 0, .ref q1, .ref q2, .ref q3, .ref q4, .ref q5, .int 0, .null, .null])), (q1, .inl (tc 0, (30 : Int).toNat, .inl (fun _ => 0))), (q2, .inl (tc 0, (30 : Int).toNat, .inl (fun _ => 0))), (q3, .inl (tc 0, (150 : Int).toNat, .inl (fun _ => 0))), (q4, .inl (tc 0, (150 : Int).toNat, .inl (fun _ => 0))), (q5, .inl (tc 1, (150 : Int).toNat, .inr (.inl (fun _ => 0))))] : va_W)) H := hw
  refine lv_aload_n hx hb dX4_init_47 rfl (lv_at hl 0 rfl) ?_
  refine lv_sipush (v := jI 150) hx hb dX4_init_48 (by decide) ?_
  refine g_newa (t := 0) (z := 150) (a0 := ((150 : Int).toNat, .inl (fun _ => 0))) (atype := .int) hx hb (hts (.arrayClass .int) (by first | exact gj_X4_init_0 _ (gp_1 (gp_1 (gp_1 gp_h))) | decide +kernel)) rfl hK.1 rfl hw hS hbs (fun _ => rfl) (by omega) (by omega) (by decide) (show 5 + 1 ≤ 7 by omega) (show 510 + (150 : Int).toNat ≤ 2460 by omega) dX4_init_51 (fun q6 H hw hS => ?_)
  have hw : wx D tc base u (E ++ ([(h0, .inr (4, [.int 0, .ref q1, .ref q2, .ref q3, .ref q4, .ref q5, .int 0, .null, .null])), (q1, .inl (tc 0, (30 : Int).toNat, .inl (fun _ => 0))), (q2, .inl (tc 0, (30 : Int).toNat, .inl (fun _ => 0))), (q3, .inl (tc 0, (150 : Int).toNat, .inl (fun _ => 0))), (q4, .inl (tc 0, (150 : Int).toNat, .inl (fun _ => 0))), (q5, .inl (tc 1, (150 : Int).toNat, .inr (.inl (fun _ => 0)))), (q6, .inl (tc 0, (150 : Int).toNat, .inl (fun _ => 0)))] : va_W)) H := hw
  refine W.widen (k := 6) (n := 660) (by omega) (by omega) ?_
  refine g_putF (ci := 4) hx hb hf4 ⟨tyX4_ok, nmX4⟩ hw hS 0 rfl 7 (by decide) lk28 rfl hnm rfl (tyX4_ok 7 (by decide)) rfl rfl (Nat.le_of_ble_eq_true rfl) dX4_init_53 (fun H locs hw hS => ?_)
  have hw : wx D tc base u (E ++ ([(h0, .inr (4, [.int 0, .ref q1, .ref q2, .ref q3, .ref q4, .ref q5, .int 0, .ref q6, .null])), (q1, .inl (tc 0, (30 : Int).toNat, .inl (fun _ => 0))), (q2, .inl (tc 0, (30 : Int).toNat, .inl (fun _ => 0))), (q3, .inl (tc 0, (150 : Int).toNat, .inl (fun _ => 0))), (q4, .inl (tc 0, (150 : Int).toNat, .inl (fun _ => 0))), (q5, .inl (tc 1, (150 : Int).toNat, .inr (.inl (fun _ => 0)))), (q6, .inl (tc 0, (150 : Int).toNat, .inl (fun _ => 0)))] : va_W)) H := hw
  refine lv_aload_n hx hb dX4_init_56 rfl (lv_at hl 0 rfl) ?_
  refine lv_sipush (v := jI 1800) hx hb dX4_init_57 (by decide) ?_
  refine g_newa (t := 1) (z := 1800) (a0 := ((1800 : Int).toNat, .inr (.inl (fun _ => 0)))) (atype := .long) hx hb (hts (.arrayClass .long) (by first | exact gj_X4_init_0 _ (gp_4 (gp_4 gp_h)) | decide +kernel)) rfl hK.1 rfl hw hS hbs (fun _ => rfl) (by omega) (by omega) (by decide) (show 6 + 1 ≤ 7 by omega) (show 660 + (1800 : Int).toNat ≤ 2460 by omega) dX4_init_60 (fun q7 H hw hS => ?_)
  have hw : wx D tc base u (E ++ ([(h0, .inr (4, [.int 0, .ref q1, .ref q2, .ref q3, .ref q4, .ref q5, .int 0, .ref q6, .null])), (q1, .inl (tc 0, (30 : Int).toNat, .inl (fun _ => 0))), (q2, .inl (tc 0, (30 : Int).toNat, .inl (fun _ => 0))), (q3, .inl (tc 0, (150 : Int).toNat, .inl (fun _ => 0))), (q4, .inl (tc 0, (150 : Int).toNat, .inl (fun _ => 0))), (q5, .inl (tc 1, (150 : Int).toNat, .inr (.inl (fun _ => 0)))), (q6, .inl (tc 0, (150 : Int).toNat, .inl (fun _ => 0))), (q7, .inl (tc 1, (1800 : Int).toNat, .inr (.inl (fun _ => 0))))] : va_W)) H := hw
  refine W.widen (k := 7) (n := 2460) (by omega) (by omega) ?_
  refine g_putF (ci := 4) hx hb hf4 ⟨tyX4_ok, nmX4⟩ hw hS 0 rfl 8 (by decide) lk31 rfl hnm rfl (tyX4_ok 8 (by decide)) rfl rfl (Nat.le_of_ble_eq_true rfl) dX4_init_62 (fun H locs hw hS => ?_)
  have hw : wx D tc base u (E ++ ([(h0, .inr (4, [.int 0, .ref q1, .ref q2, .ref q3, .ref q4, .ref q5, .int 0, .ref q6, .ref q7])), (q1, .inl (tc 0, (30 : Int).toNat, .inl (fun _ => 0))), (q2, .inl (tc 0, (30 : Int).toNat, .inl (fun _ => 0))), (q3, .inl (tc 0, (150 : Int).toNat, .inl (fun _ => 0))), (q4, .inl (tc 0, (150 : Int).toNat, .inl (fun _ => 0))), (q5, .inl (tc 1, (150 : Int).toNat, .inr (.inl (fun _ => 0)))), (q6, .inl (tc 0, (150 : Int).toNat, .inl (fun _ => 0))), (q7, .inl (tc 1, (1800 : Int).toNat, .inr (.inl (fun _ => 0))))] : va_W)) H := hw
  refine ret_x hx hb hr hlocks hw hS (show 7 ≤ 7 by omega) (show 2460 ≤ 2460 by omega) dX4_init_65 ?_
  exact ⟨rfl, q1, q2, q3, q4, q5, q6, q7, rfl⟩

set_option maxHeartbeats 4000000 in
set_option maxRecDepth 100000 in
theorem c_X6_init (l : Launch) (D : va_G) (tc : Nat → ClassId) (base : Nat) (u : St) (E : va_W) (h0 : Nat)  : KC l D tc base yX6_init wsX6_init ({ frames := 1, cells := 2, slots := 10, locals := 12 } : Room) [.ref h0] u (E ++ ([(h0, .inr (6, [.null, .null, .null, .int 0]))] : va_W)) 2 10 (fun u' E' => u' = u ∧ ∃ q1 : Nat, ∃ q2 : Nat, E' = E ++ ([(h0, .inr (6, [.null, .ref q1, .ref q2, .int 0])), (q1, .inl (tc 1, (5 : Int).toNat, .inr (.inl (fun _ => 0)))), (q2, .inl (tc 6, (5 : Int).toNat, .inr (.inr (.inr (.inr (fun _ => none))))))] : va_W)) := by
  refine KC_of (cc := cX6_init) (maxL := 1) (ret := none) (by decide) rfl (Nat.le_of_ble_eq_true rfl) ?_
  intro p e s m below meth c ls hx hb hr hml hown hts hlocks hnm hl hK hw hS
  have hnm : meth.name = "<init>" := hnm
  have hown : s.vm.findClass RX6 = some m.cls := hown
  have hbs : base ≤ s.heap.size := hw.2.2
  have hi6 : ∀ w ∈ wsX60, w ∈ wsX6_init := fun w h => List.mem_cons_of_mem _ (List.mem_append_right _ h)
  have hf6 : fctx s m _ RX6 wsX6_init D tc RX6 TX6 4 6 := ⟨hts, hi6, hown, hK.1, rfl⟩
  have lk9 := hts (.fieldLink RX6 9 (TX6 1).1 (TX6 1).2.1 (TX6 1).2.2.1) (gj_X6_init_0 _ (gp_4 gp_h))
  have lk17 := hts (.fieldLink RX6 17 (TX6 2).1 (TX6 2).2.1 (TX6 2).2.2.1) (gj_X6_init_0 _ (gp_4 (gp_1 (gp_1 gp_h))))
  have hl : lv_has ls 1 [(0, .ref h0)] := hl
  refine lv_aload_n hx hb dX6_init_0 rfl (lv_at hl 0 rfl) ?_
  refine W.objInit hx hb hown (hts (.methodLink RX6 3 objectInit) (by first | exact gj_X6_init_0 _ (gp_h) | decide +kernel)) (hts (.instanceMethod objectInit) (by first | exact gj_X6_init_0 _ (gp_1 gp_h) | decide +kernel)) (hts _ (List.mem_cons_of_mem _ (List.mem_append_left _ (List.mem_of_getElem? (i := 2) rfl)))) rfl (by rw [hml]; exact hl.1) rfl dX6_init_1 (Nat.le_of_ble_eq_true rfl) (Nat.le_of_ble_eq_true rfl) ?_
  refine W.eq (g2 := F0 m 4 ls []) rfl ?_
  refine lv_aload_n hx hb dX6_init_4 rfl (lv_at hl 0 rfl) ?_
  refine lv_iconst (v := jI 5) hx hb dX6_init_5 rfl ?_
  refine g_newa (t := 1) (z := 5) (a0 := ((5 : Int).toNat, .inr (.inl (fun _ => 0)))) (atype := .long) hx hb (hts (.arrayClass .long) (by first | exact gj_X6_init_0 _ (gp_1 (gp_1 (gp_1 gp_h))) | decide +kernel)) rfl hK.1 rfl hw hS hbs (fun _ => rfl) (by omega) (by omega) (by decide) (show 0 + 1 ≤ 2 by omega) (show 0 + (5 : Int).toNat ≤ 10 by omega) dX6_init_6 (fun q1 H hw hS => ?_)
  have hw : wx D tc base u (E ++ ([(h0, .inr (6, [.null, .null, .null, .int 0])), (q1, .inl (tc 1, (5 : Int).toNat, .inr (.inl (fun _ => 0))))] : va_W)) H := hw
  refine W.widen (k := 1) (n := 5) (by omega) (by omega) ?_
  refine g_putF (ci := 6) hx hb hf6 ⟨tyX6_ok, nmX6⟩ hw hS 0 rfl 1 (by decide) lk9 rfl hnm rfl (tyX6_ok 1 (by decide)) rfl rfl (Nat.le_of_ble_eq_true rfl) dX6_init_8 (fun H locs hw hS => ?_)
  have hw : wx D tc base u (E ++ ([(h0, .inr (6, [.null, .ref q1, .null, .int 0])), (q1, .inl (tc 1, (5 : Int).toNat, .inr (.inl (fun _ => 0))))] : va_W)) H := hw
  refine lv_aload_n hx hb dX6_init_11 rfl (lv_at hl 0 rfl) ?_
  refine lv_iconst (v := jI 5) hx hb dX6_init_12 rfl ?_
  refine g_newq (t := 6) (z := 5) hx hb hown (hts (.classLink RX6 15 RX5) (by first | exact gj_X6_init_0 _ (gp_4 (gp_1 gp_h)) | decide +kernel)) hK.2.2.2.2.2.2.2.2.1 hK.1 rfl hw hS hbs (by omega) (by omega) (show 1 + 1 ≤ 2 by omega) (show 5 + (5 : Int).toNat ≤ 10 by omega) dX6_init_13 (fun q2 H hw hS => ?_)
  have hw : wx D tc base u (E ++ ([(h0, .inr (6, [.null, .ref q1, .null, .int 0])), (q1, .inl (tc 1, (5 : Int).toNat, .inr (.inl (fun _ => 0)))), (q2, .inl (tc 6, (5 : Int).toNat, .inr (.inr (.inr (.inr (fun _ => none))))))] : va_W)) H := hw
  refine W.widen (k := 2) (n := 10) (by omega) (by omega) ?_
  refine g_putF (ci := 6) hx hb hf6 ⟨tyX6_ok, nmX6⟩ hw hS 0 rfl 2 (by decide) lk17 rfl hnm rfl (tyX6_ok 2 (by decide)) rfl rfl (Nat.le_of_ble_eq_true rfl) dX6_init_16 (fun H locs hw hS => ?_)
  have hw : wx D tc base u (E ++ ([(h0, .inr (6, [.null, .ref q1, .ref q2, .int 0])), (q1, .inl (tc 1, (5 : Int).toNat, .inr (.inl (fun _ => 0)))), (q2, .inl (tc 6, (5 : Int).toNat, .inr (.inr (.inr (.inr (fun _ => none))))))] : va_W)) H := hw
  refine ret_x hx hb hr hlocks hw hS (show 2 ≤ 2 by omega) (show 10 ≤ 10 by omega) dX6_init_19 ?_
  exact ⟨rfl, q1, q2, rfl⟩
end
