noncomputable def tbL_law_n50 : List (Nat × Instr × Nat) := [(21, (.istore 4), 2), (23, (.iload 4), 2), (25, (.aload_n 0), 1), (26, .arraylength, 1), (27, (.bipush 7), 2), (29, .isub, 1), (30, (.if_icmp .gt 1346), 3), (33, (.aload_n 0), 1), (34, (.iload 4), 2), (36, .iaload, 1), (37, (.bipush 31), 2), (39, .iand, 1), (40, (.tableswitch 1330 0 26 #[124, 137, 230, 267, 332, 439, 464, 517, 542, 623, 672, 721, 782, 875, 942, 994, 1007, 1044, 1069, 1106, 1143, 1180, 1205, 1242, 1279, 1292, 1305]), 124), (164, (.aload_n 1), 1), (165, (.invokevirtual 27), 3), (168, .pop, 1), (169, (.aload_n 2), 1), (170, (.invokevirtual 31), 3), (173, .pop, 1), (174, (.goto 1196), 3), (177, (.aload_n 1), 1), (178, (.aload_n 0), 1), (179, (.iload 4), 2), (181, (.iconst 1), 1), (182, .iadd, 1), (183, .iaload, 1), (184, (.aload_n 0), 1), (185, (.iload 4), 2), (187, (.iconst 2), 1), (188, .iadd, 1), (189, .iaload, 1), (190, (.aload_n 0), 1), (191, (.iload 4), 2), (193, (.iconst 3), 1), (194, .iadd, 1), (195, .iaload, 1), (196, (.aload_n 0), 1), (197, (.iload 4), 2), (199, (.iconst 4), 1), (200, .iadd, 1), (201, .iaload, 1), (202, .i2l, 1), (203, (.bipush 32), 2), (205, .lshl, 1), (206, (.aload_n 0), 1), (207, (.iload 4), 2), (209, (.iconst 5), 1), (210, .iadd, 1), (211, .iaload, 1), (212, .i2l, 1), (213, (.ldc2_w 32), 3), (216, .land, 1), (217, .lor, 1), (218, (.invokevirtual 34), 3), (221, .pop, 1), (222, (.aload_n 2), 1), (223, (.aload_n 0), 1), (224, (.iload 4), 2), (226, (.iconst 1), 1), (227, .iadd, 1), (228, .iaload, 1), (229, (.aload_n 0), 1), (230, (.iload 4), 2), (232, (.iconst 2), 1), (233, .iadd, 1), (234, .iaload, 1), (235, (.aload_n 0), 1), (236, (.iload 4), 2), (238, (.iconst 3), 1), (239, .iadd, 1), (240, .iaload, 1), (241, (.aload_n 0), 1), (242, (.iload 4), 2), (244, (.iconst 4), 1), (245, .iadd, 1), (246, .iaload, 1), (247, .i2l, 1), (248, (.bipush 32), 2), (250, .lshl, 1), (251, (.aload_n 0), 1), (252, (.iload 4), 2), (254, (.iconst 5), 1), (255, .iadd, 1), (256, .iaload, 1), (257, .i2l, 1), (258, (.ldc2_w 32), 3), (261, .land, 1), (262, .lor, 1), (263, (.invokevirtual 38), 3), (266, .pop, 1), (267, (.goto 1103), 3), (270, (.aload_n 1), 1), (271, (.aload_n 0), 1), (272, (.iload 4), 2), (274, (.iconst 1), 1), (275, .iadd, 1), (276, .iaload, 1), (277, (.aload_n 0), 1), (278, (.iload 4), 2), (280, (.iconst 2), 1), (281, .iadd, 1), (282, .iaload, 1), (283, (.invokevirtual 39), 3), (286, .pop, 1), (287, (.aload_n 2), 1), (288, (.aload_n 0), 1), (289, (.iload 4), 2), (291, (.iconst 1), 1), (292, .iadd, 1), (293, .iaload, 1), (294, (.aload_n 0), 1), (295, (.iload 4), 2), (297, (.iconst 2), 1), (298, .iadd, 1), (299, .iaload, 1), (300, (.invokevirtual 43), 3), (303, .pop, 1), (304, (.goto 1066), 3), (307, (.aload_n 1), 1), (308, (.aload_n 0), 1)]
theorem tbL_law_n50_ok : ∀ q ∈ tbL_law_n50, decode cL_law q.1 = .ok q.2 := by decide +kernel
theorem dL_law_21 : decode cL_law 21 = .ok (.istore 4, 2) := tb_at tbL_law_n50_ok 0 rfl
theorem dL_law_23 : decode cL_law 23 = .ok (.iload 4, 2) := tb_at tbL_law_n50_ok 1 rfl
theorem dL_law_25 : decode cL_law 25 = .ok (.aload_n 0, 1) := tb_at tbL_law_n50_ok 2 rfl
theorem dL_law_26 : decode cL_law 26 = .ok (.arraylength, 1) := tb_at tbL_law_n50_ok 3 rfl
theorem dL_law_27 : decode cL_law 27 = .ok (.bipush 7, 2) := tb_at tbL_law_n50_ok 4 rfl
theorem dL_law_29 : decode cL_law 29 = .ok (.isub, 1) := tb_at tbL_law_n50_ok 5 rfl
theorem dL_law_30 : decode cL_law 30 = .ok (.if_icmp .gt 1346, 3) := tb_at tbL_law_n50_ok 6 rfl
theorem dL_law_33 : decode cL_law 33 = .ok (.aload_n 0, 1) := tb_at tbL_law_n50_ok 7 rfl
theorem dL_law_34 : decode cL_law 34 = .ok (.iload 4, 2) := tb_at tbL_law_n50_ok 8 rfl
theorem dL_law_36 : decode cL_law 36 = .ok (.iaload, 1) := tb_at tbL_law_n50_ok 9 rfl
theorem dL_law_37 : decode cL_law 37 = .ok (.bipush 31, 2) := tb_at tbL_law_n50_ok 10 rfl
theorem dL_law_39 : decode cL_law 39 = .ok (.iand, 1) := tb_at tbL_law_n50_ok 11 rfl
theorem dL_law_40 : decode cL_law 40 = .ok (.tableswitch 1330 0 26 #[124, 137, 230, 267, 332, 439, 464, 517, 542, 623, 672, 721, 782, 875, 942, 994, 1007, 1044, 1069, 1106, 1143, 1180, 1205, 1242, 1279, 1292, 1305], 124) := tb_at tbL_law_n50_ok 12 rfl
theorem dL_law_164 : decode cL_law 164 = .ok (.aload_n 1, 1) := tb_at tbL_law_n50_ok 13 rfl
theorem dL_law_165 : decode cL_law 165 = .ok (.invokevirtual 27, 3) := tb_at tbL_law_n50_ok 14 rfl
theorem dL_law_168 : decode cL_law 168 = .ok (.pop, 1) := tb_at tbL_law_n50_ok 15 rfl
theorem dL_law_169 : decode cL_law 169 = .ok (.aload_n 2, 1) := tb_at tbL_law_n50_ok 16 rfl
theorem dL_law_170 : decode cL_law 170 = .ok (.invokevirtual 31, 3) := tb_at tbL_law_n50_ok 17 rfl
theorem dL_law_173 : decode cL_law 173 = .ok (.pop, 1) := tb_at tbL_law_n50_ok 18 rfl
theorem dL_law_174 : decode cL_law 174 = .ok (.goto 1196, 3) := tb_at tbL_law_n50_ok 19 rfl
theorem dL_law_177 : decode cL_law 177 = .ok (.aload_n 1, 1) := tb_at tbL_law_n50_ok 20 rfl
theorem dL_law_178 : decode cL_law 178 = .ok (.aload_n 0, 1) := tb_at tbL_law_n50_ok 21 rfl
theorem dL_law_179 : decode cL_law 179 = .ok (.iload 4, 2) := tb_at tbL_law_n50_ok 22 rfl
theorem dL_law_181 : decode cL_law 181 = .ok (.iconst 1, 1) := tb_at tbL_law_n50_ok 23 rfl
theorem dL_law_182 : decode cL_law 182 = .ok (.iadd, 1) := tb_at tbL_law_n50_ok 24 rfl
theorem dL_law_183 : decode cL_law 183 = .ok (.iaload, 1) := tb_at tbL_law_n50_ok 25 rfl
theorem dL_law_184 : decode cL_law 184 = .ok (.aload_n 0, 1) := tb_at tbL_law_n50_ok 26 rfl
theorem dL_law_185 : decode cL_law 185 = .ok (.iload 4, 2) := tb_at tbL_law_n50_ok 27 rfl
theorem dL_law_187 : decode cL_law 187 = .ok (.iconst 2, 1) := tb_at tbL_law_n50_ok 28 rfl
theorem dL_law_188 : decode cL_law 188 = .ok (.iadd, 1) := tb_at tbL_law_n50_ok 29 rfl
theorem dL_law_189 : decode cL_law 189 = .ok (.iaload, 1) := tb_at tbL_law_n50_ok 30 rfl
theorem dL_law_190 : decode cL_law 190 = .ok (.aload_n 0, 1) := tb_at tbL_law_n50_ok 31 rfl
theorem dL_law_191 : decode cL_law 191 = .ok (.iload 4, 2) := tb_at tbL_law_n50_ok 32 rfl
theorem dL_law_193 : decode cL_law 193 = .ok (.iconst 3, 1) := tb_at tbL_law_n50_ok 33 rfl
theorem dL_law_194 : decode cL_law 194 = .ok (.iadd, 1) := tb_at tbL_law_n50_ok 34 rfl
theorem dL_law_195 : decode cL_law 195 = .ok (.iaload, 1) := tb_at tbL_law_n50_ok 35 rfl
theorem dL_law_196 : decode cL_law 196 = .ok (.aload_n 0, 1) := tb_at tbL_law_n50_ok 36 rfl
theorem dL_law_197 : decode cL_law 197 = .ok (.iload 4, 2) := tb_at tbL_law_n50_ok 37 rfl
theorem dL_law_199 : decode cL_law 199 = .ok (.iconst 4, 1) := tb_at tbL_law_n50_ok 38 rfl
theorem dL_law_200 : decode cL_law 200 = .ok (.iadd, 1) := tb_at tbL_law_n50_ok 39 rfl
theorem dL_law_201 : decode cL_law 201 = .ok (.iaload, 1) := tb_at tbL_law_n50_ok 40 rfl
theorem dL_law_202 : decode cL_law 202 = .ok (.i2l, 1) := tb_at tbL_law_n50_ok 41 rfl
theorem dL_law_203 : decode cL_law 203 = .ok (.bipush 32, 2) := tb_at tbL_law_n50_ok 42 rfl
theorem dL_law_205 : decode cL_law 205 = .ok (.lshl, 1) := tb_at tbL_law_n50_ok 43 rfl
theorem dL_law_206 : decode cL_law 206 = .ok (.aload_n 0, 1) := tb_at tbL_law_n50_ok 44 rfl
theorem dL_law_207 : decode cL_law 207 = .ok (.iload 4, 2) := tb_at tbL_law_n50_ok 45 rfl
theorem dL_law_209 : decode cL_law 209 = .ok (.iconst 5, 1) := tb_at tbL_law_n50_ok 46 rfl
theorem dL_law_210 : decode cL_law 210 = .ok (.iadd, 1) := tb_at tbL_law_n50_ok 47 rfl
theorem dL_law_211 : decode cL_law 211 = .ok (.iaload, 1) := tb_at tbL_law_n50_ok 48 rfl
theorem dL_law_212 : decode cL_law 212 = .ok (.i2l, 1) := tb_at tbL_law_n50_ok 49 rfl
theorem dL_law_213 : decode cL_law 213 = .ok (.ldc2_w 32, 3) := tb_at tbL_law_n50_ok 50 rfl
theorem dL_law_216 : decode cL_law 216 = .ok (.land, 1) := tb_at tbL_law_n50_ok 51 rfl
theorem dL_law_217 : decode cL_law 217 = .ok (.lor, 1) := tb_at tbL_law_n50_ok 52 rfl
theorem dL_law_218 : decode cL_law 218 = .ok (.invokevirtual 34, 3) := tb_at tbL_law_n50_ok 53 rfl
theorem dL_law_221 : decode cL_law 221 = .ok (.pop, 1) := tb_at tbL_law_n50_ok 54 rfl
theorem dL_law_222 : decode cL_law 222 = .ok (.aload_n 2, 1) := tb_at tbL_law_n50_ok 55 rfl
theorem dL_law_223 : decode cL_law 223 = .ok (.aload_n 0, 1) := tb_at tbL_law_n50_ok 56 rfl
theorem dL_law_224 : decode cL_law 224 = .ok (.iload 4, 2) := tb_at tbL_law_n50_ok 57 rfl
theorem dL_law_226 : decode cL_law 226 = .ok (.iconst 1, 1) := tb_at tbL_law_n50_ok 58 rfl
theorem dL_law_227 : decode cL_law 227 = .ok (.iadd, 1) := tb_at tbL_law_n50_ok 59 rfl
theorem dL_law_228 : decode cL_law 228 = .ok (.iaload, 1) := tb_at tbL_law_n50_ok 60 rfl
theorem dL_law_229 : decode cL_law 229 = .ok (.aload_n 0, 1) := tb_at tbL_law_n50_ok 61 rfl
theorem dL_law_230 : decode cL_law 230 = .ok (.iload 4, 2) := tb_at tbL_law_n50_ok 62 rfl
theorem dL_law_232 : decode cL_law 232 = .ok (.iconst 2, 1) := tb_at tbL_law_n50_ok 63 rfl
theorem dL_law_233 : decode cL_law 233 = .ok (.iadd, 1) := tb_at tbL_law_n50_ok 64 rfl
theorem dL_law_234 : decode cL_law 234 = .ok (.iaload, 1) := tb_at tbL_law_n50_ok 65 rfl
theorem dL_law_235 : decode cL_law 235 = .ok (.aload_n 0, 1) := tb_at tbL_law_n50_ok 66 rfl
theorem dL_law_236 : decode cL_law 236 = .ok (.iload 4, 2) := tb_at tbL_law_n50_ok 67 rfl
theorem dL_law_238 : decode cL_law 238 = .ok (.iconst 3, 1) := tb_at tbL_law_n50_ok 68 rfl
theorem dL_law_239 : decode cL_law 239 = .ok (.iadd, 1) := tb_at tbL_law_n50_ok 69 rfl
theorem dL_law_240 : decode cL_law 240 = .ok (.iaload, 1) := tb_at tbL_law_n50_ok 70 rfl
theorem dL_law_241 : decode cL_law 241 = .ok (.aload_n 0, 1) := tb_at tbL_law_n50_ok 71 rfl
theorem dL_law_242 : decode cL_law 242 = .ok (.iload 4, 2) := tb_at tbL_law_n50_ok 72 rfl
theorem dL_law_244 : decode cL_law 244 = .ok (.iconst 4, 1) := tb_at tbL_law_n50_ok 73 rfl
theorem dL_law_245 : decode cL_law 245 = .ok (.iadd, 1) := tb_at tbL_law_n50_ok 74 rfl
theorem dL_law_246 : decode cL_law 246 = .ok (.iaload, 1) := tb_at tbL_law_n50_ok 75 rfl
theorem dL_law_247 : decode cL_law 247 = .ok (.i2l, 1) := tb_at tbL_law_n50_ok 76 rfl
theorem dL_law_248 : decode cL_law 248 = .ok (.bipush 32, 2) := tb_at tbL_law_n50_ok 77 rfl
theorem dL_law_250 : decode cL_law 250 = .ok (.lshl, 1) := tb_at tbL_law_n50_ok 78 rfl
theorem dL_law_251 : decode cL_law 251 = .ok (.aload_n 0, 1) := tb_at tbL_law_n50_ok 79 rfl
theorem dL_law_252 : decode cL_law 252 = .ok (.iload 4, 2) := tb_at tbL_law_n50_ok 80 rfl
theorem dL_law_254 : decode cL_law 254 = .ok (.iconst 5, 1) := tb_at tbL_law_n50_ok 81 rfl
theorem dL_law_255 : decode cL_law 255 = .ok (.iadd, 1) := tb_at tbL_law_n50_ok 82 rfl
theorem dL_law_256 : decode cL_law 256 = .ok (.iaload, 1) := tb_at tbL_law_n50_ok 83 rfl
theorem dL_law_257 : decode cL_law 257 = .ok (.i2l, 1) := tb_at tbL_law_n50_ok 84 rfl
theorem dL_law_258 : decode cL_law 258 = .ok (.ldc2_w 32, 3) := tb_at tbL_law_n50_ok 85 rfl
theorem dL_law_261 : decode cL_law 261 = .ok (.land, 1) := tb_at tbL_law_n50_ok 86 rfl
theorem dL_law_262 : decode cL_law 262 = .ok (.lor, 1) := tb_at tbL_law_n50_ok 87 rfl
theorem dL_law_263 : decode cL_law 263 = .ok (.invokevirtual 38, 3) := tb_at tbL_law_n50_ok 88 rfl
theorem dL_law_266 : decode cL_law 266 = .ok (.pop, 1) := tb_at tbL_law_n50_ok 89 rfl
theorem dL_law_267 : decode cL_law 267 = .ok (.goto 1103, 3) := tb_at tbL_law_n50_ok 90 rfl
theorem dL_law_270 : decode cL_law 270 = .ok (.aload_n 1, 1) := tb_at tbL_law_n50_ok 91 rfl
theorem dL_law_271 : decode cL_law 271 = .ok (.aload_n 0, 1) := tb_at tbL_law_n50_ok 92 rfl
theorem dL_law_272 : decode cL_law 272 = .ok (.iload 4, 2) := tb_at tbL_law_n50_ok 93 rfl
theorem dL_law_274 : decode cL_law 274 = .ok (.iconst 1, 1) := tb_at tbL_law_n50_ok 94 rfl
theorem dL_law_275 : decode cL_law 275 = .ok (.iadd, 1) := tb_at tbL_law_n50_ok 95 rfl
theorem dL_law_276 : decode cL_law 276 = .ok (.iaload, 1) := tb_at tbL_law_n50_ok 96 rfl
theorem dL_law_277 : decode cL_law 277 = .ok (.aload_n 0, 1) := tb_at tbL_law_n50_ok 97 rfl
theorem dL_law_278 : decode cL_law 278 = .ok (.iload 4, 2) := tb_at tbL_law_n50_ok 98 rfl
theorem dL_law_280 : decode cL_law 280 = .ok (.iconst 2, 1) := tb_at tbL_law_n50_ok 99 rfl
theorem dL_law_281 : decode cL_law 281 = .ok (.iadd, 1) := tb_at tbL_law_n50_ok 100 rfl
theorem dL_law_282 : decode cL_law 282 = .ok (.iaload, 1) := tb_at tbL_law_n50_ok 101 rfl
theorem dL_law_283 : decode cL_law 283 = .ok (.invokevirtual 39, 3) := tb_at tbL_law_n50_ok 102 rfl
theorem dL_law_286 : decode cL_law 286 = .ok (.pop, 1) := tb_at tbL_law_n50_ok 103 rfl
theorem dL_law_287 : decode cL_law 287 = .ok (.aload_n 2, 1) := tb_at tbL_law_n50_ok 104 rfl
theorem dL_law_288 : decode cL_law 288 = .ok (.aload_n 0, 1) := tb_at tbL_law_n50_ok 105 rfl
theorem dL_law_289 : decode cL_law 289 = .ok (.iload 4, 2) := tb_at tbL_law_n50_ok 106 rfl
theorem dL_law_291 : decode cL_law 291 = .ok (.iconst 1, 1) := tb_at tbL_law_n50_ok 107 rfl
theorem dL_law_292 : decode cL_law 292 = .ok (.iadd, 1) := tb_at tbL_law_n50_ok 108 rfl
theorem dL_law_293 : decode cL_law 293 = .ok (.iaload, 1) := tb_at tbL_law_n50_ok 109 rfl
theorem dL_law_294 : decode cL_law 294 = .ok (.aload_n 0, 1) := tb_at tbL_law_n50_ok 110 rfl
theorem dL_law_295 : decode cL_law 295 = .ok (.iload 4, 2) := tb_at tbL_law_n50_ok 111 rfl
theorem dL_law_297 : decode cL_law 297 = .ok (.iconst 2, 1) := tb_at tbL_law_n50_ok 112 rfl
theorem dL_law_298 : decode cL_law 298 = .ok (.iadd, 1) := tb_at tbL_law_n50_ok 113 rfl
theorem dL_law_299 : decode cL_law 299 = .ok (.iaload, 1) := tb_at tbL_law_n50_ok 114 rfl
theorem dL_law_300 : decode cL_law 300 = .ok (.invokevirtual 43, 3) := tb_at tbL_law_n50_ok 115 rfl
theorem dL_law_303 : decode cL_law 303 = .ok (.pop, 1) := tb_at tbL_law_n50_ok 116 rfl
theorem dL_law_304 : decode cL_law 304 = .ok (.goto 1066, 3) := tb_at tbL_law_n50_ok 117 rfl
theorem dL_law_307 : decode cL_law 307 = .ok (.aload_n 1, 1) := tb_at tbL_law_n50_ok 118 rfl
theorem dL_law_308 : decode cL_law 308 = .ok (.aload_n 0, 1) := tb_at tbL_law_n50_ok 119 rfl
noncomputable def tbL_law_n51 : List (Nat × Instr × Nat) := [(309, (.iload 4), 2), (311, (.iconst 1), 1), (312, .iadd, 1), (313, .iaload, 1), (314, (.aload_n 0), 1), (315, (.iload 4), 2), (317, (.iconst 2), 1), (318, .iadd, 1), (319, .iaload, 1), (320, (.aload_n 0), 1), (321, (.iload 4), 2), (323, (.iconst 3), 1), (324, .iadd, 1), (325, .iaload, 1), (326, (.ifCond .eq 7), 3), (329, (.iconst 1), 1), (330, (.goto 4), 3), (333, (.iconst 0), 1), (334, (.invokevirtual 44), 3), (337, .pop, 1), (338, (.aload_n 2), 1), (339, (.aload_n 0), 1), (340, (.iload 4), 2), (342, (.iconst 1), 1), (343, .iadd, 1), (344, .iaload, 1), (345, (.aload_n 0), 1), (346, (.iload 4), 2), (348, (.iconst 2), 1), (349, .iadd, 1), (350, .iaload, 1), (351, (.aload_n 0), 1), (352, (.iload 4), 2), (354, (.iconst 3), 1), (355, .iadd, 1), (356, .iaload, 1), (357, (.ifCond .eq 7), 3), (360, (.iconst 1), 1), (361, (.goto 4), 3), (364, (.iconst 0), 1), (365, (.invokevirtual 48), 3), (368, .pop, 1), (369, (.goto 1001), 3), (372, (.aload_n 1), 1), (373, (.aload_n 0), 1), (374, (.iload 4), 2), (376, (.iconst 1), 1), (377, .iadd, 1), (378, .iaload, 1), (379, (.aload_n 0), 1), (380, (.iload 4), 2), (382, (.iconst 2), 1), (383, .iadd, 1), (384, .iaload, 1), (385, (.aload_n 0), 1), (386, (.iload 4), 2), (388, (.iconst 3), 1), (389, .iadd, 1), (390, .iaload, 1), (391, (.aload_n 0), 1), (392, (.iload 4), 2), (394, (.iconst 4), 1), (395, .iadd, 1), (396, .iaload, 1), (397, (.aload_n 0), 1), (398, (.iload 4), 2), (400, (.iconst 5), 1), (401, .iadd, 1), (402, .iaload, 1), (403, .i2l, 1), (404, (.bipush 32), 2), (406, .lshl, 1), (407, (.aload_n 0), 1), (408, (.iload 4), 2), (410, (.bipush 6), 2), (412, .iadd, 1), (413, .iaload, 1), (414, .i2l, 1), (415, (.ldc2_w 32), 3), (418, .land, 1), (419, .lor, 1), (420, (.invokevirtual 49), 3), (423, .pop, 1), (424, (.aload_n 2), 1), (425, (.aload_n 0), 1), (426, (.iload 4), 2), (428, (.iconst 1), 1), (429, .iadd, 1), (430, .iaload, 1), (431, (.aload_n 0), 1), (432, (.iload 4), 2), (434, (.iconst 2), 1), (435, .iadd, 1), (436, .iaload, 1), (437, (.aload_n 0), 1), (438, (.iload 4), 2), (440, (.iconst 3), 1), (441, .iadd, 1), (442, .iaload, 1), (443, (.aload_n 0), 1), (444, (.iload 4), 2), (446, (.iconst 4), 1), (447, .iadd, 1), (448, .iaload, 1), (449, (.aload_n 0), 1), (450, (.iload 4), 2), (452, (.iconst 5), 1), (453, .iadd, 1), (454, .iaload, 1), (455, .i2l, 1), (456, (.bipush 32), 2), (458, .lshl, 1), (459, (.aload_n 0), 1), (460, (.iload 4), 2), (462, (.bipush 6), 2), (464, .iadd, 1), (465, .iaload, 1), (466, .i2l, 1), (467, (.ldc2_w 32), 3), (470, .land, 1)]
theorem tbL_law_n51_ok : ∀ q ∈ tbL_law_n51, decode cL_law q.1 = .ok q.2 := by decide +kernel
theorem dL_law_309 : decode cL_law 309 = .ok (.iload 4, 2) := tb_at tbL_law_n51_ok 0 rfl
theorem dL_law_311 : decode cL_law 311 = .ok (.iconst 1, 1) := tb_at tbL_law_n51_ok 1 rfl
theorem dL_law_312 : decode cL_law 312 = .ok (.iadd, 1) := tb_at tbL_law_n51_ok 2 rfl
theorem dL_law_313 : decode cL_law 313 = .ok (.iaload, 1) := tb_at tbL_law_n51_ok 3 rfl
theorem dL_law_314 : decode cL_law 314 = .ok (.aload_n 0, 1) := tb_at tbL_law_n51_ok 4 rfl
theorem dL_law_315 : decode cL_law 315 = .ok (.iload 4, 2) := tb_at tbL_law_n51_ok 5 rfl
theorem dL_law_317 : decode cL_law 317 = .ok (.iconst 2, 1) := tb_at tbL_law_n51_ok 6 rfl
theorem dL_law_318 : decode cL_law 318 = .ok (.iadd, 1) := tb_at tbL_law_n51_ok 7 rfl
theorem dL_law_319 : decode cL_law 319 = .ok (.iaload, 1) := tb_at tbL_law_n51_ok 8 rfl
theorem dL_law_320 : decode cL_law 320 = .ok (.aload_n 0, 1) := tb_at tbL_law_n51_ok 9 rfl
theorem dL_law_321 : decode cL_law 321 = .ok (.iload 4, 2) := tb_at tbL_law_n51_ok 10 rfl
theorem dL_law_323 : decode cL_law 323 = .ok (.iconst 3, 1) := tb_at tbL_law_n51_ok 11 rfl
theorem dL_law_324 : decode cL_law 324 = .ok (.iadd, 1) := tb_at tbL_law_n51_ok 12 rfl
theorem dL_law_325 : decode cL_law 325 = .ok (.iaload, 1) := tb_at tbL_law_n51_ok 13 rfl
theorem dL_law_326 : decode cL_law 326 = .ok (.ifCond .eq 7, 3) := tb_at tbL_law_n51_ok 14 rfl
theorem dL_law_329 : decode cL_law 329 = .ok (.iconst 1, 1) := tb_at tbL_law_n51_ok 15 rfl
theorem dL_law_330 : decode cL_law 330 = .ok (.goto 4, 3) := tb_at tbL_law_n51_ok 16 rfl
theorem dL_law_333 : decode cL_law 333 = .ok (.iconst 0, 1) := tb_at tbL_law_n51_ok 17 rfl
theorem dL_law_334 : decode cL_law 334 = .ok (.invokevirtual 44, 3) := tb_at tbL_law_n51_ok 18 rfl
theorem dL_law_337 : decode cL_law 337 = .ok (.pop, 1) := tb_at tbL_law_n51_ok 19 rfl
theorem dL_law_338 : decode cL_law 338 = .ok (.aload_n 2, 1) := tb_at tbL_law_n51_ok 20 rfl
theorem dL_law_339 : decode cL_law 339 = .ok (.aload_n 0, 1) := tb_at tbL_law_n51_ok 21 rfl
theorem dL_law_340 : decode cL_law 340 = .ok (.iload 4, 2) := tb_at tbL_law_n51_ok 22 rfl
theorem dL_law_342 : decode cL_law 342 = .ok (.iconst 1, 1) := tb_at tbL_law_n51_ok 23 rfl
theorem dL_law_343 : decode cL_law 343 = .ok (.iadd, 1) := tb_at tbL_law_n51_ok 24 rfl
theorem dL_law_344 : decode cL_law 344 = .ok (.iaload, 1) := tb_at tbL_law_n51_ok 25 rfl
theorem dL_law_345 : decode cL_law 345 = .ok (.aload_n 0, 1) := tb_at tbL_law_n51_ok 26 rfl
theorem dL_law_346 : decode cL_law 346 = .ok (.iload 4, 2) := tb_at tbL_law_n51_ok 27 rfl
theorem dL_law_348 : decode cL_law 348 = .ok (.iconst 2, 1) := tb_at tbL_law_n51_ok 28 rfl
theorem dL_law_349 : decode cL_law 349 = .ok (.iadd, 1) := tb_at tbL_law_n51_ok 29 rfl
theorem dL_law_350 : decode cL_law 350 = .ok (.iaload, 1) := tb_at tbL_law_n51_ok 30 rfl
theorem dL_law_351 : decode cL_law 351 = .ok (.aload_n 0, 1) := tb_at tbL_law_n51_ok 31 rfl
theorem dL_law_352 : decode cL_law 352 = .ok (.iload 4, 2) := tb_at tbL_law_n51_ok 32 rfl
theorem dL_law_354 : decode cL_law 354 = .ok (.iconst 3, 1) := tb_at tbL_law_n51_ok 33 rfl
theorem dL_law_355 : decode cL_law 355 = .ok (.iadd, 1) := tb_at tbL_law_n51_ok 34 rfl
theorem dL_law_356 : decode cL_law 356 = .ok (.iaload, 1) := tb_at tbL_law_n51_ok 35 rfl
theorem dL_law_357 : decode cL_law 357 = .ok (.ifCond .eq 7, 3) := tb_at tbL_law_n51_ok 36 rfl
theorem dL_law_360 : decode cL_law 360 = .ok (.iconst 1, 1) := tb_at tbL_law_n51_ok 37 rfl
theorem dL_law_361 : decode cL_law 361 = .ok (.goto 4, 3) := tb_at tbL_law_n51_ok 38 rfl
theorem dL_law_364 : decode cL_law 364 = .ok (.iconst 0, 1) := tb_at tbL_law_n51_ok 39 rfl
theorem dL_law_365 : decode cL_law 365 = .ok (.invokevirtual 48, 3) := tb_at tbL_law_n51_ok 40 rfl
theorem dL_law_368 : decode cL_law 368 = .ok (.pop, 1) := tb_at tbL_law_n51_ok 41 rfl
theorem dL_law_369 : decode cL_law 369 = .ok (.goto 1001, 3) := tb_at tbL_law_n51_ok 42 rfl
theorem dL_law_372 : decode cL_law 372 = .ok (.aload_n 1, 1) := tb_at tbL_law_n51_ok 43 rfl
theorem dL_law_373 : decode cL_law 373 = .ok (.aload_n 0, 1) := tb_at tbL_law_n51_ok 44 rfl
theorem dL_law_374 : decode cL_law 374 = .ok (.iload 4, 2) := tb_at tbL_law_n51_ok 45 rfl
theorem dL_law_376 : decode cL_law 376 = .ok (.iconst 1, 1) := tb_at tbL_law_n51_ok 46 rfl
theorem dL_law_377 : decode cL_law 377 = .ok (.iadd, 1) := tb_at tbL_law_n51_ok 47 rfl
theorem dL_law_378 : decode cL_law 378 = .ok (.iaload, 1) := tb_at tbL_law_n51_ok 48 rfl
theorem dL_law_379 : decode cL_law 379 = .ok (.aload_n 0, 1) := tb_at tbL_law_n51_ok 49 rfl
theorem dL_law_380 : decode cL_law 380 = .ok (.iload 4, 2) := tb_at tbL_law_n51_ok 50 rfl
theorem dL_law_382 : decode cL_law 382 = .ok (.iconst 2, 1) := tb_at tbL_law_n51_ok 51 rfl
theorem dL_law_383 : decode cL_law 383 = .ok (.iadd, 1) := tb_at tbL_law_n51_ok 52 rfl
theorem dL_law_384 : decode cL_law 384 = .ok (.iaload, 1) := tb_at tbL_law_n51_ok 53 rfl
theorem dL_law_385 : decode cL_law 385 = .ok (.aload_n 0, 1) := tb_at tbL_law_n51_ok 54 rfl
theorem dL_law_386 : decode cL_law 386 = .ok (.iload 4, 2) := tb_at tbL_law_n51_ok 55 rfl
theorem dL_law_388 : decode cL_law 388 = .ok (.iconst 3, 1) := tb_at tbL_law_n51_ok 56 rfl
theorem dL_law_389 : decode cL_law 389 = .ok (.iadd, 1) := tb_at tbL_law_n51_ok 57 rfl
theorem dL_law_390 : decode cL_law 390 = .ok (.iaload, 1) := tb_at tbL_law_n51_ok 58 rfl
theorem dL_law_391 : decode cL_law 391 = .ok (.aload_n 0, 1) := tb_at tbL_law_n51_ok 59 rfl
theorem dL_law_392 : decode cL_law 392 = .ok (.iload 4, 2) := tb_at tbL_law_n51_ok 60 rfl
theorem dL_law_394 : decode cL_law 394 = .ok (.iconst 4, 1) := tb_at tbL_law_n51_ok 61 rfl
theorem dL_law_395 : decode cL_law 395 = .ok (.iadd, 1) := tb_at tbL_law_n51_ok 62 rfl
theorem dL_law_396 : decode cL_law 396 = .ok (.iaload, 1) := tb_at tbL_law_n51_ok 63 rfl
theorem dL_law_397 : decode cL_law 397 = .ok (.aload_n 0, 1) := tb_at tbL_law_n51_ok 64 rfl
theorem dL_law_398 : decode cL_law 398 = .ok (.iload 4, 2) := tb_at tbL_law_n51_ok 65 rfl
theorem dL_law_400 : decode cL_law 400 = .ok (.iconst 5, 1) := tb_at tbL_law_n51_ok 66 rfl
theorem dL_law_401 : decode cL_law 401 = .ok (.iadd, 1) := tb_at tbL_law_n51_ok 67 rfl
theorem dL_law_402 : decode cL_law 402 = .ok (.iaload, 1) := tb_at tbL_law_n51_ok 68 rfl
theorem dL_law_403 : decode cL_law 403 = .ok (.i2l, 1) := tb_at tbL_law_n51_ok 69 rfl
theorem dL_law_404 : decode cL_law 404 = .ok (.bipush 32, 2) := tb_at tbL_law_n51_ok 70 rfl
theorem dL_law_406 : decode cL_law 406 = .ok (.lshl, 1) := tb_at tbL_law_n51_ok 71 rfl
theorem dL_law_407 : decode cL_law 407 = .ok (.aload_n 0, 1) := tb_at tbL_law_n51_ok 72 rfl
theorem dL_law_408 : decode cL_law 408 = .ok (.iload 4, 2) := tb_at tbL_law_n51_ok 73 rfl
theorem dL_law_410 : decode cL_law 410 = .ok (.bipush 6, 2) := tb_at tbL_law_n51_ok 74 rfl
theorem dL_law_412 : decode cL_law 412 = .ok (.iadd, 1) := tb_at tbL_law_n51_ok 75 rfl
theorem dL_law_413 : decode cL_law 413 = .ok (.iaload, 1) := tb_at tbL_law_n51_ok 76 rfl
theorem dL_law_414 : decode cL_law 414 = .ok (.i2l, 1) := tb_at tbL_law_n51_ok 77 rfl
theorem dL_law_415 : decode cL_law 415 = .ok (.ldc2_w 32, 3) := tb_at tbL_law_n51_ok 78 rfl
theorem dL_law_418 : decode cL_law 418 = .ok (.land, 1) := tb_at tbL_law_n51_ok 79 rfl
theorem dL_law_419 : decode cL_law 419 = .ok (.lor, 1) := tb_at tbL_law_n51_ok 80 rfl
theorem dL_law_420 : decode cL_law 420 = .ok (.invokevirtual 49, 3) := tb_at tbL_law_n51_ok 81 rfl
theorem dL_law_423 : decode cL_law 423 = .ok (.pop, 1) := tb_at tbL_law_n51_ok 82 rfl
theorem dL_law_424 : decode cL_law 424 = .ok (.aload_n 2, 1) := tb_at tbL_law_n51_ok 83 rfl
theorem dL_law_425 : decode cL_law 425 = .ok (.aload_n 0, 1) := tb_at tbL_law_n51_ok 84 rfl
theorem dL_law_426 : decode cL_law 426 = .ok (.iload 4, 2) := tb_at tbL_law_n51_ok 85 rfl
theorem dL_law_428 : decode cL_law 428 = .ok (.iconst 1, 1) := tb_at tbL_law_n51_ok 86 rfl
theorem dL_law_429 : decode cL_law 429 = .ok (.iadd, 1) := tb_at tbL_law_n51_ok 87 rfl
theorem dL_law_430 : decode cL_law 430 = .ok (.iaload, 1) := tb_at tbL_law_n51_ok 88 rfl
theorem dL_law_431 : decode cL_law 431 = .ok (.aload_n 0, 1) := tb_at tbL_law_n51_ok 89 rfl
theorem dL_law_432 : decode cL_law 432 = .ok (.iload 4, 2) := tb_at tbL_law_n51_ok 90 rfl
theorem dL_law_434 : decode cL_law 434 = .ok (.iconst 2, 1) := tb_at tbL_law_n51_ok 91 rfl
theorem dL_law_435 : decode cL_law 435 = .ok (.iadd, 1) := tb_at tbL_law_n51_ok 92 rfl
theorem dL_law_436 : decode cL_law 436 = .ok (.iaload, 1) := tb_at tbL_law_n51_ok 93 rfl
theorem dL_law_437 : decode cL_law 437 = .ok (.aload_n 0, 1) := tb_at tbL_law_n51_ok 94 rfl
theorem dL_law_438 : decode cL_law 438 = .ok (.iload 4, 2) := tb_at tbL_law_n51_ok 95 rfl
theorem dL_law_440 : decode cL_law 440 = .ok (.iconst 3, 1) := tb_at tbL_law_n51_ok 96 rfl
theorem dL_law_441 : decode cL_law 441 = .ok (.iadd, 1) := tb_at tbL_law_n51_ok 97 rfl
theorem dL_law_442 : decode cL_law 442 = .ok (.iaload, 1) := tb_at tbL_law_n51_ok 98 rfl
theorem dL_law_443 : decode cL_law 443 = .ok (.aload_n 0, 1) := tb_at tbL_law_n51_ok 99 rfl
theorem dL_law_444 : decode cL_law 444 = .ok (.iload 4, 2) := tb_at tbL_law_n51_ok 100 rfl
theorem dL_law_446 : decode cL_law 446 = .ok (.iconst 4, 1) := tb_at tbL_law_n51_ok 101 rfl
theorem dL_law_447 : decode cL_law 447 = .ok (.iadd, 1) := tb_at tbL_law_n51_ok 102 rfl
theorem dL_law_448 : decode cL_law 448 = .ok (.iaload, 1) := tb_at tbL_law_n51_ok 103 rfl
theorem dL_law_449 : decode cL_law 449 = .ok (.aload_n 0, 1) := tb_at tbL_law_n51_ok 104 rfl
theorem dL_law_450 : decode cL_law 450 = .ok (.iload 4, 2) := tb_at tbL_law_n51_ok 105 rfl
theorem dL_law_452 : decode cL_law 452 = .ok (.iconst 5, 1) := tb_at tbL_law_n51_ok 106 rfl
theorem dL_law_453 : decode cL_law 453 = .ok (.iadd, 1) := tb_at tbL_law_n51_ok 107 rfl
theorem dL_law_454 : decode cL_law 454 = .ok (.iaload, 1) := tb_at tbL_law_n51_ok 108 rfl
theorem dL_law_455 : decode cL_law 455 = .ok (.i2l, 1) := tb_at tbL_law_n51_ok 109 rfl
theorem dL_law_456 : decode cL_law 456 = .ok (.bipush 32, 2) := tb_at tbL_law_n51_ok 110 rfl
theorem dL_law_458 : decode cL_law 458 = .ok (.lshl, 1) := tb_at tbL_law_n51_ok 111 rfl
theorem dL_law_459 : decode cL_law 459 = .ok (.aload_n 0, 1) := tb_at tbL_law_n51_ok 112 rfl
theorem dL_law_460 : decode cL_law 460 = .ok (.iload 4, 2) := tb_at tbL_law_n51_ok 113 rfl
theorem dL_law_462 : decode cL_law 462 = .ok (.bipush 6, 2) := tb_at tbL_law_n51_ok 114 rfl
theorem dL_law_464 : decode cL_law 464 = .ok (.iadd, 1) := tb_at tbL_law_n51_ok 115 rfl
theorem dL_law_465 : decode cL_law 465 = .ok (.iaload, 1) := tb_at tbL_law_n51_ok 116 rfl
theorem dL_law_466 : decode cL_law 466 = .ok (.i2l, 1) := tb_at tbL_law_n51_ok 117 rfl
theorem dL_law_467 : decode cL_law 467 = .ok (.ldc2_w 32, 3) := tb_at tbL_law_n51_ok 118 rfl
theorem dL_law_470 : decode cL_law 470 = .ok (.land, 1) := tb_at tbL_law_n51_ok 119 rfl
noncomputable def tbL_law_n52 : List (Nat × Instr × Nat) := [(471, .lor, 1), (472, (.invokevirtual 53), 3), (475, .pop, 1), (476, (.goto 894), 3), (479, (.aload_n 1), 1), (480, (.aload_n 0), 1), (481, (.iload 4), 2), (483, (.iconst 1), 1), (484, .iadd, 1), (485, .iaload, 1), (486, (.invokevirtual 54), 3), (489, .pop, 1), (490, (.aload_n 2), 1), (491, (.aload_n 0), 1), (492, (.iload 4), 2), (494, (.iconst 1), 1), (495, .iadd, 1), (496, .iaload, 1), (497, (.invokevirtual 58), 3), (500, .pop, 1), (501, (.goto 869), 3), (504, (.aload_n 1), 1), (505, (.aload_n 0), 1), (506, (.iload 4), 2), (508, (.iconst 1), 1), (509, .iadd, 1), (510, .iaload, 1), (511, (.aload_n 0), 1), (512, (.iload 4), 2), (514, (.iconst 2), 1), (515, .iadd, 1), (516, .iaload, 1), (517, (.ifCond .eq 7), 3), (520, (.iconst 1), 1), (521, (.goto 4), 3), (524, (.iconst 0), 1), (525, (.invokevirtual 59), 3), (528, .pop, 1), (529, (.aload_n 2), 1), (530, (.aload_n 0), 1), (531, (.iload 4), 2), (533, (.iconst 1), 1), (534, .iadd, 1), (535, .iaload, 1), (536, (.aload_n 0), 1), (537, (.iload 4), 2), (539, (.iconst 2), 1), (540, .iadd, 1), (541, .iaload, 1), (542, (.ifCond .eq 7), 3), (545, (.iconst 1), 1), (546, (.goto 4), 3), (549, (.iconst 0), 1), (550, (.invokevirtual 63), 3), (553, .pop, 1), (554, (.goto 816), 3), (557, (.aload_n 1), 1), (558, (.aload_n 0), 1), (559, (.iload 4), 2), (561, (.iconst 1), 1), (562, .iadd, 1), (563, .iaload, 1), (564, (.invokevirtual 64), 3), (567, .pop, 1), (568, (.aload_n 2), 1), (569, (.aload_n 0), 1), (570, (.iload 4), 2), (572, (.iconst 1), 1), (573, .iadd, 1), (574, .iaload, 1), (575, (.invokevirtual 67), 3), (578, .pop, 1), (579, (.goto 791), 3), (582, (.aload_n 1), 1), (583, (.aload_n 0), 1), (584, (.iload 4), 2), (586, (.iconst 1), 1), (587, .iadd, 1), (588, .iaload, 1), (589, (.aload_n 0), 1), (590, (.iload 4), 2), (592, (.iconst 2), 1), (593, .iadd, 1), (594, .iaload, 1), (595, (.aload_n 0), 1), (596, (.iload 4), 2), (598, (.iconst 3), 1), (599, .iadd, 1), (600, .iaload, 1), (601, .i2l, 1), (602, (.bipush 32), 2), (604, .lshl, 1), (605, (.aload_n 0), 1), (606, (.iload 4), 2), (608, (.iconst 4), 1), (609, .iadd, 1), (610, .iaload, 1), (611, .i2l, 1), (612, (.ldc2_w 32), 3), (615, .land, 1), (616, .lor, 1), (617, (.invokevirtual 68), 3), (620, .pop, 1), (621, (.aload_n 2), 1), (622, (.aload_n 0), 1), (623, (.iload 4), 2), (625, (.iconst 1), 1), (626, .iadd, 1), (627, .iaload, 1), (628, (.aload_n 0), 1), (629, (.iload 4), 2), (631, (.iconst 2), 1), (632, .iadd, 1), (633, .iaload, 1), (634, (.aload_n 0), 1), (635, (.iload 4), 2), (637, (.iconst 3), 1), (638, .iadd, 1), (639, .iaload, 1), (640, .i2l, 1)]
theorem tbL_law_n52_ok : ∀ q ∈ tbL_law_n52, decode cL_law q.1 = .ok q.2 := by decide +kernel
theorem dL_law_471 : decode cL_law 471 = .ok (.lor, 1) := tb_at tbL_law_n52_ok 0 rfl
theorem dL_law_472 : decode cL_law 472 = .ok (.invokevirtual 53, 3) := tb_at tbL_law_n52_ok 1 rfl
theorem dL_law_475 : decode cL_law 475 = .ok (.pop, 1) := tb_at tbL_law_n52_ok 2 rfl
theorem dL_law_476 : decode cL_law 476 = .ok (.goto 894, 3) := tb_at tbL_law_n52_ok 3 rfl
theorem dL_law_479 : decode cL_law 479 = .ok (.aload_n 1, 1) := tb_at tbL_law_n52_ok 4 rfl
theorem dL_law_480 : decode cL_law 480 = .ok (.aload_n 0, 1) := tb_at tbL_law_n52_ok 5 rfl
theorem dL_law_481 : decode cL_law 481 = .ok (.iload 4, 2) := tb_at tbL_law_n52_ok 6 rfl
theorem dL_law_483 : decode cL_law 483 = .ok (.iconst 1, 1) := tb_at tbL_law_n52_ok 7 rfl
theorem dL_law_484 : decode cL_law 484 = .ok (.iadd, 1) := tb_at tbL_law_n52_ok 8 rfl
theorem dL_law_485 : decode cL_law 485 = .ok (.iaload, 1) := tb_at tbL_law_n52_ok 9 rfl
theorem dL_law_486 : decode cL_law 486 = .ok (.invokevirtual 54, 3) := tb_at tbL_law_n52_ok 10 rfl
theorem dL_law_489 : decode cL_law 489 = .ok (.pop, 1) := tb_at tbL_law_n52_ok 11 rfl
theorem dL_law_490 : decode cL_law 490 = .ok (.aload_n 2, 1) := tb_at tbL_law_n52_ok 12 rfl
theorem dL_law_491 : decode cL_law 491 = .ok (.aload_n 0, 1) := tb_at tbL_law_n52_ok 13 rfl
theorem dL_law_492 : decode cL_law 492 = .ok (.iload 4, 2) := tb_at tbL_law_n52_ok 14 rfl
theorem dL_law_494 : decode cL_law 494 = .ok (.iconst 1, 1) := tb_at tbL_law_n52_ok 15 rfl
theorem dL_law_495 : decode cL_law 495 = .ok (.iadd, 1) := tb_at tbL_law_n52_ok 16 rfl
theorem dL_law_496 : decode cL_law 496 = .ok (.iaload, 1) := tb_at tbL_law_n52_ok 17 rfl
theorem dL_law_497 : decode cL_law 497 = .ok (.invokevirtual 58, 3) := tb_at tbL_law_n52_ok 18 rfl
theorem dL_law_500 : decode cL_law 500 = .ok (.pop, 1) := tb_at tbL_law_n52_ok 19 rfl
theorem dL_law_501 : decode cL_law 501 = .ok (.goto 869, 3) := tb_at tbL_law_n52_ok 20 rfl
theorem dL_law_504 : decode cL_law 504 = .ok (.aload_n 1, 1) := tb_at tbL_law_n52_ok 21 rfl
theorem dL_law_505 : decode cL_law 505 = .ok (.aload_n 0, 1) := tb_at tbL_law_n52_ok 22 rfl
theorem dL_law_506 : decode cL_law 506 = .ok (.iload 4, 2) := tb_at tbL_law_n52_ok 23 rfl
theorem dL_law_508 : decode cL_law 508 = .ok (.iconst 1, 1) := tb_at tbL_law_n52_ok 24 rfl
theorem dL_law_509 : decode cL_law 509 = .ok (.iadd, 1) := tb_at tbL_law_n52_ok 25 rfl
theorem dL_law_510 : decode cL_law 510 = .ok (.iaload, 1) := tb_at tbL_law_n52_ok 26 rfl
theorem dL_law_511 : decode cL_law 511 = .ok (.aload_n 0, 1) := tb_at tbL_law_n52_ok 27 rfl
theorem dL_law_512 : decode cL_law 512 = .ok (.iload 4, 2) := tb_at tbL_law_n52_ok 28 rfl
theorem dL_law_514 : decode cL_law 514 = .ok (.iconst 2, 1) := tb_at tbL_law_n52_ok 29 rfl
theorem dL_law_515 : decode cL_law 515 = .ok (.iadd, 1) := tb_at tbL_law_n52_ok 30 rfl
theorem dL_law_516 : decode cL_law 516 = .ok (.iaload, 1) := tb_at tbL_law_n52_ok 31 rfl
theorem dL_law_517 : decode cL_law 517 = .ok (.ifCond .eq 7, 3) := tb_at tbL_law_n52_ok 32 rfl
theorem dL_law_520 : decode cL_law 520 = .ok (.iconst 1, 1) := tb_at tbL_law_n52_ok 33 rfl
theorem dL_law_521 : decode cL_law 521 = .ok (.goto 4, 3) := tb_at tbL_law_n52_ok 34 rfl
theorem dL_law_524 : decode cL_law 524 = .ok (.iconst 0, 1) := tb_at tbL_law_n52_ok 35 rfl
theorem dL_law_525 : decode cL_law 525 = .ok (.invokevirtual 59, 3) := tb_at tbL_law_n52_ok 36 rfl
theorem dL_law_528 : decode cL_law 528 = .ok (.pop, 1) := tb_at tbL_law_n52_ok 37 rfl
theorem dL_law_529 : decode cL_law 529 = .ok (.aload_n 2, 1) := tb_at tbL_law_n52_ok 38 rfl
theorem dL_law_530 : decode cL_law 530 = .ok (.aload_n 0, 1) := tb_at tbL_law_n52_ok 39 rfl
theorem dL_law_531 : decode cL_law 531 = .ok (.iload 4, 2) := tb_at tbL_law_n52_ok 40 rfl
theorem dL_law_533 : decode cL_law 533 = .ok (.iconst 1, 1) := tb_at tbL_law_n52_ok 41 rfl
theorem dL_law_534 : decode cL_law 534 = .ok (.iadd, 1) := tb_at tbL_law_n52_ok 42 rfl
theorem dL_law_535 : decode cL_law 535 = .ok (.iaload, 1) := tb_at tbL_law_n52_ok 43 rfl
theorem dL_law_536 : decode cL_law 536 = .ok (.aload_n 0, 1) := tb_at tbL_law_n52_ok 44 rfl
theorem dL_law_537 : decode cL_law 537 = .ok (.iload 4, 2) := tb_at tbL_law_n52_ok 45 rfl
theorem dL_law_539 : decode cL_law 539 = .ok (.iconst 2, 1) := tb_at tbL_law_n52_ok 46 rfl
theorem dL_law_540 : decode cL_law 540 = .ok (.iadd, 1) := tb_at tbL_law_n52_ok 47 rfl
theorem dL_law_541 : decode cL_law 541 = .ok (.iaload, 1) := tb_at tbL_law_n52_ok 48 rfl
theorem dL_law_542 : decode cL_law 542 = .ok (.ifCond .eq 7, 3) := tb_at tbL_law_n52_ok 49 rfl
theorem dL_law_545 : decode cL_law 545 = .ok (.iconst 1, 1) := tb_at tbL_law_n52_ok 50 rfl
theorem dL_law_546 : decode cL_law 546 = .ok (.goto 4, 3) := tb_at tbL_law_n52_ok 51 rfl
theorem dL_law_549 : decode cL_law 549 = .ok (.iconst 0, 1) := tb_at tbL_law_n52_ok 52 rfl
theorem dL_law_550 : decode cL_law 550 = .ok (.invokevirtual 63, 3) := tb_at tbL_law_n52_ok 53 rfl
theorem dL_law_553 : decode cL_law 553 = .ok (.pop, 1) := tb_at tbL_law_n52_ok 54 rfl
theorem dL_law_554 : decode cL_law 554 = .ok (.goto 816, 3) := tb_at tbL_law_n52_ok 55 rfl
theorem dL_law_557 : decode cL_law 557 = .ok (.aload_n 1, 1) := tb_at tbL_law_n52_ok 56 rfl
theorem dL_law_558 : decode cL_law 558 = .ok (.aload_n 0, 1) := tb_at tbL_law_n52_ok 57 rfl
theorem dL_law_559 : decode cL_law 559 = .ok (.iload 4, 2) := tb_at tbL_law_n52_ok 58 rfl
theorem dL_law_561 : decode cL_law 561 = .ok (.iconst 1, 1) := tb_at tbL_law_n52_ok 59 rfl
theorem dL_law_562 : decode cL_law 562 = .ok (.iadd, 1) := tb_at tbL_law_n52_ok 60 rfl
theorem dL_law_563 : decode cL_law 563 = .ok (.iaload, 1) := tb_at tbL_law_n52_ok 61 rfl
theorem dL_law_564 : decode cL_law 564 = .ok (.invokevirtual 64, 3) := tb_at tbL_law_n52_ok 62 rfl
theorem dL_law_567 : decode cL_law 567 = .ok (.pop, 1) := tb_at tbL_law_n52_ok 63 rfl
theorem dL_law_568 : decode cL_law 568 = .ok (.aload_n 2, 1) := tb_at tbL_law_n52_ok 64 rfl
theorem dL_law_569 : decode cL_law 569 = .ok (.aload_n 0, 1) := tb_at tbL_law_n52_ok 65 rfl
theorem dL_law_570 : decode cL_law 570 = .ok (.iload 4, 2) := tb_at tbL_law_n52_ok 66 rfl
theorem dL_law_572 : decode cL_law 572 = .ok (.iconst 1, 1) := tb_at tbL_law_n52_ok 67 rfl
theorem dL_law_573 : decode cL_law 573 = .ok (.iadd, 1) := tb_at tbL_law_n52_ok 68 rfl
theorem dL_law_574 : decode cL_law 574 = .ok (.iaload, 1) := tb_at tbL_law_n52_ok 69 rfl
theorem dL_law_575 : decode cL_law 575 = .ok (.invokevirtual 67, 3) := tb_at tbL_law_n52_ok 70 rfl
theorem dL_law_578 : decode cL_law 578 = .ok (.pop, 1) := tb_at tbL_law_n52_ok 71 rfl
theorem dL_law_579 : decode cL_law 579 = .ok (.goto 791, 3) := tb_at tbL_law_n52_ok 72 rfl
theorem dL_law_582 : decode cL_law 582 = .ok (.aload_n 1, 1) := tb_at tbL_law_n52_ok 73 rfl
theorem dL_law_583 : decode cL_law 583 = .ok (.aload_n 0, 1) := tb_at tbL_law_n52_ok 74 rfl
theorem dL_law_584 : decode cL_law 584 = .ok (.iload 4, 2) := tb_at tbL_law_n52_ok 75 rfl
theorem dL_law_586 : decode cL_law 586 = .ok (.iconst 1, 1) := tb_at tbL_law_n52_ok 76 rfl
theorem dL_law_587 : decode cL_law 587 = .ok (.iadd, 1) := tb_at tbL_law_n52_ok 77 rfl
theorem dL_law_588 : decode cL_law 588 = .ok (.iaload, 1) := tb_at tbL_law_n52_ok 78 rfl
theorem dL_law_589 : decode cL_law 589 = .ok (.aload_n 0, 1) := tb_at tbL_law_n52_ok 79 rfl
theorem dL_law_590 : decode cL_law 590 = .ok (.iload 4, 2) := tb_at tbL_law_n52_ok 80 rfl
theorem dL_law_592 : decode cL_law 592 = .ok (.iconst 2, 1) := tb_at tbL_law_n52_ok 81 rfl
theorem dL_law_593 : decode cL_law 593 = .ok (.iadd, 1) := tb_at tbL_law_n52_ok 82 rfl
theorem dL_law_594 : decode cL_law 594 = .ok (.iaload, 1) := tb_at tbL_law_n52_ok 83 rfl
theorem dL_law_595 : decode cL_law 595 = .ok (.aload_n 0, 1) := tb_at tbL_law_n52_ok 84 rfl
theorem dL_law_596 : decode cL_law 596 = .ok (.iload 4, 2) := tb_at tbL_law_n52_ok 85 rfl
theorem dL_law_598 : decode cL_law 598 = .ok (.iconst 3, 1) := tb_at tbL_law_n52_ok 86 rfl
theorem dL_law_599 : decode cL_law 599 = .ok (.iadd, 1) := tb_at tbL_law_n52_ok 87 rfl
theorem dL_law_600 : decode cL_law 600 = .ok (.iaload, 1) := tb_at tbL_law_n52_ok 88 rfl
theorem dL_law_601 : decode cL_law 601 = .ok (.i2l, 1) := tb_at tbL_law_n52_ok 89 rfl
theorem dL_law_602 : decode cL_law 602 = .ok (.bipush 32, 2) := tb_at tbL_law_n52_ok 90 rfl
theorem dL_law_604 : decode cL_law 604 = .ok (.lshl, 1) := tb_at tbL_law_n52_ok 91 rfl
theorem dL_law_605 : decode cL_law 605 = .ok (.aload_n 0, 1) := tb_at tbL_law_n52_ok 92 rfl
theorem dL_law_606 : decode cL_law 606 = .ok (.iload 4, 2) := tb_at tbL_law_n52_ok 93 rfl
theorem dL_law_608 : decode cL_law 608 = .ok (.iconst 4, 1) := tb_at tbL_law_n52_ok 94 rfl
theorem dL_law_609 : decode cL_law 609 = .ok (.iadd, 1) := tb_at tbL_law_n52_ok 95 rfl
theorem dL_law_610 : decode cL_law 610 = .ok (.iaload, 1) := tb_at tbL_law_n52_ok 96 rfl
theorem dL_law_611 : decode cL_law 611 = .ok (.i2l, 1) := tb_at tbL_law_n52_ok 97 rfl
theorem dL_law_612 : decode cL_law 612 = .ok (.ldc2_w 32, 3) := tb_at tbL_law_n52_ok 98 rfl
theorem dL_law_615 : decode cL_law 615 = .ok (.land, 1) := tb_at tbL_law_n52_ok 99 rfl
theorem dL_law_616 : decode cL_law 616 = .ok (.lor, 1) := tb_at tbL_law_n52_ok 100 rfl
theorem dL_law_617 : decode cL_law 617 = .ok (.invokevirtual 68, 3) := tb_at tbL_law_n52_ok 101 rfl
theorem dL_law_620 : decode cL_law 620 = .ok (.pop, 1) := tb_at tbL_law_n52_ok 102 rfl
theorem dL_law_621 : decode cL_law 621 = .ok (.aload_n 2, 1) := tb_at tbL_law_n52_ok 103 rfl
theorem dL_law_622 : decode cL_law 622 = .ok (.aload_n 0, 1) := tb_at tbL_law_n52_ok 104 rfl
theorem dL_law_623 : decode cL_law 623 = .ok (.iload 4, 2) := tb_at tbL_law_n52_ok 105 rfl
theorem dL_law_625 : decode cL_law 625 = .ok (.iconst 1, 1) := tb_at tbL_law_n52_ok 106 rfl
theorem dL_law_626 : decode cL_law 626 = .ok (.iadd, 1) := tb_at tbL_law_n52_ok 107 rfl
theorem dL_law_627 : decode cL_law 627 = .ok (.iaload, 1) := tb_at tbL_law_n52_ok 108 rfl
theorem dL_law_628 : decode cL_law 628 = .ok (.aload_n 0, 1) := tb_at tbL_law_n52_ok 109 rfl
theorem dL_law_629 : decode cL_law 629 = .ok (.iload 4, 2) := tb_at tbL_law_n52_ok 110 rfl
theorem dL_law_631 : decode cL_law 631 = .ok (.iconst 2, 1) := tb_at tbL_law_n52_ok 111 rfl
theorem dL_law_632 : decode cL_law 632 = .ok (.iadd, 1) := tb_at tbL_law_n52_ok 112 rfl
theorem dL_law_633 : decode cL_law 633 = .ok (.iaload, 1) := tb_at tbL_law_n52_ok 113 rfl
theorem dL_law_634 : decode cL_law 634 = .ok (.aload_n 0, 1) := tb_at tbL_law_n52_ok 114 rfl
theorem dL_law_635 : decode cL_law 635 = .ok (.iload 4, 2) := tb_at tbL_law_n52_ok 115 rfl
theorem dL_law_637 : decode cL_law 637 = .ok (.iconst 3, 1) := tb_at tbL_law_n52_ok 116 rfl
theorem dL_law_638 : decode cL_law 638 = .ok (.iadd, 1) := tb_at tbL_law_n52_ok 117 rfl
theorem dL_law_639 : decode cL_law 639 = .ok (.iaload, 1) := tb_at tbL_law_n52_ok 118 rfl
theorem dL_law_640 : decode cL_law 640 = .ok (.i2l, 1) := tb_at tbL_law_n52_ok 119 rfl
noncomputable def tbL_law_n53 : List (Nat × Instr × Nat) := [(641, (.bipush 32), 2), (643, .lshl, 1), (644, (.aload_n 0), 1), (645, (.iload 4), 2), (647, (.iconst 4), 1), (648, .iadd, 1), (649, .iaload, 1), (650, .i2l, 1), (651, (.ldc2_w 32), 3), (654, .land, 1), (655, .lor, 1), (656, (.invokevirtual 72), 3), (659, .pop, 1), (660, (.goto 710), 3), (663, (.aload_n 1), 1), (664, (.aload_n 0), 1), (665, (.iload 4), 2), (667, (.iconst 1), 1), (668, .iadd, 1), (669, .iaload, 1), (670, (.aload_n 0), 1), (671, (.iload 4), 2), (673, (.iconst 2), 1), (674, .iadd, 1), (675, .iaload, 1), (676, (.aload_n 0), 1), (677, (.iload 4), 2), (679, (.iconst 3), 1), (680, .iadd, 1), (681, .iaload, 1), (682, (.invokevirtual 73), 3), (685, .pop, 1), (686, (.aload_n 2), 1), (687, (.aload_n 0), 1), (688, (.iload 4), 2), (690, (.iconst 1), 1), (691, .iadd, 1), (692, .iaload, 1), (693, (.aload_n 0), 1), (694, (.iload 4), 2), (696, (.iconst 2), 1), (697, .iadd, 1), (698, .iaload, 1), (699, (.aload_n 0), 1), (700, (.iload 4), 2), (702, (.iconst 3), 1), (703, .iadd, 1), (704, .iaload, 1), (705, (.invokevirtual 77), 3), (708, .pop, 1), (709, (.goto 661), 3), (712, (.aload_n 1), 1), (713, (.aload_n 0), 1), (714, (.iload 4), 2), (716, (.iconst 1), 1), (717, .iadd, 1), (718, .iaload, 1), (719, (.aload_n 0), 1), (720, (.iload 4), 2), (722, (.iconst 2), 1), (723, .iadd, 1), (724, .iaload, 1), (725, (.aload_n 0), 1), (726, (.iload 4), 2), (728, (.iconst 3), 1), (729, .iadd, 1), (730, .iaload, 1), (731, (.invokevirtual 78), 3), (734, .pop, 1), (735, (.aload_n 2), 1), (736, (.aload_n 0), 1), (737, (.iload 4), 2), (739, (.iconst 1), 1), (740, .iadd, 1), (741, .iaload, 1), (742, (.aload_n 0), 1), (743, (.iload 4), 2), (745, (.iconst 2), 1), (746, .iadd, 1), (747, .iaload, 1), (748, (.aload_n 0), 1), (749, (.iload 4), 2), (751, (.iconst 3), 1), (752, .iadd, 1), (753, .iaload, 1), (754, (.invokevirtual 81), 3), (757, .pop, 1), (758, (.goto 612), 3), (761, (.aload_n 1), 1), (762, (.aload_n 0), 1), (763, (.iload 4), 2), (765, (.iconst 1), 1), (766, .iadd, 1), (767, .iaload, 1), (768, (.aload_n 0), 1), (769, (.iload 4), 2), (771, (.iconst 2), 1), (772, .iadd, 1), (773, .iaload, 1), (774, (.aload_n 0), 1), (775, (.iload 4), 2), (777, (.iconst 3), 1), (778, .iadd, 1), (779, .iaload, 1), (780, (.aload_n 0), 1), (781, (.iload 4), 2), (783, (.iconst 4), 1), (784, .iadd, 1), (785, .iaload, 1), (786, (.invokevirtual 82), 3), (789, .pop, 1), (790, (.aload_n 2), 1), (791, (.aload_n 0), 1), (792, (.iload 4), 2), (794, (.iconst 1), 1), (795, .iadd, 1), (796, .iaload, 1), (797, (.aload_n 0), 1), (798, (.iload 4), 2), (800, (.iconst 2), 1)]
theorem tbL_law_n53_ok : ∀ q ∈ tbL_law_n53, decode cL_law q.1 = .ok q.2 := by decide +kernel
theorem dL_law_641 : decode cL_law 641 = .ok (.bipush 32, 2) := tb_at tbL_law_n53_ok 0 rfl
theorem dL_law_643 : decode cL_law 643 = .ok (.lshl, 1) := tb_at tbL_law_n53_ok 1 rfl
theorem dL_law_644 : decode cL_law 644 = .ok (.aload_n 0, 1) := tb_at tbL_law_n53_ok 2 rfl
theorem dL_law_645 : decode cL_law 645 = .ok (.iload 4, 2) := tb_at tbL_law_n53_ok 3 rfl
theorem dL_law_647 : decode cL_law 647 = .ok (.iconst 4, 1) := tb_at tbL_law_n53_ok 4 rfl
theorem dL_law_648 : decode cL_law 648 = .ok (.iadd, 1) := tb_at tbL_law_n53_ok 5 rfl
theorem dL_law_649 : decode cL_law 649 = .ok (.iaload, 1) := tb_at tbL_law_n53_ok 6 rfl
theorem dL_law_650 : decode cL_law 650 = .ok (.i2l, 1) := tb_at tbL_law_n53_ok 7 rfl
theorem dL_law_651 : decode cL_law 651 = .ok (.ldc2_w 32, 3) := tb_at tbL_law_n53_ok 8 rfl
theorem dL_law_654 : decode cL_law 654 = .ok (.land, 1) := tb_at tbL_law_n53_ok 9 rfl
theorem dL_law_655 : decode cL_law 655 = .ok (.lor, 1) := tb_at tbL_law_n53_ok 10 rfl
theorem dL_law_656 : decode cL_law 656 = .ok (.invokevirtual 72, 3) := tb_at tbL_law_n53_ok 11 rfl
theorem dL_law_659 : decode cL_law 659 = .ok (.pop, 1) := tb_at tbL_law_n53_ok 12 rfl
theorem dL_law_660 : decode cL_law 660 = .ok (.goto 710, 3) := tb_at tbL_law_n53_ok 13 rfl
theorem dL_law_663 : decode cL_law 663 = .ok (.aload_n 1, 1) := tb_at tbL_law_n53_ok 14 rfl
theorem dL_law_664 : decode cL_law 664 = .ok (.aload_n 0, 1) := tb_at tbL_law_n53_ok 15 rfl
theorem dL_law_665 : decode cL_law 665 = .ok (.iload 4, 2) := tb_at tbL_law_n53_ok 16 rfl
theorem dL_law_667 : decode cL_law 667 = .ok (.iconst 1, 1) := tb_at tbL_law_n53_ok 17 rfl
theorem dL_law_668 : decode cL_law 668 = .ok (.iadd, 1) := tb_at tbL_law_n53_ok 18 rfl
theorem dL_law_669 : decode cL_law 669 = .ok (.iaload, 1) := tb_at tbL_law_n53_ok 19 rfl
theorem dL_law_670 : decode cL_law 670 = .ok (.aload_n 0, 1) := tb_at tbL_law_n53_ok 20 rfl
theorem dL_law_671 : decode cL_law 671 = .ok (.iload 4, 2) := tb_at tbL_law_n53_ok 21 rfl
theorem dL_law_673 : decode cL_law 673 = .ok (.iconst 2, 1) := tb_at tbL_law_n53_ok 22 rfl
theorem dL_law_674 : decode cL_law 674 = .ok (.iadd, 1) := tb_at tbL_law_n53_ok 23 rfl
theorem dL_law_675 : decode cL_law 675 = .ok (.iaload, 1) := tb_at tbL_law_n53_ok 24 rfl
theorem dL_law_676 : decode cL_law 676 = .ok (.aload_n 0, 1) := tb_at tbL_law_n53_ok 25 rfl
theorem dL_law_677 : decode cL_law 677 = .ok (.iload 4, 2) := tb_at tbL_law_n53_ok 26 rfl
theorem dL_law_679 : decode cL_law 679 = .ok (.iconst 3, 1) := tb_at tbL_law_n53_ok 27 rfl
theorem dL_law_680 : decode cL_law 680 = .ok (.iadd, 1) := tb_at tbL_law_n53_ok 28 rfl
theorem dL_law_681 : decode cL_law 681 = .ok (.iaload, 1) := tb_at tbL_law_n53_ok 29 rfl
theorem dL_law_682 : decode cL_law 682 = .ok (.invokevirtual 73, 3) := tb_at tbL_law_n53_ok 30 rfl
theorem dL_law_685 : decode cL_law 685 = .ok (.pop, 1) := tb_at tbL_law_n53_ok 31 rfl
theorem dL_law_686 : decode cL_law 686 = .ok (.aload_n 2, 1) := tb_at tbL_law_n53_ok 32 rfl
theorem dL_law_687 : decode cL_law 687 = .ok (.aload_n 0, 1) := tb_at tbL_law_n53_ok 33 rfl
theorem dL_law_688 : decode cL_law 688 = .ok (.iload 4, 2) := tb_at tbL_law_n53_ok 34 rfl
theorem dL_law_690 : decode cL_law 690 = .ok (.iconst 1, 1) := tb_at tbL_law_n53_ok 35 rfl
theorem dL_law_691 : decode cL_law 691 = .ok (.iadd, 1) := tb_at tbL_law_n53_ok 36 rfl
theorem dL_law_692 : decode cL_law 692 = .ok (.iaload, 1) := tb_at tbL_law_n53_ok 37 rfl
theorem dL_law_693 : decode cL_law 693 = .ok (.aload_n 0, 1) := tb_at tbL_law_n53_ok 38 rfl
theorem dL_law_694 : decode cL_law 694 = .ok (.iload 4, 2) := tb_at tbL_law_n53_ok 39 rfl
theorem dL_law_696 : decode cL_law 696 = .ok (.iconst 2, 1) := tb_at tbL_law_n53_ok 40 rfl
theorem dL_law_697 : decode cL_law 697 = .ok (.iadd, 1) := tb_at tbL_law_n53_ok 41 rfl
theorem dL_law_698 : decode cL_law 698 = .ok (.iaload, 1) := tb_at tbL_law_n53_ok 42 rfl
theorem dL_law_699 : decode cL_law 699 = .ok (.aload_n 0, 1) := tb_at tbL_law_n53_ok 43 rfl
theorem dL_law_700 : decode cL_law 700 = .ok (.iload 4, 2) := tb_at tbL_law_n53_ok 44 rfl
theorem dL_law_702 : decode cL_law 702 = .ok (.iconst 3, 1) := tb_at tbL_law_n53_ok 45 rfl
theorem dL_law_703 : decode cL_law 703 = .ok (.iadd, 1) := tb_at tbL_law_n53_ok 46 rfl
theorem dL_law_704 : decode cL_law 704 = .ok (.iaload, 1) := tb_at tbL_law_n53_ok 47 rfl
theorem dL_law_705 : decode cL_law 705 = .ok (.invokevirtual 77, 3) := tb_at tbL_law_n53_ok 48 rfl
theorem dL_law_708 : decode cL_law 708 = .ok (.pop, 1) := tb_at tbL_law_n53_ok 49 rfl
theorem dL_law_709 : decode cL_law 709 = .ok (.goto 661, 3) := tb_at tbL_law_n53_ok 50 rfl
theorem dL_law_712 : decode cL_law 712 = .ok (.aload_n 1, 1) := tb_at tbL_law_n53_ok 51 rfl
theorem dL_law_713 : decode cL_law 713 = .ok (.aload_n 0, 1) := tb_at tbL_law_n53_ok 52 rfl
theorem dL_law_714 : decode cL_law 714 = .ok (.iload 4, 2) := tb_at tbL_law_n53_ok 53 rfl
theorem dL_law_716 : decode cL_law 716 = .ok (.iconst 1, 1) := tb_at tbL_law_n53_ok 54 rfl
theorem dL_law_717 : decode cL_law 717 = .ok (.iadd, 1) := tb_at tbL_law_n53_ok 55 rfl
theorem dL_law_718 : decode cL_law 718 = .ok (.iaload, 1) := tb_at tbL_law_n53_ok 56 rfl
theorem dL_law_719 : decode cL_law 719 = .ok (.aload_n 0, 1) := tb_at tbL_law_n53_ok 57 rfl
theorem dL_law_720 : decode cL_law 720 = .ok (.iload 4, 2) := tb_at tbL_law_n53_ok 58 rfl
theorem dL_law_722 : decode cL_law 722 = .ok (.iconst 2, 1) := tb_at tbL_law_n53_ok 59 rfl
theorem dL_law_723 : decode cL_law 723 = .ok (.iadd, 1) := tb_at tbL_law_n53_ok 60 rfl
theorem dL_law_724 : decode cL_law 724 = .ok (.iaload, 1) := tb_at tbL_law_n53_ok 61 rfl
theorem dL_law_725 : decode cL_law 725 = .ok (.aload_n 0, 1) := tb_at tbL_law_n53_ok 62 rfl
theorem dL_law_726 : decode cL_law 726 = .ok (.iload 4, 2) := tb_at tbL_law_n53_ok 63 rfl
theorem dL_law_728 : decode cL_law 728 = .ok (.iconst 3, 1) := tb_at tbL_law_n53_ok 64 rfl
theorem dL_law_729 : decode cL_law 729 = .ok (.iadd, 1) := tb_at tbL_law_n53_ok 65 rfl
theorem dL_law_730 : decode cL_law 730 = .ok (.iaload, 1) := tb_at tbL_law_n53_ok 66 rfl
theorem dL_law_731 : decode cL_law 731 = .ok (.invokevirtual 78, 3) := tb_at tbL_law_n53_ok 67 rfl
theorem dL_law_734 : decode cL_law 734 = .ok (.pop, 1) := tb_at tbL_law_n53_ok 68 rfl
theorem dL_law_735 : decode cL_law 735 = .ok (.aload_n 2, 1) := tb_at tbL_law_n53_ok 69 rfl
theorem dL_law_736 : decode cL_law 736 = .ok (.aload_n 0, 1) := tb_at tbL_law_n53_ok 70 rfl
theorem dL_law_737 : decode cL_law 737 = .ok (.iload 4, 2) := tb_at tbL_law_n53_ok 71 rfl
theorem dL_law_739 : decode cL_law 739 = .ok (.iconst 1, 1) := tb_at tbL_law_n53_ok 72 rfl
theorem dL_law_740 : decode cL_law 740 = .ok (.iadd, 1) := tb_at tbL_law_n53_ok 73 rfl
theorem dL_law_741 : decode cL_law 741 = .ok (.iaload, 1) := tb_at tbL_law_n53_ok 74 rfl
theorem dL_law_742 : decode cL_law 742 = .ok (.aload_n 0, 1) := tb_at tbL_law_n53_ok 75 rfl
theorem dL_law_743 : decode cL_law 743 = .ok (.iload 4, 2) := tb_at tbL_law_n53_ok 76 rfl
theorem dL_law_745 : decode cL_law 745 = .ok (.iconst 2, 1) := tb_at tbL_law_n53_ok 77 rfl
theorem dL_law_746 : decode cL_law 746 = .ok (.iadd, 1) := tb_at tbL_law_n53_ok 78 rfl
theorem dL_law_747 : decode cL_law 747 = .ok (.iaload, 1) := tb_at tbL_law_n53_ok 79 rfl
theorem dL_law_748 : decode cL_law 748 = .ok (.aload_n 0, 1) := tb_at tbL_law_n53_ok 80 rfl
theorem dL_law_749 : decode cL_law 749 = .ok (.iload 4, 2) := tb_at tbL_law_n53_ok 81 rfl
theorem dL_law_751 : decode cL_law 751 = .ok (.iconst 3, 1) := tb_at tbL_law_n53_ok 82 rfl
theorem dL_law_752 : decode cL_law 752 = .ok (.iadd, 1) := tb_at tbL_law_n53_ok 83 rfl
theorem dL_law_753 : decode cL_law 753 = .ok (.iaload, 1) := tb_at tbL_law_n53_ok 84 rfl
theorem dL_law_754 : decode cL_law 754 = .ok (.invokevirtual 81, 3) := tb_at tbL_law_n53_ok 85 rfl
theorem dL_law_757 : decode cL_law 757 = .ok (.pop, 1) := tb_at tbL_law_n53_ok 86 rfl
theorem dL_law_758 : decode cL_law 758 = .ok (.goto 612, 3) := tb_at tbL_law_n53_ok 87 rfl
theorem dL_law_761 : decode cL_law 761 = .ok (.aload_n 1, 1) := tb_at tbL_law_n53_ok 88 rfl
theorem dL_law_762 : decode cL_law 762 = .ok (.aload_n 0, 1) := tb_at tbL_law_n53_ok 89 rfl
theorem dL_law_763 : decode cL_law 763 = .ok (.iload 4, 2) := tb_at tbL_law_n53_ok 90 rfl
theorem dL_law_765 : decode cL_law 765 = .ok (.iconst 1, 1) := tb_at tbL_law_n53_ok 91 rfl
theorem dL_law_766 : decode cL_law 766 = .ok (.iadd, 1) := tb_at tbL_law_n53_ok 92 rfl
theorem dL_law_767 : decode cL_law 767 = .ok (.iaload, 1) := tb_at tbL_law_n53_ok 93 rfl
theorem dL_law_768 : decode cL_law 768 = .ok (.aload_n 0, 1) := tb_at tbL_law_n53_ok 94 rfl
theorem dL_law_769 : decode cL_law 769 = .ok (.iload 4, 2) := tb_at tbL_law_n53_ok 95 rfl
theorem dL_law_771 : decode cL_law 771 = .ok (.iconst 2, 1) := tb_at tbL_law_n53_ok 96 rfl
theorem dL_law_772 : decode cL_law 772 = .ok (.iadd, 1) := tb_at tbL_law_n53_ok 97 rfl
theorem dL_law_773 : decode cL_law 773 = .ok (.iaload, 1) := tb_at tbL_law_n53_ok 98 rfl
theorem dL_law_774 : decode cL_law 774 = .ok (.aload_n 0, 1) := tb_at tbL_law_n53_ok 99 rfl
theorem dL_law_775 : decode cL_law 775 = .ok (.iload 4, 2) := tb_at tbL_law_n53_ok 100 rfl
theorem dL_law_777 : decode cL_law 777 = .ok (.iconst 3, 1) := tb_at tbL_law_n53_ok 101 rfl
theorem dL_law_778 : decode cL_law 778 = .ok (.iadd, 1) := tb_at tbL_law_n53_ok 102 rfl
theorem dL_law_779 : decode cL_law 779 = .ok (.iaload, 1) := tb_at tbL_law_n53_ok 103 rfl
theorem dL_law_780 : decode cL_law 780 = .ok (.aload_n 0, 1) := tb_at tbL_law_n53_ok 104 rfl
theorem dL_law_781 : decode cL_law 781 = .ok (.iload 4, 2) := tb_at tbL_law_n53_ok 105 rfl
theorem dL_law_783 : decode cL_law 783 = .ok (.iconst 4, 1) := tb_at tbL_law_n53_ok 106 rfl
theorem dL_law_784 : decode cL_law 784 = .ok (.iadd, 1) := tb_at tbL_law_n53_ok 107 rfl
theorem dL_law_785 : decode cL_law 785 = .ok (.iaload, 1) := tb_at tbL_law_n53_ok 108 rfl
theorem dL_law_786 : decode cL_law 786 = .ok (.invokevirtual 82, 3) := tb_at tbL_law_n53_ok 109 rfl
theorem dL_law_789 : decode cL_law 789 = .ok (.pop, 1) := tb_at tbL_law_n53_ok 110 rfl
theorem dL_law_790 : decode cL_law 790 = .ok (.aload_n 2, 1) := tb_at tbL_law_n53_ok 111 rfl
theorem dL_law_791 : decode cL_law 791 = .ok (.aload_n 0, 1) := tb_at tbL_law_n53_ok 112 rfl
theorem dL_law_792 : decode cL_law 792 = .ok (.iload 4, 2) := tb_at tbL_law_n53_ok 113 rfl
theorem dL_law_794 : decode cL_law 794 = .ok (.iconst 1, 1) := tb_at tbL_law_n53_ok 114 rfl
theorem dL_law_795 : decode cL_law 795 = .ok (.iadd, 1) := tb_at tbL_law_n53_ok 115 rfl
theorem dL_law_796 : decode cL_law 796 = .ok (.iaload, 1) := tb_at tbL_law_n53_ok 116 rfl
theorem dL_law_797 : decode cL_law 797 = .ok (.aload_n 0, 1) := tb_at tbL_law_n53_ok 117 rfl
theorem dL_law_798 : decode cL_law 798 = .ok (.iload 4, 2) := tb_at tbL_law_n53_ok 118 rfl
theorem dL_law_800 : decode cL_law 800 = .ok (.iconst 2, 1) := tb_at tbL_law_n53_ok 119 rfl
noncomputable def tbL_law_n54 : List (Nat × Instr × Nat) := [(801, .iadd, 1), (802, .iaload, 1), (803, (.aload_n 0), 1), (804, (.iload 4), 2), (806, (.iconst 3), 1), (807, .iadd, 1), (808, .iaload, 1), (809, (.aload_n 0), 1), (810, (.iload 4), 2), (812, (.iconst 4), 1), (813, .iadd, 1), (814, .iaload, 1), (815, (.invokevirtual 86), 3), (818, .pop, 1), (819, (.goto 551), 3), (822, (.aload_n 1), 1), (823, (.aload_n 0), 1), (824, (.iload 4), 2), (826, (.iconst 1), 1), (827, .iadd, 1), (828, .iaload, 1), (829, (.aload_n 0), 1), (830, (.iload 4), 2), (832, (.iconst 2), 1), (833, .iadd, 1), (834, .iaload, 1), (835, (.aload_n 0), 1), (836, (.iload 4), 2), (838, (.iconst 3), 1), (839, .iadd, 1), (840, .iaload, 1), (841, (.aload_n 0), 1), (842, (.iload 4), 2), (844, (.iconst 4), 1), (845, .iadd, 1), (846, .iaload, 1), (847, .i2l, 1), (848, (.bipush 32), 2), (850, .lshl, 1), (851, (.aload_n 0), 1), (852, (.iload 4), 2), (854, (.iconst 5), 1), (855, .iadd, 1), (856, .iaload, 1), (857, .i2l, 1), (858, (.ldc2_w 32), 3), (861, .land, 1), (862, .lor, 1), (863, (.invokevirtual 87), 3), (866, .pop, 1), (867, (.aload_n 2), 1), (868, (.aload_n 0), 1), (869, (.iload 4), 2), (871, (.iconst 1), 1), (872, .iadd, 1), (873, .iaload, 1), (874, (.aload_n 0), 1), (875, (.iload 4), 2), (877, (.iconst 2), 1), (878, .iadd, 1), (879, .iaload, 1), (880, (.aload_n 0), 1), (881, (.iload 4), 2), (883, (.iconst 3), 1), (884, .iadd, 1), (885, .iaload, 1), (886, (.aload_n 0), 1), (887, (.iload 4), 2), (889, (.iconst 4), 1), (890, .iadd, 1), (891, .iaload, 1), (892, .i2l, 1), (893, (.bipush 32), 2), (895, .lshl, 1), (896, (.aload_n 0), 1), (897, (.iload 4), 2), (899, (.iconst 5), 1), (900, .iadd, 1), (901, .iaload, 1), (902, .i2l, 1), (903, (.ldc2_w 32), 3), (906, .land, 1), (907, .lor, 1), (908, (.invokevirtual 90), 3), (911, .pop, 1), (912, (.goto 458), 3), (915, (.aload_n 1), 1), (916, (.aload_n 0), 1), (917, (.iload 4), 2), (919, (.iconst 1), 1), (920, .iadd, 1), (921, .iaload, 1), (922, (.aload_n 0), 1), (923, (.iload 4), 2), (925, (.iconst 2), 1), (926, .iadd, 1), (927, .iaload, 1), (928, (.aload_n 3), 1), (929, (.invokestatic 91), 3), (932, (.istore 5), 2), (934, (.aload_n 2), 1), (935, (.aload_n 0), 1), (936, (.iload 4), 2), (938, (.iconst 1), 1), (939, .iadd, 1), (940, .iaload, 1), (941, (.aload_n 0), 1), (942, (.iload 4), 2), (944, (.iconst 2), 1), (945, .iadd, 1), (946, .iaload, 1), (947, (.invokevirtual 96), 3), (950, (.lstore 6), 2), (952, (.aload_n 2), 1), (953, (.invokevirtual 97), 3), (956, (.iload 5), 2), (958, (.if_icmp .eq 5), 3), (961, (.iconst 0), 1), (962, .ireturn, 1), (963, (.iload 5), 2)]
theorem tbL_law_n54_ok : ∀ q ∈ tbL_law_n54, decode cL_law q.1 = .ok q.2 := by decide +kernel
theorem dL_law_801 : decode cL_law 801 = .ok (.iadd, 1) := tb_at tbL_law_n54_ok 0 rfl
theorem dL_law_802 : decode cL_law 802 = .ok (.iaload, 1) := tb_at tbL_law_n54_ok 1 rfl
theorem dL_law_803 : decode cL_law 803 = .ok (.aload_n 0, 1) := tb_at tbL_law_n54_ok 2 rfl
theorem dL_law_804 : decode cL_law 804 = .ok (.iload 4, 2) := tb_at tbL_law_n54_ok 3 rfl
theorem dL_law_806 : decode cL_law 806 = .ok (.iconst 3, 1) := tb_at tbL_law_n54_ok 4 rfl
theorem dL_law_807 : decode cL_law 807 = .ok (.iadd, 1) := tb_at tbL_law_n54_ok 5 rfl
theorem dL_law_808 : decode cL_law 808 = .ok (.iaload, 1) := tb_at tbL_law_n54_ok 6 rfl
theorem dL_law_809 : decode cL_law 809 = .ok (.aload_n 0, 1) := tb_at tbL_law_n54_ok 7 rfl
theorem dL_law_810 : decode cL_law 810 = .ok (.iload 4, 2) := tb_at tbL_law_n54_ok 8 rfl
theorem dL_law_812 : decode cL_law 812 = .ok (.iconst 4, 1) := tb_at tbL_law_n54_ok 9 rfl
theorem dL_law_813 : decode cL_law 813 = .ok (.iadd, 1) := tb_at tbL_law_n54_ok 10 rfl
theorem dL_law_814 : decode cL_law 814 = .ok (.iaload, 1) := tb_at tbL_law_n54_ok 11 rfl
theorem dL_law_815 : decode cL_law 815 = .ok (.invokevirtual 86, 3) := tb_at tbL_law_n54_ok 12 rfl
theorem dL_law_818 : decode cL_law 818 = .ok (.pop, 1) := tb_at tbL_law_n54_ok 13 rfl
theorem dL_law_819 : decode cL_law 819 = .ok (.goto 551, 3) := tb_at tbL_law_n54_ok 14 rfl
theorem dL_law_822 : decode cL_law 822 = .ok (.aload_n 1, 1) := tb_at tbL_law_n54_ok 15 rfl
theorem dL_law_823 : decode cL_law 823 = .ok (.aload_n 0, 1) := tb_at tbL_law_n54_ok 16 rfl
theorem dL_law_824 : decode cL_law 824 = .ok (.iload 4, 2) := tb_at tbL_law_n54_ok 17 rfl
theorem dL_law_826 : decode cL_law 826 = .ok (.iconst 1, 1) := tb_at tbL_law_n54_ok 18 rfl
theorem dL_law_827 : decode cL_law 827 = .ok (.iadd, 1) := tb_at tbL_law_n54_ok 19 rfl
theorem dL_law_828 : decode cL_law 828 = .ok (.iaload, 1) := tb_at tbL_law_n54_ok 20 rfl
theorem dL_law_829 : decode cL_law 829 = .ok (.aload_n 0, 1) := tb_at tbL_law_n54_ok 21 rfl
theorem dL_law_830 : decode cL_law 830 = .ok (.iload 4, 2) := tb_at tbL_law_n54_ok 22 rfl
theorem dL_law_832 : decode cL_law 832 = .ok (.iconst 2, 1) := tb_at tbL_law_n54_ok 23 rfl
theorem dL_law_833 : decode cL_law 833 = .ok (.iadd, 1) := tb_at tbL_law_n54_ok 24 rfl
theorem dL_law_834 : decode cL_law 834 = .ok (.iaload, 1) := tb_at tbL_law_n54_ok 25 rfl
theorem dL_law_835 : decode cL_law 835 = .ok (.aload_n 0, 1) := tb_at tbL_law_n54_ok 26 rfl
theorem dL_law_836 : decode cL_law 836 = .ok (.iload 4, 2) := tb_at tbL_law_n54_ok 27 rfl
theorem dL_law_838 : decode cL_law 838 = .ok (.iconst 3, 1) := tb_at tbL_law_n54_ok 28 rfl
theorem dL_law_839 : decode cL_law 839 = .ok (.iadd, 1) := tb_at tbL_law_n54_ok 29 rfl
theorem dL_law_840 : decode cL_law 840 = .ok (.iaload, 1) := tb_at tbL_law_n54_ok 30 rfl
theorem dL_law_841 : decode cL_law 841 = .ok (.aload_n 0, 1) := tb_at tbL_law_n54_ok 31 rfl
theorem dL_law_842 : decode cL_law 842 = .ok (.iload 4, 2) := tb_at tbL_law_n54_ok 32 rfl
theorem dL_law_844 : decode cL_law 844 = .ok (.iconst 4, 1) := tb_at tbL_law_n54_ok 33 rfl
theorem dL_law_845 : decode cL_law 845 = .ok (.iadd, 1) := tb_at tbL_law_n54_ok 34 rfl
theorem dL_law_846 : decode cL_law 846 = .ok (.iaload, 1) := tb_at tbL_law_n54_ok 35 rfl
theorem dL_law_847 : decode cL_law 847 = .ok (.i2l, 1) := tb_at tbL_law_n54_ok 36 rfl
theorem dL_law_848 : decode cL_law 848 = .ok (.bipush 32, 2) := tb_at tbL_law_n54_ok 37 rfl
theorem dL_law_850 : decode cL_law 850 = .ok (.lshl, 1) := tb_at tbL_law_n54_ok 38 rfl
theorem dL_law_851 : decode cL_law 851 = .ok (.aload_n 0, 1) := tb_at tbL_law_n54_ok 39 rfl
theorem dL_law_852 : decode cL_law 852 = .ok (.iload 4, 2) := tb_at tbL_law_n54_ok 40 rfl
theorem dL_law_854 : decode cL_law 854 = .ok (.iconst 5, 1) := tb_at tbL_law_n54_ok 41 rfl
theorem dL_law_855 : decode cL_law 855 = .ok (.iadd, 1) := tb_at tbL_law_n54_ok 42 rfl
theorem dL_law_856 : decode cL_law 856 = .ok (.iaload, 1) := tb_at tbL_law_n54_ok 43 rfl
theorem dL_law_857 : decode cL_law 857 = .ok (.i2l, 1) := tb_at tbL_law_n54_ok 44 rfl
theorem dL_law_858 : decode cL_law 858 = .ok (.ldc2_w 32, 3) := tb_at tbL_law_n54_ok 45 rfl
theorem dL_law_861 : decode cL_law 861 = .ok (.land, 1) := tb_at tbL_law_n54_ok 46 rfl
theorem dL_law_862 : decode cL_law 862 = .ok (.lor, 1) := tb_at tbL_law_n54_ok 47 rfl
theorem dL_law_863 : decode cL_law 863 = .ok (.invokevirtual 87, 3) := tb_at tbL_law_n54_ok 48 rfl
theorem dL_law_866 : decode cL_law 866 = .ok (.pop, 1) := tb_at tbL_law_n54_ok 49 rfl
theorem dL_law_867 : decode cL_law 867 = .ok (.aload_n 2, 1) := tb_at tbL_law_n54_ok 50 rfl
theorem dL_law_868 : decode cL_law 868 = .ok (.aload_n 0, 1) := tb_at tbL_law_n54_ok 51 rfl
theorem dL_law_869 : decode cL_law 869 = .ok (.iload 4, 2) := tb_at tbL_law_n54_ok 52 rfl
theorem dL_law_871 : decode cL_law 871 = .ok (.iconst 1, 1) := tb_at tbL_law_n54_ok 53 rfl
theorem dL_law_872 : decode cL_law 872 = .ok (.iadd, 1) := tb_at tbL_law_n54_ok 54 rfl
theorem dL_law_873 : decode cL_law 873 = .ok (.iaload, 1) := tb_at tbL_law_n54_ok 55 rfl
theorem dL_law_874 : decode cL_law 874 = .ok (.aload_n 0, 1) := tb_at tbL_law_n54_ok 56 rfl
theorem dL_law_875 : decode cL_law 875 = .ok (.iload 4, 2) := tb_at tbL_law_n54_ok 57 rfl
theorem dL_law_877 : decode cL_law 877 = .ok (.iconst 2, 1) := tb_at tbL_law_n54_ok 58 rfl
theorem dL_law_878 : decode cL_law 878 = .ok (.iadd, 1) := tb_at tbL_law_n54_ok 59 rfl
theorem dL_law_879 : decode cL_law 879 = .ok (.iaload, 1) := tb_at tbL_law_n54_ok 60 rfl
theorem dL_law_880 : decode cL_law 880 = .ok (.aload_n 0, 1) := tb_at tbL_law_n54_ok 61 rfl
theorem dL_law_881 : decode cL_law 881 = .ok (.iload 4, 2) := tb_at tbL_law_n54_ok 62 rfl
theorem dL_law_883 : decode cL_law 883 = .ok (.iconst 3, 1) := tb_at tbL_law_n54_ok 63 rfl
theorem dL_law_884 : decode cL_law 884 = .ok (.iadd, 1) := tb_at tbL_law_n54_ok 64 rfl
theorem dL_law_885 : decode cL_law 885 = .ok (.iaload, 1) := tb_at tbL_law_n54_ok 65 rfl
theorem dL_law_886 : decode cL_law 886 = .ok (.aload_n 0, 1) := tb_at tbL_law_n54_ok 66 rfl
theorem dL_law_887 : decode cL_law 887 = .ok (.iload 4, 2) := tb_at tbL_law_n54_ok 67 rfl
theorem dL_law_889 : decode cL_law 889 = .ok (.iconst 4, 1) := tb_at tbL_law_n54_ok 68 rfl
theorem dL_law_890 : decode cL_law 890 = .ok (.iadd, 1) := tb_at tbL_law_n54_ok 69 rfl
theorem dL_law_891 : decode cL_law 891 = .ok (.iaload, 1) := tb_at tbL_law_n54_ok 70 rfl
theorem dL_law_892 : decode cL_law 892 = .ok (.i2l, 1) := tb_at tbL_law_n54_ok 71 rfl
theorem dL_law_893 : decode cL_law 893 = .ok (.bipush 32, 2) := tb_at tbL_law_n54_ok 72 rfl
theorem dL_law_895 : decode cL_law 895 = .ok (.lshl, 1) := tb_at tbL_law_n54_ok 73 rfl
theorem dL_law_896 : decode cL_law 896 = .ok (.aload_n 0, 1) := tb_at tbL_law_n54_ok 74 rfl
theorem dL_law_897 : decode cL_law 897 = .ok (.iload 4, 2) := tb_at tbL_law_n54_ok 75 rfl
theorem dL_law_899 : decode cL_law 899 = .ok (.iconst 5, 1) := tb_at tbL_law_n54_ok 76 rfl
theorem dL_law_900 : decode cL_law 900 = .ok (.iadd, 1) := tb_at tbL_law_n54_ok 77 rfl
theorem dL_law_901 : decode cL_law 901 = .ok (.iaload, 1) := tb_at tbL_law_n54_ok 78 rfl
theorem dL_law_902 : decode cL_law 902 = .ok (.i2l, 1) := tb_at tbL_law_n54_ok 79 rfl
theorem dL_law_903 : decode cL_law 903 = .ok (.ldc2_w 32, 3) := tb_at tbL_law_n54_ok 80 rfl
theorem dL_law_906 : decode cL_law 906 = .ok (.land, 1) := tb_at tbL_law_n54_ok 81 rfl
theorem dL_law_907 : decode cL_law 907 = .ok (.lor, 1) := tb_at tbL_law_n54_ok 82 rfl
theorem dL_law_908 : decode cL_law 908 = .ok (.invokevirtual 90, 3) := tb_at tbL_law_n54_ok 83 rfl
theorem dL_law_911 : decode cL_law 911 = .ok (.pop, 1) := tb_at tbL_law_n54_ok 84 rfl
theorem dL_law_912 : decode cL_law 912 = .ok (.goto 458, 3) := tb_at tbL_law_n54_ok 85 rfl
theorem dL_law_915 : decode cL_law 915 = .ok (.aload_n 1, 1) := tb_at tbL_law_n54_ok 86 rfl
theorem dL_law_916 : decode cL_law 916 = .ok (.aload_n 0, 1) := tb_at tbL_law_n54_ok 87 rfl
theorem dL_law_917 : decode cL_law 917 = .ok (.iload 4, 2) := tb_at tbL_law_n54_ok 88 rfl
theorem dL_law_919 : decode cL_law 919 = .ok (.iconst 1, 1) := tb_at tbL_law_n54_ok 89 rfl
theorem dL_law_920 : decode cL_law 920 = .ok (.iadd, 1) := tb_at tbL_law_n54_ok 90 rfl
theorem dL_law_921 : decode cL_law 921 = .ok (.iaload, 1) := tb_at tbL_law_n54_ok 91 rfl
theorem dL_law_922 : decode cL_law 922 = .ok (.aload_n 0, 1) := tb_at tbL_law_n54_ok 92 rfl
theorem dL_law_923 : decode cL_law 923 = .ok (.iload 4, 2) := tb_at tbL_law_n54_ok 93 rfl
theorem dL_law_925 : decode cL_law 925 = .ok (.iconst 2, 1) := tb_at tbL_law_n54_ok 94 rfl
theorem dL_law_926 : decode cL_law 926 = .ok (.iadd, 1) := tb_at tbL_law_n54_ok 95 rfl
theorem dL_law_927 : decode cL_law 927 = .ok (.iaload, 1) := tb_at tbL_law_n54_ok 96 rfl
theorem dL_law_928 : decode cL_law 928 = .ok (.aload_n 3, 1) := tb_at tbL_law_n54_ok 97 rfl
theorem dL_law_929 : decode cL_law 929 = .ok (.invokestatic 91, 3) := tb_at tbL_law_n54_ok 98 rfl
theorem dL_law_932 : decode cL_law 932 = .ok (.istore 5, 2) := tb_at tbL_law_n54_ok 99 rfl
theorem dL_law_934 : decode cL_law 934 = .ok (.aload_n 2, 1) := tb_at tbL_law_n54_ok 100 rfl
theorem dL_law_935 : decode cL_law 935 = .ok (.aload_n 0, 1) := tb_at tbL_law_n54_ok 101 rfl
theorem dL_law_936 : decode cL_law 936 = .ok (.iload 4, 2) := tb_at tbL_law_n54_ok 102 rfl
theorem dL_law_938 : decode cL_law 938 = .ok (.iconst 1, 1) := tb_at tbL_law_n54_ok 103 rfl
theorem dL_law_939 : decode cL_law 939 = .ok (.iadd, 1) := tb_at tbL_law_n54_ok 104 rfl
theorem dL_law_940 : decode cL_law 940 = .ok (.iaload, 1) := tb_at tbL_law_n54_ok 105 rfl
theorem dL_law_941 : decode cL_law 941 = .ok (.aload_n 0, 1) := tb_at tbL_law_n54_ok 106 rfl
theorem dL_law_942 : decode cL_law 942 = .ok (.iload 4, 2) := tb_at tbL_law_n54_ok 107 rfl
theorem dL_law_944 : decode cL_law 944 = .ok (.iconst 2, 1) := tb_at tbL_law_n54_ok 108 rfl
theorem dL_law_945 : decode cL_law 945 = .ok (.iadd, 1) := tb_at tbL_law_n54_ok 109 rfl
theorem dL_law_946 : decode cL_law 946 = .ok (.iaload, 1) := tb_at tbL_law_n54_ok 110 rfl
theorem dL_law_947 : decode cL_law 947 = .ok (.invokevirtual 96, 3) := tb_at tbL_law_n54_ok 111 rfl
theorem dL_law_950 : decode cL_law 950 = .ok (.lstore 6, 2) := tb_at tbL_law_n54_ok 112 rfl
theorem dL_law_952 : decode cL_law 952 = .ok (.aload_n 2, 1) := tb_at tbL_law_n54_ok 113 rfl
theorem dL_law_953 : decode cL_law 953 = .ok (.invokevirtual 97, 3) := tb_at tbL_law_n54_ok 114 rfl
theorem dL_law_956 : decode cL_law 956 = .ok (.iload 5, 2) := tb_at tbL_law_n54_ok 115 rfl
theorem dL_law_958 : decode cL_law 958 = .ok (.if_icmp .eq 5, 3) := tb_at tbL_law_n54_ok 116 rfl
theorem dL_law_961 : decode cL_law 961 = .ok (.iconst 0, 1) := tb_at tbL_law_n54_ok 117 rfl
theorem dL_law_962 : decode cL_law 962 = .ok (.ireturn, 1) := tb_at tbL_law_n54_ok 118 rfl
theorem dL_law_963 : decode cL_law 963 = .ok (.iload 5, 2) := tb_at tbL_law_n54_ok 119 rfl
noncomputable def tbL_law_n55 : List (Nat × Instr × Nat) := [(965, (.ifCond .ne 14), 3), (968, (.aload_n 3), 1), (969, (.iconst 0), 1), (970, .laload, 1), (971, (.lload 6), 2), (973, .lcmp, 1), (974, (.ifCond .eq 5), 3), (977, (.iconst 0), 1), (978, .ireturn, 1), (979, (.goto 391), 3), (982, (.aload_n 1), 1), (983, (.aload_n 0), 1), (984, (.iload 4), 2), (986, (.iconst 1), 1), (987, .iadd, 1), (988, .iaload, 1), (989, (.aload_n 0), 1), (990, (.iload 4), 2), (992, (.iconst 2), 1), (993, .iadd, 1), (994, .iaload, 1), (995, (.aload_n 0), 1), (996, (.iload 4), 2), (998, (.iconst 3), 1), (999, .iadd, 1), (1000, .iaload, 1), (1001, (.aload_n 3), 1), (1002, (.invokestatic 100), 3), (1005, (.istore 5), 2), (1007, (.aload_n 2), 1), (1008, (.aload_n 0), 1), (1009, (.iload 4), 2), (1011, (.iconst 1), 1), (1012, .iadd, 1), (1013, .iaload, 1), (1014, (.aload_n 0), 1), (1015, (.iload 4), 2), (1017, (.iconst 2), 1), (1018, .iadd, 1), (1019, .iaload, 1), (1020, (.aload_n 0), 1), (1021, (.iload 4), 2), (1023, (.iconst 3), 1), (1024, .iadd, 1), (1025, .iaload, 1), (1026, (.invokevirtual 103), 3), (1029, (.lstore 6), 2), (1031, (.goto 339), 3), (1034, (.aload_n 1), 1), (1035, (.invokevirtual 104), 3), (1038, .pop, 1), (1039, (.aload_n 2), 1), (1040, (.invokevirtual 107), 3), (1043, .pop, 1), (1044, (.goto 326), 3), (1047, (.aload_n 1), 1), (1048, (.aload_n 0), 1), (1049, (.iload 4), 2), (1051, (.iconst 1), 1), (1052, .iadd, 1), (1053, .iaload, 1), (1054, (.aload_n 0), 1), (1055, (.iload 4), 2), (1057, (.iconst 2), 1), (1058, .iadd, 1), (1059, .iaload, 1), (1060, (.invokevirtual 108), 3), (1063, .pop, 1), (1064, (.aload_n 2), 1), (1065, (.aload_n 0), 1), (1066, (.iload 4), 2), (1068, (.iconst 1), 1), (1069, .iadd, 1), (1070, .iaload, 1), (1071, (.aload_n 0), 1), (1072, (.iload 4), 2), (1074, (.iconst 2), 1), (1075, .iadd, 1), (1076, .iaload, 1), (1077, (.invokevirtual 111), 3), (1080, .pop, 1), (1081, (.goto 289), 3), (1084, (.aload_n 1), 1), (1085, (.aload_n 0), 1), (1086, (.iload 4), 2), (1088, (.iconst 1), 1), (1089, .iadd, 1), (1090, .iaload, 1), (1091, (.invokevirtual 112), 3), (1094, .pop, 1), (1095, (.aload_n 2), 1), (1096, (.aload_n 0), 1), (1097, (.iload 4), 2), (1099, (.iconst 1), 1), (1100, .iadd, 1), (1101, .iaload, 1), (1102, (.invokevirtual 115), 3), (1105, .pop, 1), (1106, (.goto 264), 3), (1109, (.aload_n 1), 1), (1110, (.aload_n 0), 1), (1111, (.iload 4), 2), (1113, (.iconst 1), 1), (1114, .iadd, 1), (1115, .iaload, 1), (1116, (.aload_n 0), 1), (1117, (.iload 4), 2), (1119, (.iconst 2), 1), (1120, .iadd, 1), (1121, .iaload, 1), (1122, (.invokevirtual 116), 3), (1125, .pop, 1), (1126, (.aload_n 2), 1), (1127, (.aload_n 0), 1), (1128, (.iload 4), 2), (1130, (.iconst 1), 1), (1131, .iadd, 1), (1132, .iaload, 1), (1133, (.aload_n 0), 1), (1134, (.iload 4), 2)]
theorem tbL_law_n55_ok : ∀ q ∈ tbL_law_n55, decode cL_law q.1 = .ok q.2 := by decide +kernel
theorem dL_law_965 : decode cL_law 965 = .ok (.ifCond .ne 14, 3) := tb_at tbL_law_n55_ok 0 rfl
theorem dL_law_968 : decode cL_law 968 = .ok (.aload_n 3, 1) := tb_at tbL_law_n55_ok 1 rfl
theorem dL_law_969 : decode cL_law 969 = .ok (.iconst 0, 1) := tb_at tbL_law_n55_ok 2 rfl
theorem dL_law_970 : decode cL_law 970 = .ok (.laload, 1) := tb_at tbL_law_n55_ok 3 rfl
theorem dL_law_971 : decode cL_law 971 = .ok (.lload 6, 2) := tb_at tbL_law_n55_ok 4 rfl
theorem dL_law_973 : decode cL_law 973 = .ok (.lcmp, 1) := tb_at tbL_law_n55_ok 5 rfl
theorem dL_law_974 : decode cL_law 974 = .ok (.ifCond .eq 5, 3) := tb_at tbL_law_n55_ok 6 rfl
theorem dL_law_977 : decode cL_law 977 = .ok (.iconst 0, 1) := tb_at tbL_law_n55_ok 7 rfl
theorem dL_law_978 : decode cL_law 978 = .ok (.ireturn, 1) := tb_at tbL_law_n55_ok 8 rfl
theorem dL_law_979 : decode cL_law 979 = .ok (.goto 391, 3) := tb_at tbL_law_n55_ok 9 rfl
theorem dL_law_982 : decode cL_law 982 = .ok (.aload_n 1, 1) := tb_at tbL_law_n55_ok 10 rfl
theorem dL_law_983 : decode cL_law 983 = .ok (.aload_n 0, 1) := tb_at tbL_law_n55_ok 11 rfl
theorem dL_law_984 : decode cL_law 984 = .ok (.iload 4, 2) := tb_at tbL_law_n55_ok 12 rfl
theorem dL_law_986 : decode cL_law 986 = .ok (.iconst 1, 1) := tb_at tbL_law_n55_ok 13 rfl
theorem dL_law_987 : decode cL_law 987 = .ok (.iadd, 1) := tb_at tbL_law_n55_ok 14 rfl
theorem dL_law_988 : decode cL_law 988 = .ok (.iaload, 1) := tb_at tbL_law_n55_ok 15 rfl
theorem dL_law_989 : decode cL_law 989 = .ok (.aload_n 0, 1) := tb_at tbL_law_n55_ok 16 rfl
theorem dL_law_990 : decode cL_law 990 = .ok (.iload 4, 2) := tb_at tbL_law_n55_ok 17 rfl
theorem dL_law_992 : decode cL_law 992 = .ok (.iconst 2, 1) := tb_at tbL_law_n55_ok 18 rfl
theorem dL_law_993 : decode cL_law 993 = .ok (.iadd, 1) := tb_at tbL_law_n55_ok 19 rfl
theorem dL_law_994 : decode cL_law 994 = .ok (.iaload, 1) := tb_at tbL_law_n55_ok 20 rfl
theorem dL_law_995 : decode cL_law 995 = .ok (.aload_n 0, 1) := tb_at tbL_law_n55_ok 21 rfl
theorem dL_law_996 : decode cL_law 996 = .ok (.iload 4, 2) := tb_at tbL_law_n55_ok 22 rfl
theorem dL_law_998 : decode cL_law 998 = .ok (.iconst 3, 1) := tb_at tbL_law_n55_ok 23 rfl
theorem dL_law_999 : decode cL_law 999 = .ok (.iadd, 1) := tb_at tbL_law_n55_ok 24 rfl
theorem dL_law_1000 : decode cL_law 1000 = .ok (.iaload, 1) := tb_at tbL_law_n55_ok 25 rfl
theorem dL_law_1001 : decode cL_law 1001 = .ok (.aload_n 3, 1) := tb_at tbL_law_n55_ok 26 rfl
theorem dL_law_1002 : decode cL_law 1002 = .ok (.invokestatic 100, 3) := tb_at tbL_law_n55_ok 27 rfl
theorem dL_law_1005 : decode cL_law 1005 = .ok (.istore 5, 2) := tb_at tbL_law_n55_ok 28 rfl
theorem dL_law_1007 : decode cL_law 1007 = .ok (.aload_n 2, 1) := tb_at tbL_law_n55_ok 29 rfl
theorem dL_law_1008 : decode cL_law 1008 = .ok (.aload_n 0, 1) := tb_at tbL_law_n55_ok 30 rfl
theorem dL_law_1009 : decode cL_law 1009 = .ok (.iload 4, 2) := tb_at tbL_law_n55_ok 31 rfl
theorem dL_law_1011 : decode cL_law 1011 = .ok (.iconst 1, 1) := tb_at tbL_law_n55_ok 32 rfl
theorem dL_law_1012 : decode cL_law 1012 = .ok (.iadd, 1) := tb_at tbL_law_n55_ok 33 rfl
theorem dL_law_1013 : decode cL_law 1013 = .ok (.iaload, 1) := tb_at tbL_law_n55_ok 34 rfl
theorem dL_law_1014 : decode cL_law 1014 = .ok (.aload_n 0, 1) := tb_at tbL_law_n55_ok 35 rfl
theorem dL_law_1015 : decode cL_law 1015 = .ok (.iload 4, 2) := tb_at tbL_law_n55_ok 36 rfl
theorem dL_law_1017 : decode cL_law 1017 = .ok (.iconst 2, 1) := tb_at tbL_law_n55_ok 37 rfl
theorem dL_law_1018 : decode cL_law 1018 = .ok (.iadd, 1) := tb_at tbL_law_n55_ok 38 rfl
theorem dL_law_1019 : decode cL_law 1019 = .ok (.iaload, 1) := tb_at tbL_law_n55_ok 39 rfl
theorem dL_law_1020 : decode cL_law 1020 = .ok (.aload_n 0, 1) := tb_at tbL_law_n55_ok 40 rfl
theorem dL_law_1021 : decode cL_law 1021 = .ok (.iload 4, 2) := tb_at tbL_law_n55_ok 41 rfl
theorem dL_law_1023 : decode cL_law 1023 = .ok (.iconst 3, 1) := tb_at tbL_law_n55_ok 42 rfl
theorem dL_law_1024 : decode cL_law 1024 = .ok (.iadd, 1) := tb_at tbL_law_n55_ok 43 rfl
theorem dL_law_1025 : decode cL_law 1025 = .ok (.iaload, 1) := tb_at tbL_law_n55_ok 44 rfl
theorem dL_law_1026 : decode cL_law 1026 = .ok (.invokevirtual 103, 3) := tb_at tbL_law_n55_ok 45 rfl
theorem dL_law_1029 : decode cL_law 1029 = .ok (.lstore 6, 2) := tb_at tbL_law_n55_ok 46 rfl
theorem dL_law_1031 : decode cL_law 1031 = .ok (.goto 339, 3) := tb_at tbL_law_n55_ok 47 rfl
theorem dL_law_1034 : decode cL_law 1034 = .ok (.aload_n 1, 1) := tb_at tbL_law_n55_ok 48 rfl
theorem dL_law_1035 : decode cL_law 1035 = .ok (.invokevirtual 104, 3) := tb_at tbL_law_n55_ok 49 rfl
theorem dL_law_1038 : decode cL_law 1038 = .ok (.pop, 1) := tb_at tbL_law_n55_ok 50 rfl
theorem dL_law_1039 : decode cL_law 1039 = .ok (.aload_n 2, 1) := tb_at tbL_law_n55_ok 51 rfl
theorem dL_law_1040 : decode cL_law 1040 = .ok (.invokevirtual 107, 3) := tb_at tbL_law_n55_ok 52 rfl
theorem dL_law_1043 : decode cL_law 1043 = .ok (.pop, 1) := tb_at tbL_law_n55_ok 53 rfl
theorem dL_law_1044 : decode cL_law 1044 = .ok (.goto 326, 3) := tb_at tbL_law_n55_ok 54 rfl
theorem dL_law_1047 : decode cL_law 1047 = .ok (.aload_n 1, 1) := tb_at tbL_law_n55_ok 55 rfl
theorem dL_law_1048 : decode cL_law 1048 = .ok (.aload_n 0, 1) := tb_at tbL_law_n55_ok 56 rfl
theorem dL_law_1049 : decode cL_law 1049 = .ok (.iload 4, 2) := tb_at tbL_law_n55_ok 57 rfl
theorem dL_law_1051 : decode cL_law 1051 = .ok (.iconst 1, 1) := tb_at tbL_law_n55_ok 58 rfl
theorem dL_law_1052 : decode cL_law 1052 = .ok (.iadd, 1) := tb_at tbL_law_n55_ok 59 rfl
theorem dL_law_1053 : decode cL_law 1053 = .ok (.iaload, 1) := tb_at tbL_law_n55_ok 60 rfl
theorem dL_law_1054 : decode cL_law 1054 = .ok (.aload_n 0, 1) := tb_at tbL_law_n55_ok 61 rfl
theorem dL_law_1055 : decode cL_law 1055 = .ok (.iload 4, 2) := tb_at tbL_law_n55_ok 62 rfl
theorem dL_law_1057 : decode cL_law 1057 = .ok (.iconst 2, 1) := tb_at tbL_law_n55_ok 63 rfl
theorem dL_law_1058 : decode cL_law 1058 = .ok (.iadd, 1) := tb_at tbL_law_n55_ok 64 rfl
theorem dL_law_1059 : decode cL_law 1059 = .ok (.iaload, 1) := tb_at tbL_law_n55_ok 65 rfl
theorem dL_law_1060 : decode cL_law 1060 = .ok (.invokevirtual 108, 3) := tb_at tbL_law_n55_ok 66 rfl
theorem dL_law_1063 : decode cL_law 1063 = .ok (.pop, 1) := tb_at tbL_law_n55_ok 67 rfl
theorem dL_law_1064 : decode cL_law 1064 = .ok (.aload_n 2, 1) := tb_at tbL_law_n55_ok 68 rfl
theorem dL_law_1065 : decode cL_law 1065 = .ok (.aload_n 0, 1) := tb_at tbL_law_n55_ok 69 rfl
theorem dL_law_1066 : decode cL_law 1066 = .ok (.iload 4, 2) := tb_at tbL_law_n55_ok 70 rfl
theorem dL_law_1068 : decode cL_law 1068 = .ok (.iconst 1, 1) := tb_at tbL_law_n55_ok 71 rfl
theorem dL_law_1069 : decode cL_law 1069 = .ok (.iadd, 1) := tb_at tbL_law_n55_ok 72 rfl
theorem dL_law_1070 : decode cL_law 1070 = .ok (.iaload, 1) := tb_at tbL_law_n55_ok 73 rfl
theorem dL_law_1071 : decode cL_law 1071 = .ok (.aload_n 0, 1) := tb_at tbL_law_n55_ok 74 rfl
theorem dL_law_1072 : decode cL_law 1072 = .ok (.iload 4, 2) := tb_at tbL_law_n55_ok 75 rfl
theorem dL_law_1074 : decode cL_law 1074 = .ok (.iconst 2, 1) := tb_at tbL_law_n55_ok 76 rfl
theorem dL_law_1075 : decode cL_law 1075 = .ok (.iadd, 1) := tb_at tbL_law_n55_ok 77 rfl
theorem dL_law_1076 : decode cL_law 1076 = .ok (.iaload, 1) := tb_at tbL_law_n55_ok 78 rfl
theorem dL_law_1077 : decode cL_law 1077 = .ok (.invokevirtual 111, 3) := tb_at tbL_law_n55_ok 79 rfl
theorem dL_law_1080 : decode cL_law 1080 = .ok (.pop, 1) := tb_at tbL_law_n55_ok 80 rfl
theorem dL_law_1081 : decode cL_law 1081 = .ok (.goto 289, 3) := tb_at tbL_law_n55_ok 81 rfl
theorem dL_law_1084 : decode cL_law 1084 = .ok (.aload_n 1, 1) := tb_at tbL_law_n55_ok 82 rfl
theorem dL_law_1085 : decode cL_law 1085 = .ok (.aload_n 0, 1) := tb_at tbL_law_n55_ok 83 rfl
theorem dL_law_1086 : decode cL_law 1086 = .ok (.iload 4, 2) := tb_at tbL_law_n55_ok 84 rfl
theorem dL_law_1088 : decode cL_law 1088 = .ok (.iconst 1, 1) := tb_at tbL_law_n55_ok 85 rfl
theorem dL_law_1089 : decode cL_law 1089 = .ok (.iadd, 1) := tb_at tbL_law_n55_ok 86 rfl
theorem dL_law_1090 : decode cL_law 1090 = .ok (.iaload, 1) := tb_at tbL_law_n55_ok 87 rfl
theorem dL_law_1091 : decode cL_law 1091 = .ok (.invokevirtual 112, 3) := tb_at tbL_law_n55_ok 88 rfl
theorem dL_law_1094 : decode cL_law 1094 = .ok (.pop, 1) := tb_at tbL_law_n55_ok 89 rfl
theorem dL_law_1095 : decode cL_law 1095 = .ok (.aload_n 2, 1) := tb_at tbL_law_n55_ok 90 rfl
theorem dL_law_1096 : decode cL_law 1096 = .ok (.aload_n 0, 1) := tb_at tbL_law_n55_ok 91 rfl
theorem dL_law_1097 : decode cL_law 1097 = .ok (.iload 4, 2) := tb_at tbL_law_n55_ok 92 rfl
theorem dL_law_1099 : decode cL_law 1099 = .ok (.iconst 1, 1) := tb_at tbL_law_n55_ok 93 rfl
theorem dL_law_1100 : decode cL_law 1100 = .ok (.iadd, 1) := tb_at tbL_law_n55_ok 94 rfl
theorem dL_law_1101 : decode cL_law 1101 = .ok (.iaload, 1) := tb_at tbL_law_n55_ok 95 rfl
theorem dL_law_1102 : decode cL_law 1102 = .ok (.invokevirtual 115, 3) := tb_at tbL_law_n55_ok 96 rfl
theorem dL_law_1105 : decode cL_law 1105 = .ok (.pop, 1) := tb_at tbL_law_n55_ok 97 rfl
theorem dL_law_1106 : decode cL_law 1106 = .ok (.goto 264, 3) := tb_at tbL_law_n55_ok 98 rfl
theorem dL_law_1109 : decode cL_law 1109 = .ok (.aload_n 1, 1) := tb_at tbL_law_n55_ok 99 rfl
theorem dL_law_1110 : decode cL_law 1110 = .ok (.aload_n 0, 1) := tb_at tbL_law_n55_ok 100 rfl
theorem dL_law_1111 : decode cL_law 1111 = .ok (.iload 4, 2) := tb_at tbL_law_n55_ok 101 rfl
theorem dL_law_1113 : decode cL_law 1113 = .ok (.iconst 1, 1) := tb_at tbL_law_n55_ok 102 rfl
theorem dL_law_1114 : decode cL_law 1114 = .ok (.iadd, 1) := tb_at tbL_law_n55_ok 103 rfl
theorem dL_law_1115 : decode cL_law 1115 = .ok (.iaload, 1) := tb_at tbL_law_n55_ok 104 rfl
theorem dL_law_1116 : decode cL_law 1116 = .ok (.aload_n 0, 1) := tb_at tbL_law_n55_ok 105 rfl
theorem dL_law_1117 : decode cL_law 1117 = .ok (.iload 4, 2) := tb_at tbL_law_n55_ok 106 rfl
theorem dL_law_1119 : decode cL_law 1119 = .ok (.iconst 2, 1) := tb_at tbL_law_n55_ok 107 rfl
theorem dL_law_1120 : decode cL_law 1120 = .ok (.iadd, 1) := tb_at tbL_law_n55_ok 108 rfl
theorem dL_law_1121 : decode cL_law 1121 = .ok (.iaload, 1) := tb_at tbL_law_n55_ok 109 rfl
theorem dL_law_1122 : decode cL_law 1122 = .ok (.invokevirtual 116, 3) := tb_at tbL_law_n55_ok 110 rfl
theorem dL_law_1125 : decode cL_law 1125 = .ok (.pop, 1) := tb_at tbL_law_n55_ok 111 rfl
theorem dL_law_1126 : decode cL_law 1126 = .ok (.aload_n 2, 1) := tb_at tbL_law_n55_ok 112 rfl
theorem dL_law_1127 : decode cL_law 1127 = .ok (.aload_n 0, 1) := tb_at tbL_law_n55_ok 113 rfl
theorem dL_law_1128 : decode cL_law 1128 = .ok (.iload 4, 2) := tb_at tbL_law_n55_ok 114 rfl
theorem dL_law_1130 : decode cL_law 1130 = .ok (.iconst 1, 1) := tb_at tbL_law_n55_ok 115 rfl
theorem dL_law_1131 : decode cL_law 1131 = .ok (.iadd, 1) := tb_at tbL_law_n55_ok 116 rfl
theorem dL_law_1132 : decode cL_law 1132 = .ok (.iaload, 1) := tb_at tbL_law_n55_ok 117 rfl
theorem dL_law_1133 : decode cL_law 1133 = .ok (.aload_n 0, 1) := tb_at tbL_law_n55_ok 118 rfl
theorem dL_law_1134 : decode cL_law 1134 = .ok (.iload 4, 2) := tb_at tbL_law_n55_ok 119 rfl
noncomputable def tbL_law_n56 : List (Nat × Instr × Nat) := [(1136, (.iconst 2), 1), (1137, .iadd, 1), (1138, .iaload, 1), (1139, (.invokevirtual 119), 3), (1142, .pop, 1), (1143, (.goto 227), 3), (1146, (.aload_n 1), 1), (1147, (.aload_n 0), 1), (1148, (.iload 4), 2), (1150, (.iconst 1), 1), (1151, .iadd, 1), (1152, .iaload, 1), (1153, (.aload_n 0), 1), (1154, (.iload 4), 2), (1156, (.iconst 2), 1), (1157, .iadd, 1), (1158, .iaload, 1), (1159, (.invokevirtual 120), 3), (1162, .pop, 1), (1163, (.aload_n 2), 1), (1164, (.aload_n 0), 1), (1165, (.iload 4), 2), (1167, (.iconst 1), 1), (1168, .iadd, 1), (1169, .iaload, 1), (1170, (.aload_n 0), 1), (1171, (.iload 4), 2), (1173, (.iconst 2), 1), (1174, .iadd, 1), (1175, .iaload, 1), (1176, (.invokevirtual 123), 3), (1179, .pop, 1), (1180, (.goto 190), 3), (1183, (.aload_n 1), 1), (1184, (.aload_n 0), 1), (1185, (.iload 4), 2), (1187, (.iconst 1), 1), (1188, .iadd, 1), (1189, .iaload, 1), (1190, (.aload_n 0), 1), (1191, (.iload 4), 2), (1193, (.iconst 2), 1), (1194, .iadd, 1), (1195, .iaload, 1), (1196, (.invokevirtual 124), 3), (1199, .pop, 1), (1200, (.aload_n 2), 1), (1201, (.aload_n 0), 1), (1202, (.iload 4), 2), (1204, (.iconst 1), 1), (1205, .iadd, 1), (1206, .iaload, 1), (1207, (.aload_n 0), 1), (1208, (.iload 4), 2), (1210, (.iconst 2), 1), (1211, .iadd, 1), (1212, .iaload, 1), (1213, (.invokevirtual 127), 3), (1216, .pop, 1), (1217, (.goto 153), 3), (1220, (.aload_n 1), 1), (1221, (.aload_n 0), 1), (1222, (.iload 4), 2), (1224, (.iconst 1), 1), (1225, .iadd, 1), (1226, .iaload, 1), (1227, (.invokevirtual 128), 3), (1230, .pop, 1), (1231, (.aload_n 2), 1), (1232, (.aload_n 0), 1), (1233, (.iload 4), 2), (1235, (.iconst 1), 1), (1236, .iadd, 1), (1237, .iaload, 1), (1238, (.invokevirtual 131), 3), (1241, .pop, 1), (1242, (.goto 128), 3), (1245, (.aload_n 1), 1), (1246, (.aload_n 0), 1), (1247, (.iload 4), 2), (1249, (.iconst 1), 1), (1250, .iadd, 1), (1251, .iaload, 1), (1252, (.aload_n 0), 1), (1253, (.iload 4), 2), (1255, (.iconst 2), 1), (1256, .iadd, 1), (1257, .iaload, 1), (1258, (.invokevirtual 132), 3), (1261, .pop, 1), (1262, (.aload_n 2), 1), (1263, (.aload_n 0), 1), (1264, (.iload 4), 2), (1266, (.iconst 1), 1), (1267, .iadd, 1), (1268, .iaload, 1), (1269, (.aload_n 0), 1), (1270, (.iload 4), 2), (1272, (.iconst 2), 1), (1273, .iadd, 1), (1274, .iaload, 1), (1275, (.invokevirtual 135), 3), (1278, .pop, 1), (1279, (.goto 91), 3), (1282, (.aload_n 1), 1), (1283, (.aload_n 0), 1), (1284, (.iload 4), 2), (1286, (.iconst 1), 1), (1287, .iadd, 1), (1288, .iaload, 1), (1289, (.aload_n 0), 1), (1290, (.iload 4), 2), (1292, (.iconst 2), 1), (1293, .iadd, 1), (1294, .iaload, 1), (1295, (.invokevirtual 136), 3), (1298, .pop, 1), (1299, (.aload_n 2), 1), (1300, (.aload_n 0), 1), (1301, (.iload 4), 2)]
theorem tbL_law_n56_ok : ∀ q ∈ tbL_law_n56, decode cL_law q.1 = .ok q.2 := by decide +kernel
theorem dL_law_1136 : decode cL_law 1136 = .ok (.iconst 2, 1) := tb_at tbL_law_n56_ok 0 rfl
theorem dL_law_1137 : decode cL_law 1137 = .ok (.iadd, 1) := tb_at tbL_law_n56_ok 1 rfl
theorem dL_law_1138 : decode cL_law 1138 = .ok (.iaload, 1) := tb_at tbL_law_n56_ok 2 rfl
theorem dL_law_1139 : decode cL_law 1139 = .ok (.invokevirtual 119, 3) := tb_at tbL_law_n56_ok 3 rfl
theorem dL_law_1142 : decode cL_law 1142 = .ok (.pop, 1) := tb_at tbL_law_n56_ok 4 rfl
theorem dL_law_1143 : decode cL_law 1143 = .ok (.goto 227, 3) := tb_at tbL_law_n56_ok 5 rfl
theorem dL_law_1146 : decode cL_law 1146 = .ok (.aload_n 1, 1) := tb_at tbL_law_n56_ok 6 rfl
theorem dL_law_1147 : decode cL_law 1147 = .ok (.aload_n 0, 1) := tb_at tbL_law_n56_ok 7 rfl
theorem dL_law_1148 : decode cL_law 1148 = .ok (.iload 4, 2) := tb_at tbL_law_n56_ok 8 rfl
theorem dL_law_1150 : decode cL_law 1150 = .ok (.iconst 1, 1) := tb_at tbL_law_n56_ok 9 rfl
theorem dL_law_1151 : decode cL_law 1151 = .ok (.iadd, 1) := tb_at tbL_law_n56_ok 10 rfl
theorem dL_law_1152 : decode cL_law 1152 = .ok (.iaload, 1) := tb_at tbL_law_n56_ok 11 rfl
theorem dL_law_1153 : decode cL_law 1153 = .ok (.aload_n 0, 1) := tb_at tbL_law_n56_ok 12 rfl
theorem dL_law_1154 : decode cL_law 1154 = .ok (.iload 4, 2) := tb_at tbL_law_n56_ok 13 rfl
theorem dL_law_1156 : decode cL_law 1156 = .ok (.iconst 2, 1) := tb_at tbL_law_n56_ok 14 rfl
theorem dL_law_1157 : decode cL_law 1157 = .ok (.iadd, 1) := tb_at tbL_law_n56_ok 15 rfl
theorem dL_law_1158 : decode cL_law 1158 = .ok (.iaload, 1) := tb_at tbL_law_n56_ok 16 rfl
theorem dL_law_1159 : decode cL_law 1159 = .ok (.invokevirtual 120, 3) := tb_at tbL_law_n56_ok 17 rfl
theorem dL_law_1162 : decode cL_law 1162 = .ok (.pop, 1) := tb_at tbL_law_n56_ok 18 rfl
theorem dL_law_1163 : decode cL_law 1163 = .ok (.aload_n 2, 1) := tb_at tbL_law_n56_ok 19 rfl
theorem dL_law_1164 : decode cL_law 1164 = .ok (.aload_n 0, 1) := tb_at tbL_law_n56_ok 20 rfl
theorem dL_law_1165 : decode cL_law 1165 = .ok (.iload 4, 2) := tb_at tbL_law_n56_ok 21 rfl
theorem dL_law_1167 : decode cL_law 1167 = .ok (.iconst 1, 1) := tb_at tbL_law_n56_ok 22 rfl
theorem dL_law_1168 : decode cL_law 1168 = .ok (.iadd, 1) := tb_at tbL_law_n56_ok 23 rfl
theorem dL_law_1169 : decode cL_law 1169 = .ok (.iaload, 1) := tb_at tbL_law_n56_ok 24 rfl
theorem dL_law_1170 : decode cL_law 1170 = .ok (.aload_n 0, 1) := tb_at tbL_law_n56_ok 25 rfl
theorem dL_law_1171 : decode cL_law 1171 = .ok (.iload 4, 2) := tb_at tbL_law_n56_ok 26 rfl
theorem dL_law_1173 : decode cL_law 1173 = .ok (.iconst 2, 1) := tb_at tbL_law_n56_ok 27 rfl
theorem dL_law_1174 : decode cL_law 1174 = .ok (.iadd, 1) := tb_at tbL_law_n56_ok 28 rfl
theorem dL_law_1175 : decode cL_law 1175 = .ok (.iaload, 1) := tb_at tbL_law_n56_ok 29 rfl
theorem dL_law_1176 : decode cL_law 1176 = .ok (.invokevirtual 123, 3) := tb_at tbL_law_n56_ok 30 rfl
theorem dL_law_1179 : decode cL_law 1179 = .ok (.pop, 1) := tb_at tbL_law_n56_ok 31 rfl
theorem dL_law_1180 : decode cL_law 1180 = .ok (.goto 190, 3) := tb_at tbL_law_n56_ok 32 rfl
theorem dL_law_1183 : decode cL_law 1183 = .ok (.aload_n 1, 1) := tb_at tbL_law_n56_ok 33 rfl
theorem dL_law_1184 : decode cL_law 1184 = .ok (.aload_n 0, 1) := tb_at tbL_law_n56_ok 34 rfl
theorem dL_law_1185 : decode cL_law 1185 = .ok (.iload 4, 2) := tb_at tbL_law_n56_ok 35 rfl
theorem dL_law_1187 : decode cL_law 1187 = .ok (.iconst 1, 1) := tb_at tbL_law_n56_ok 36 rfl
theorem dL_law_1188 : decode cL_law 1188 = .ok (.iadd, 1) := tb_at tbL_law_n56_ok 37 rfl
theorem dL_law_1189 : decode cL_law 1189 = .ok (.iaload, 1) := tb_at tbL_law_n56_ok 38 rfl
theorem dL_law_1190 : decode cL_law 1190 = .ok (.aload_n 0, 1) := tb_at tbL_law_n56_ok 39 rfl
theorem dL_law_1191 : decode cL_law 1191 = .ok (.iload 4, 2) := tb_at tbL_law_n56_ok 40 rfl
theorem dL_law_1193 : decode cL_law 1193 = .ok (.iconst 2, 1) := tb_at tbL_law_n56_ok 41 rfl
theorem dL_law_1194 : decode cL_law 1194 = .ok (.iadd, 1) := tb_at tbL_law_n56_ok 42 rfl
theorem dL_law_1195 : decode cL_law 1195 = .ok (.iaload, 1) := tb_at tbL_law_n56_ok 43 rfl
theorem dL_law_1196 : decode cL_law 1196 = .ok (.invokevirtual 124, 3) := tb_at tbL_law_n56_ok 44 rfl
theorem dL_law_1199 : decode cL_law 1199 = .ok (.pop, 1) := tb_at tbL_law_n56_ok 45 rfl
theorem dL_law_1200 : decode cL_law 1200 = .ok (.aload_n 2, 1) := tb_at tbL_law_n56_ok 46 rfl
theorem dL_law_1201 : decode cL_law 1201 = .ok (.aload_n 0, 1) := tb_at tbL_law_n56_ok 47 rfl
theorem dL_law_1202 : decode cL_law 1202 = .ok (.iload 4, 2) := tb_at tbL_law_n56_ok 48 rfl
theorem dL_law_1204 : decode cL_law 1204 = .ok (.iconst 1, 1) := tb_at tbL_law_n56_ok 49 rfl
theorem dL_law_1205 : decode cL_law 1205 = .ok (.iadd, 1) := tb_at tbL_law_n56_ok 50 rfl
theorem dL_law_1206 : decode cL_law 1206 = .ok (.iaload, 1) := tb_at tbL_law_n56_ok 51 rfl
theorem dL_law_1207 : decode cL_law 1207 = .ok (.aload_n 0, 1) := tb_at tbL_law_n56_ok 52 rfl
theorem dL_law_1208 : decode cL_law 1208 = .ok (.iload 4, 2) := tb_at tbL_law_n56_ok 53 rfl
theorem dL_law_1210 : decode cL_law 1210 = .ok (.iconst 2, 1) := tb_at tbL_law_n56_ok 54 rfl
theorem dL_law_1211 : decode cL_law 1211 = .ok (.iadd, 1) := tb_at tbL_law_n56_ok 55 rfl
theorem dL_law_1212 : decode cL_law 1212 = .ok (.iaload, 1) := tb_at tbL_law_n56_ok 56 rfl
theorem dL_law_1213 : decode cL_law 1213 = .ok (.invokevirtual 127, 3) := tb_at tbL_law_n56_ok 57 rfl
theorem dL_law_1216 : decode cL_law 1216 = .ok (.pop, 1) := tb_at tbL_law_n56_ok 58 rfl
theorem dL_law_1217 : decode cL_law 1217 = .ok (.goto 153, 3) := tb_at tbL_law_n56_ok 59 rfl
theorem dL_law_1220 : decode cL_law 1220 = .ok (.aload_n 1, 1) := tb_at tbL_law_n56_ok 60 rfl
theorem dL_law_1221 : decode cL_law 1221 = .ok (.aload_n 0, 1) := tb_at tbL_law_n56_ok 61 rfl
theorem dL_law_1222 : decode cL_law 1222 = .ok (.iload 4, 2) := tb_at tbL_law_n56_ok 62 rfl
theorem dL_law_1224 : decode cL_law 1224 = .ok (.iconst 1, 1) := tb_at tbL_law_n56_ok 63 rfl
theorem dL_law_1225 : decode cL_law 1225 = .ok (.iadd, 1) := tb_at tbL_law_n56_ok 64 rfl
theorem dL_law_1226 : decode cL_law 1226 = .ok (.iaload, 1) := tb_at tbL_law_n56_ok 65 rfl
theorem dL_law_1227 : decode cL_law 1227 = .ok (.invokevirtual 128, 3) := tb_at tbL_law_n56_ok 66 rfl
theorem dL_law_1230 : decode cL_law 1230 = .ok (.pop, 1) := tb_at tbL_law_n56_ok 67 rfl
theorem dL_law_1231 : decode cL_law 1231 = .ok (.aload_n 2, 1) := tb_at tbL_law_n56_ok 68 rfl
theorem dL_law_1232 : decode cL_law 1232 = .ok (.aload_n 0, 1) := tb_at tbL_law_n56_ok 69 rfl
theorem dL_law_1233 : decode cL_law 1233 = .ok (.iload 4, 2) := tb_at tbL_law_n56_ok 70 rfl
theorem dL_law_1235 : decode cL_law 1235 = .ok (.iconst 1, 1) := tb_at tbL_law_n56_ok 71 rfl
theorem dL_law_1236 : decode cL_law 1236 = .ok (.iadd, 1) := tb_at tbL_law_n56_ok 72 rfl
theorem dL_law_1237 : decode cL_law 1237 = .ok (.iaload, 1) := tb_at tbL_law_n56_ok 73 rfl
theorem dL_law_1238 : decode cL_law 1238 = .ok (.invokevirtual 131, 3) := tb_at tbL_law_n56_ok 74 rfl
theorem dL_law_1241 : decode cL_law 1241 = .ok (.pop, 1) := tb_at tbL_law_n56_ok 75 rfl
theorem dL_law_1242 : decode cL_law 1242 = .ok (.goto 128, 3) := tb_at tbL_law_n56_ok 76 rfl
theorem dL_law_1245 : decode cL_law 1245 = .ok (.aload_n 1, 1) := tb_at tbL_law_n56_ok 77 rfl
theorem dL_law_1246 : decode cL_law 1246 = .ok (.aload_n 0, 1) := tb_at tbL_law_n56_ok 78 rfl
theorem dL_law_1247 : decode cL_law 1247 = .ok (.iload 4, 2) := tb_at tbL_law_n56_ok 79 rfl
theorem dL_law_1249 : decode cL_law 1249 = .ok (.iconst 1, 1) := tb_at tbL_law_n56_ok 80 rfl
theorem dL_law_1250 : decode cL_law 1250 = .ok (.iadd, 1) := tb_at tbL_law_n56_ok 81 rfl
theorem dL_law_1251 : decode cL_law 1251 = .ok (.iaload, 1) := tb_at tbL_law_n56_ok 82 rfl
theorem dL_law_1252 : decode cL_law 1252 = .ok (.aload_n 0, 1) := tb_at tbL_law_n56_ok 83 rfl
theorem dL_law_1253 : decode cL_law 1253 = .ok (.iload 4, 2) := tb_at tbL_law_n56_ok 84 rfl
theorem dL_law_1255 : decode cL_law 1255 = .ok (.iconst 2, 1) := tb_at tbL_law_n56_ok 85 rfl
theorem dL_law_1256 : decode cL_law 1256 = .ok (.iadd, 1) := tb_at tbL_law_n56_ok 86 rfl
theorem dL_law_1257 : decode cL_law 1257 = .ok (.iaload, 1) := tb_at tbL_law_n56_ok 87 rfl
theorem dL_law_1258 : decode cL_law 1258 = .ok (.invokevirtual 132, 3) := tb_at tbL_law_n56_ok 88 rfl
theorem dL_law_1261 : decode cL_law 1261 = .ok (.pop, 1) := tb_at tbL_law_n56_ok 89 rfl
theorem dL_law_1262 : decode cL_law 1262 = .ok (.aload_n 2, 1) := tb_at tbL_law_n56_ok 90 rfl
theorem dL_law_1263 : decode cL_law 1263 = .ok (.aload_n 0, 1) := tb_at tbL_law_n56_ok 91 rfl
theorem dL_law_1264 : decode cL_law 1264 = .ok (.iload 4, 2) := tb_at tbL_law_n56_ok 92 rfl
theorem dL_law_1266 : decode cL_law 1266 = .ok (.iconst 1, 1) := tb_at tbL_law_n56_ok 93 rfl
theorem dL_law_1267 : decode cL_law 1267 = .ok (.iadd, 1) := tb_at tbL_law_n56_ok 94 rfl
theorem dL_law_1268 : decode cL_law 1268 = .ok (.iaload, 1) := tb_at tbL_law_n56_ok 95 rfl
theorem dL_law_1269 : decode cL_law 1269 = .ok (.aload_n 0, 1) := tb_at tbL_law_n56_ok 96 rfl
theorem dL_law_1270 : decode cL_law 1270 = .ok (.iload 4, 2) := tb_at tbL_law_n56_ok 97 rfl
theorem dL_law_1272 : decode cL_law 1272 = .ok (.iconst 2, 1) := tb_at tbL_law_n56_ok 98 rfl
theorem dL_law_1273 : decode cL_law 1273 = .ok (.iadd, 1) := tb_at tbL_law_n56_ok 99 rfl
theorem dL_law_1274 : decode cL_law 1274 = .ok (.iaload, 1) := tb_at tbL_law_n56_ok 100 rfl
theorem dL_law_1275 : decode cL_law 1275 = .ok (.invokevirtual 135, 3) := tb_at tbL_law_n56_ok 101 rfl
theorem dL_law_1278 : decode cL_law 1278 = .ok (.pop, 1) := tb_at tbL_law_n56_ok 102 rfl
theorem dL_law_1279 : decode cL_law 1279 = .ok (.goto 91, 3) := tb_at tbL_law_n56_ok 103 rfl
theorem dL_law_1282 : decode cL_law 1282 = .ok (.aload_n 1, 1) := tb_at tbL_law_n56_ok 104 rfl
theorem dL_law_1283 : decode cL_law 1283 = .ok (.aload_n 0, 1) := tb_at tbL_law_n56_ok 105 rfl
theorem dL_law_1284 : decode cL_law 1284 = .ok (.iload 4, 2) := tb_at tbL_law_n56_ok 106 rfl
theorem dL_law_1286 : decode cL_law 1286 = .ok (.iconst 1, 1) := tb_at tbL_law_n56_ok 107 rfl
theorem dL_law_1287 : decode cL_law 1287 = .ok (.iadd, 1) := tb_at tbL_law_n56_ok 108 rfl
theorem dL_law_1288 : decode cL_law 1288 = .ok (.iaload, 1) := tb_at tbL_law_n56_ok 109 rfl
theorem dL_law_1289 : decode cL_law 1289 = .ok (.aload_n 0, 1) := tb_at tbL_law_n56_ok 110 rfl
theorem dL_law_1290 : decode cL_law 1290 = .ok (.iload 4, 2) := tb_at tbL_law_n56_ok 111 rfl
theorem dL_law_1292 : decode cL_law 1292 = .ok (.iconst 2, 1) := tb_at tbL_law_n56_ok 112 rfl
theorem dL_law_1293 : decode cL_law 1293 = .ok (.iadd, 1) := tb_at tbL_law_n56_ok 113 rfl
theorem dL_law_1294 : decode cL_law 1294 = .ok (.iaload, 1) := tb_at tbL_law_n56_ok 114 rfl
theorem dL_law_1295 : decode cL_law 1295 = .ok (.invokevirtual 136, 3) := tb_at tbL_law_n56_ok 115 rfl
theorem dL_law_1298 : decode cL_law 1298 = .ok (.pop, 1) := tb_at tbL_law_n56_ok 116 rfl
theorem dL_law_1299 : decode cL_law 1299 = .ok (.aload_n 2, 1) := tb_at tbL_law_n56_ok 117 rfl
theorem dL_law_1300 : decode cL_law 1300 = .ok (.aload_n 0, 1) := tb_at tbL_law_n56_ok 118 rfl
theorem dL_law_1301 : decode cL_law 1301 = .ok (.iload 4, 2) := tb_at tbL_law_n56_ok 119 rfl
noncomputable def tbL_law_n57 : List (Nat × Instr × Nat) := [(1303, (.iconst 1), 1), (1304, .iadd, 1), (1305, .iaload, 1), (1306, (.aload_n 0), 1), (1307, (.iload 4), 2), (1309, (.iconst 2), 1), (1310, .iadd, 1), (1311, .iaload, 1), (1312, (.invokevirtual 139), 3), (1315, .pop, 1), (1316, (.goto 54), 3), (1319, (.aload_n 1), 1), (1320, (.invokevirtual 140), 3), (1323, .pop, 1), (1324, (.aload_n 2), 1), (1325, (.invokevirtual 143), 3), (1328, .pop, 1), (1329, (.goto 41), 3), (1332, (.aload_n 1), 1), (1333, (.invokevirtual 144), 3), (1336, .pop, 1), (1337, (.aload_n 2), 1), (1338, (.invokevirtual 147), 3), (1341, .pop, 1), (1342, (.goto 28), 3), (1345, (.aload_n 1), 1), (1346, (.aload_n 0), 1), (1347, (.iload 4), 2), (1349, (.iconst 1), 1), (1350, .iadd, 1), (1351, .iaload, 1), (1352, (.invokevirtual 148), 3), (1355, .pop, 1), (1356, (.aload_n 2), 1), (1357, (.aload_n 0), 1), (1358, (.iload 4), 2), (1360, (.iconst 1), 1), (1361, .iadd, 1), (1362, .iaload, 1), (1363, (.invokevirtual 151), 3), (1366, .pop, 1), (1367, (.goto 3), 3), (1370, (.iinc 4 7), 3), (1373, (.goto (-1350)), 3), (1376, (.iconst 1), 1), (1377, .ireturn, 1)]
theorem tbL_law_n57_ok : ∀ q ∈ tbL_law_n57, decode cL_law q.1 = .ok q.2 := by decide +kernel
theorem dL_law_1303 : decode cL_law 1303 = .ok (.iconst 1, 1) := tb_at tbL_law_n57_ok 0 rfl
theorem dL_law_1304 : decode cL_law 1304 = .ok (.iadd, 1) := tb_at tbL_law_n57_ok 1 rfl
theorem dL_law_1305 : decode cL_law 1305 = .ok (.iaload, 1) := tb_at tbL_law_n57_ok 2 rfl
theorem dL_law_1306 : decode cL_law 1306 = .ok (.aload_n 0, 1) := tb_at tbL_law_n57_ok 3 rfl
theorem dL_law_1307 : decode cL_law 1307 = .ok (.iload 4, 2) := tb_at tbL_law_n57_ok 4 rfl
theorem dL_law_1309 : decode cL_law 1309 = .ok (.iconst 2, 1) := tb_at tbL_law_n57_ok 5 rfl
theorem dL_law_1310 : decode cL_law 1310 = .ok (.iadd, 1) := tb_at tbL_law_n57_ok 6 rfl
theorem dL_law_1311 : decode cL_law 1311 = .ok (.iaload, 1) := tb_at tbL_law_n57_ok 7 rfl
theorem dL_law_1312 : decode cL_law 1312 = .ok (.invokevirtual 139, 3) := tb_at tbL_law_n57_ok 8 rfl
theorem dL_law_1315 : decode cL_law 1315 = .ok (.pop, 1) := tb_at tbL_law_n57_ok 9 rfl
theorem dL_law_1316 : decode cL_law 1316 = .ok (.goto 54, 3) := tb_at tbL_law_n57_ok 10 rfl
theorem dL_law_1319 : decode cL_law 1319 = .ok (.aload_n 1, 1) := tb_at tbL_law_n57_ok 11 rfl
theorem dL_law_1320 : decode cL_law 1320 = .ok (.invokevirtual 140, 3) := tb_at tbL_law_n57_ok 12 rfl
theorem dL_law_1323 : decode cL_law 1323 = .ok (.pop, 1) := tb_at tbL_law_n57_ok 13 rfl
theorem dL_law_1324 : decode cL_law 1324 = .ok (.aload_n 2, 1) := tb_at tbL_law_n57_ok 14 rfl
theorem dL_law_1325 : decode cL_law 1325 = .ok (.invokevirtual 143, 3) := tb_at tbL_law_n57_ok 15 rfl
theorem dL_law_1328 : decode cL_law 1328 = .ok (.pop, 1) := tb_at tbL_law_n57_ok 16 rfl
theorem dL_law_1329 : decode cL_law 1329 = .ok (.goto 41, 3) := tb_at tbL_law_n57_ok 17 rfl
theorem dL_law_1332 : decode cL_law 1332 = .ok (.aload_n 1, 1) := tb_at tbL_law_n57_ok 18 rfl
theorem dL_law_1333 : decode cL_law 1333 = .ok (.invokevirtual 144, 3) := tb_at tbL_law_n57_ok 19 rfl
theorem dL_law_1336 : decode cL_law 1336 = .ok (.pop, 1) := tb_at tbL_law_n57_ok 20 rfl
theorem dL_law_1337 : decode cL_law 1337 = .ok (.aload_n 2, 1) := tb_at tbL_law_n57_ok 21 rfl
theorem dL_law_1338 : decode cL_law 1338 = .ok (.invokevirtual 147, 3) := tb_at tbL_law_n57_ok 22 rfl
theorem dL_law_1341 : decode cL_law 1341 = .ok (.pop, 1) := tb_at tbL_law_n57_ok 23 rfl
theorem dL_law_1342 : decode cL_law 1342 = .ok (.goto 28, 3) := tb_at tbL_law_n57_ok 24 rfl
theorem dL_law_1345 : decode cL_law 1345 = .ok (.aload_n 1, 1) := tb_at tbL_law_n57_ok 25 rfl
theorem dL_law_1346 : decode cL_law 1346 = .ok (.aload_n 0, 1) := tb_at tbL_law_n57_ok 26 rfl
theorem dL_law_1347 : decode cL_law 1347 = .ok (.iload 4, 2) := tb_at tbL_law_n57_ok 27 rfl
theorem dL_law_1349 : decode cL_law 1349 = .ok (.iconst 1, 1) := tb_at tbL_law_n57_ok 28 rfl
theorem dL_law_1350 : decode cL_law 1350 = .ok (.iadd, 1) := tb_at tbL_law_n57_ok 29 rfl
theorem dL_law_1351 : decode cL_law 1351 = .ok (.iaload, 1) := tb_at tbL_law_n57_ok 30 rfl
theorem dL_law_1352 : decode cL_law 1352 = .ok (.invokevirtual 148, 3) := tb_at tbL_law_n57_ok 31 rfl
theorem dL_law_1355 : decode cL_law 1355 = .ok (.pop, 1) := tb_at tbL_law_n57_ok 32 rfl
theorem dL_law_1356 : decode cL_law 1356 = .ok (.aload_n 2, 1) := tb_at tbL_law_n57_ok 33 rfl
theorem dL_law_1357 : decode cL_law 1357 = .ok (.aload_n 0, 1) := tb_at tbL_law_n57_ok 34 rfl
theorem dL_law_1358 : decode cL_law 1358 = .ok (.iload 4, 2) := tb_at tbL_law_n57_ok 35 rfl
theorem dL_law_1360 : decode cL_law 1360 = .ok (.iconst 1, 1) := tb_at tbL_law_n57_ok 36 rfl
theorem dL_law_1361 : decode cL_law 1361 = .ok (.iadd, 1) := tb_at tbL_law_n57_ok 37 rfl
theorem dL_law_1362 : decode cL_law 1362 = .ok (.iaload, 1) := tb_at tbL_law_n57_ok 38 rfl
theorem dL_law_1363 : decode cL_law 1363 = .ok (.invokevirtual 151, 3) := tb_at tbL_law_n57_ok 39 rfl
theorem dL_law_1366 : decode cL_law 1366 = .ok (.pop, 1) := tb_at tbL_law_n57_ok 40 rfl
theorem dL_law_1367 : decode cL_law 1367 = .ok (.goto 3, 3) := tb_at tbL_law_n57_ok 41 rfl
theorem dL_law_1370 : decode cL_law 1370 = .ok (.iinc 4 7, 3) := tb_at tbL_law_n57_ok 42 rfl
theorem dL_law_1373 : decode cL_law 1373 = .ok (.goto (-1350), 3) := tb_at tbL_law_n57_ok 43 rfl
theorem dL_law_1376 : decode cL_law 1376 = .ok (.iconst 1, 1) := tb_at tbL_law_n57_ok 44 rfl
theorem dL_law_1377 : decode cL_law 1377 = .ok (.ireturn, 1) := tb_at tbL_law_n57_ok 45 rfl
abbrev vwCl : List vw_C := [(RX0, TX0, 4), (RX1, TX1, 4), (RX2, TX2, 4), (RX3, TX3, 4), (RX4, TX4, 9), (RX5, TX5, 2), (RX6, TX6, 4), (RX7, TX7, 8), (RX8, TX8, 12), (RX9, TX9, 51)]
