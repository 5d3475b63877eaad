noncomputable def tbX8_fillField_n30 : List (Nat × Instr × Nat) := [(138, (.aload_n 0), 1), (139, (.aload_n 2), 1), (140, (.lload 8), 2), (142, .l2i, 1), (143, (.iload 7), 2), (145, (.invokevirtual 371), 3), (148, .aastore, 1), (149, (.goto 43), 3), (152, (.iload 7), 2), (154, (.iconst 2), 1), (155, (.if_icmp .ne 28), 3), (158, (.lload 8), 2), (160, (.ldc2_w 88), 3), (163, .lcmp, 1), (164, (.ifCond .eq 19), 3), (167, (.aload_n 1), 1), (168, (.getfield 193), 3), (171, (.iload 6), 2), (173, (.iload 4), 2), (175, .i2l, 1), (176, (.lload 8), 2), (178, .ladd, 1), (179, .lastore, 1), (180, (.goto 12), 3), (183, (.aload_n 1), 1), (184, (.getfield 193), 3), (187, (.iload 6), 2), (189, (.lload 8), 2), (191, .lastore, 1), (192, (.iconst 0), 1), (193, .ireturn, 1)]
theorem tbX8_fillField_n30_ok : ∀ q ∈ tbX8_fillField_n30, decode cX8_fillField q.1 = .ok q.2 := by decide +kernel
theorem dX8_fillField_138 : decode cX8_fillField 138 = .ok (.aload_n 0, 1) := tb_at tbX8_fillField_n30_ok 0 rfl
theorem dX8_fillField_139 : decode cX8_fillField 139 = .ok (.aload_n 2, 1) := tb_at tbX8_fillField_n30_ok 1 rfl
theorem dX8_fillField_140 : decode cX8_fillField 140 = .ok (.lload 8, 2) := tb_at tbX8_fillField_n30_ok 2 rfl
theorem dX8_fillField_142 : decode cX8_fillField 142 = .ok (.l2i, 1) := tb_at tbX8_fillField_n30_ok 3 rfl
theorem dX8_fillField_143 : decode cX8_fillField 143 = .ok (.iload 7, 2) := tb_at tbX8_fillField_n30_ok 4 rfl
theorem dX8_fillField_145 : decode cX8_fillField 145 = .ok (.invokevirtual 371, 3) := tb_at tbX8_fillField_n30_ok 5 rfl
theorem dX8_fillField_148 : decode cX8_fillField 148 = .ok (.aastore, 1) := tb_at tbX8_fillField_n30_ok 6 rfl
theorem dX8_fillField_149 : decode cX8_fillField 149 = .ok (.goto 43, 3) := tb_at tbX8_fillField_n30_ok 7 rfl
theorem dX8_fillField_152 : decode cX8_fillField 152 = .ok (.iload 7, 2) := tb_at tbX8_fillField_n30_ok 8 rfl
theorem dX8_fillField_154 : decode cX8_fillField 154 = .ok (.iconst 2, 1) := tb_at tbX8_fillField_n30_ok 9 rfl
theorem dX8_fillField_155 : decode cX8_fillField 155 = .ok (.if_icmp .ne 28, 3) := tb_at tbX8_fillField_n30_ok 10 rfl
theorem dX8_fillField_158 : decode cX8_fillField 158 = .ok (.lload 8, 2) := tb_at tbX8_fillField_n30_ok 11 rfl
theorem dX8_fillField_160 : decode cX8_fillField 160 = .ok (.ldc2_w 88, 3) := tb_at tbX8_fillField_n30_ok 12 rfl
theorem dX8_fillField_163 : decode cX8_fillField 163 = .ok (.lcmp, 1) := tb_at tbX8_fillField_n30_ok 13 rfl
theorem dX8_fillField_164 : decode cX8_fillField 164 = .ok (.ifCond .eq 19, 3) := tb_at tbX8_fillField_n30_ok 14 rfl
theorem dX8_fillField_167 : decode cX8_fillField 167 = .ok (.aload_n 1, 1) := tb_at tbX8_fillField_n30_ok 15 rfl
theorem dX8_fillField_168 : decode cX8_fillField 168 = .ok (.getfield 193, 3) := tb_at tbX8_fillField_n30_ok 16 rfl
theorem dX8_fillField_171 : decode cX8_fillField 171 = .ok (.iload 6, 2) := tb_at tbX8_fillField_n30_ok 17 rfl
theorem dX8_fillField_173 : decode cX8_fillField 173 = .ok (.iload 4, 2) := tb_at tbX8_fillField_n30_ok 18 rfl
theorem dX8_fillField_175 : decode cX8_fillField 175 = .ok (.i2l, 1) := tb_at tbX8_fillField_n30_ok 19 rfl
theorem dX8_fillField_176 : decode cX8_fillField 176 = .ok (.lload 8, 2) := tb_at tbX8_fillField_n30_ok 20 rfl
theorem dX8_fillField_178 : decode cX8_fillField 178 = .ok (.ladd, 1) := tb_at tbX8_fillField_n30_ok 21 rfl
theorem dX8_fillField_179 : decode cX8_fillField 179 = .ok (.lastore, 1) := tb_at tbX8_fillField_n30_ok 22 rfl
theorem dX8_fillField_180 : decode cX8_fillField 180 = .ok (.goto 12, 3) := tb_at tbX8_fillField_n30_ok 23 rfl
theorem dX8_fillField_183 : decode cX8_fillField 183 = .ok (.aload_n 1, 1) := tb_at tbX8_fillField_n30_ok 24 rfl
theorem dX8_fillField_184 : decode cX8_fillField 184 = .ok (.getfield 193, 3) := tb_at tbX8_fillField_n30_ok 25 rfl
theorem dX8_fillField_187 : decode cX8_fillField 187 = .ok (.iload 6, 2) := tb_at tbX8_fillField_n30_ok 26 rfl
theorem dX8_fillField_189 : decode cX8_fillField 189 = .ok (.lload 8, 2) := tb_at tbX8_fillField_n30_ok 27 rfl
theorem dX8_fillField_191 : decode cX8_fillField 191 = .ok (.lastore, 1) := tb_at tbX8_fillField_n30_ok 28 rfl
theorem dX8_fillField_192 : decode cX8_fillField 192 = .ok (.iconst 0, 1) := tb_at tbX8_fillField_n30_ok 29 rfl
theorem dX8_fillField_193 : decode cX8_fillField 193 = .ok (.ireturn, 1) := tb_at tbX8_fillField_n30_ok 30 rfl
set_option maxRecDepth 20000 in
theorem ggX8_mayCome_X8_isRowLane : GoodIn wsX8_mayCome wsX8_isRowLane := goodIn_r _ [4] (by decide +kernel) (by decide +kernel)
set_option maxRecDepth 20000 in
theorem gX8_mayCome_X8_isRowLane : GoodIn wsX8_mayCome (va_wsS RX8 150 yX8_isRowLane wsX8_isRowLane) := goodIn_app (goodIn_of _ (by decide +kernel)) ggX8_mayCome_X8_isRowLane
noncomputable def tbX8_mayCome_n30 : List (Nat × Instr × Nat) := [(0, (.iload_n 0), 1), (1, (.iload_n 1), 1), (2, (.if_icmp .ne 5), 3), (5, (.iconst 1), 1), (6, .ireturn, 1), (7, (.iload_n 0), 1), (8, (.iconst 1), 1), (9, (.if_icmp .ne 15), 3), (12, (.iload_n 1), 1), (13, (.ifCond .ne 7), 3), (16, (.iconst 1), 1), (17, (.goto 24), 3), (20, (.iconst 0), 1), (21, (.goto 20), 3), (24, (.iload_n 0), 1), (25, (.invokestatic 150), 3), (28, (.ifCond .eq 12), 3), (31, (.iload_n 1), 1), (32, (.iload_n 0), 1), (33, (.if_icmp .le 7), 3), (36, (.iconst 1), 1), (37, (.goto 4), 3), (40, (.iconst 0), 1), (41, .ireturn, 1)]
theorem tbX8_mayCome_n30_ok : ∀ q ∈ tbX8_mayCome_n30, decode cX8_mayCome q.1 = .ok q.2 := by decide +kernel
theorem dX8_mayCome_0 : decode cX8_mayCome 0 = .ok (.iload_n 0, 1) := tb_at tbX8_mayCome_n30_ok 0 rfl
theorem dX8_mayCome_1 : decode cX8_mayCome 1 = .ok (.iload_n 1, 1) := tb_at tbX8_mayCome_n30_ok 1 rfl
theorem dX8_mayCome_2 : decode cX8_mayCome 2 = .ok (.if_icmp .ne 5, 3) := tb_at tbX8_mayCome_n30_ok 2 rfl
theorem dX8_mayCome_5 : decode cX8_mayCome 5 = .ok (.iconst 1, 1) := tb_at tbX8_mayCome_n30_ok 3 rfl
theorem dX8_mayCome_6 : decode cX8_mayCome 6 = .ok (.ireturn, 1) := tb_at tbX8_mayCome_n30_ok 4 rfl
theorem dX8_mayCome_7 : decode cX8_mayCome 7 = .ok (.iload_n 0, 1) := tb_at tbX8_mayCome_n30_ok 5 rfl
theorem dX8_mayCome_8 : decode cX8_mayCome 8 = .ok (.iconst 1, 1) := tb_at tbX8_mayCome_n30_ok 6 rfl
theorem dX8_mayCome_9 : decode cX8_mayCome 9 = .ok (.if_icmp .ne 15, 3) := tb_at tbX8_mayCome_n30_ok 7 rfl
theorem dX8_mayCome_12 : decode cX8_mayCome 12 = .ok (.iload_n 1, 1) := tb_at tbX8_mayCome_n30_ok 8 rfl
theorem dX8_mayCome_13 : decode cX8_mayCome 13 = .ok (.ifCond .ne 7, 3) := tb_at tbX8_mayCome_n30_ok 9 rfl
theorem dX8_mayCome_16 : decode cX8_mayCome 16 = .ok (.iconst 1, 1) := tb_at tbX8_mayCome_n30_ok 10 rfl
theorem dX8_mayCome_17 : decode cX8_mayCome 17 = .ok (.goto 24, 3) := tb_at tbX8_mayCome_n30_ok 11 rfl
theorem dX8_mayCome_20 : decode cX8_mayCome 20 = .ok (.iconst 0, 1) := tb_at tbX8_mayCome_n30_ok 12 rfl
theorem dX8_mayCome_21 : decode cX8_mayCome 21 = .ok (.goto 20, 3) := tb_at tbX8_mayCome_n30_ok 13 rfl
theorem dX8_mayCome_24 : decode cX8_mayCome 24 = .ok (.iload_n 0, 1) := tb_at tbX8_mayCome_n30_ok 14 rfl
theorem dX8_mayCome_25 : decode cX8_mayCome 25 = .ok (.invokestatic 150, 3) := tb_at tbX8_mayCome_n30_ok 15 rfl
theorem dX8_mayCome_28 : decode cX8_mayCome 28 = .ok (.ifCond .eq 12, 3) := tb_at tbX8_mayCome_n30_ok 16 rfl
theorem dX8_mayCome_31 : decode cX8_mayCome 31 = .ok (.iload_n 1, 1) := tb_at tbX8_mayCome_n30_ok 17 rfl
theorem dX8_mayCome_32 : decode cX8_mayCome 32 = .ok (.iload_n 0, 1) := tb_at tbX8_mayCome_n30_ok 18 rfl
theorem dX8_mayCome_33 : decode cX8_mayCome 33 = .ok (.if_icmp .le 7, 3) := tb_at tbX8_mayCome_n30_ok 19 rfl
theorem dX8_mayCome_36 : decode cX8_mayCome 36 = .ok (.iconst 1, 1) := tb_at tbX8_mayCome_n30_ok 20 rfl
theorem dX8_mayCome_37 : decode cX8_mayCome 37 = .ok (.goto 4, 3) := tb_at tbX8_mayCome_n30_ok 21 rfl
theorem dX8_mayCome_40 : decode cX8_mayCome 40 = .ok (.iconst 0, 1) := tb_at tbX8_mayCome_n30_ok 22 rfl
theorem dX8_mayCome_41 : decode cX8_mayCome 41 = .ok (.ireturn, 1) := tb_at tbX8_mayCome_n30_ok 23 rfl
set_option maxRecDepth 20000 in
theorem ggX8_rowPutBack_X4_copyOfRow : GoodIn wsX8_rowPutBack wsX4_copyOfRow := goodIn_r _ [6, 7, 8, 9, 10, 11, 12, 13, 14, 15, 16, 17, 18, 19, 20, 33, 34, 35, 36, 37, 38, 39, 40, 41, 42, 43] (by decide +kernel) (by decide +kernel)
set_option maxRecDepth 20000 in
theorem gX8_rowPutBack_X4_copyOfRow : GoodIn wsX8_rowPutBack (wsV RX8 375 RX4 yX4_copyOfRow wsX4_copyOfRow) := goodIn_app (goodIn_of _ (by decide +kernel)) ggX8_rowPutBack_X4_copyOfRow
noncomputable def tbX8_rowPutBack_n30 : List (Nat × Instr × Nat) := [(0, (.iload_n 2), 1), (1, (.iconst 3), 1), (2, .imul, 1), (3, (.iload_n 3), 1), (4, .iadd, 1), (5, (.iconst 3), 1), (6, .isub, 1), (7, (.istore 4), 2), (9, (.aload_n 0), 1), (10, (.getfield 44), 3), (13, (.iload 4), 2), (15, .aaload, 1), (16, (.ifnonnull 15), 3), (19, (.aload_n 0), 1), (20, (.getfield 44), 3), (23, (.iload 4), 2), (25, (.aload_n 1), 1), (26, (.iload_n 2), 1), (27, (.invokevirtual 375), 3), (30, .aastore, 1), (31, (.aload_n 0), 1), (32, (.getfield 44), 3), (35, (.iload 4), 2), (37, .aaload, 1), (38, .areturn, 1)]
theorem tbX8_rowPutBack_n30_ok : ∀ q ∈ tbX8_rowPutBack_n30, decode cX8_rowPutBack q.1 = .ok q.2 := by decide +kernel
theorem dX8_rowPutBack_0 : decode cX8_rowPutBack 0 = .ok (.iload_n 2, 1) := tb_at tbX8_rowPutBack_n30_ok 0 rfl
theorem dX8_rowPutBack_1 : decode cX8_rowPutBack 1 = .ok (.iconst 3, 1) := tb_at tbX8_rowPutBack_n30_ok 1 rfl
theorem dX8_rowPutBack_2 : decode cX8_rowPutBack 2 = .ok (.imul, 1) := tb_at tbX8_rowPutBack_n30_ok 2 rfl
theorem dX8_rowPutBack_3 : decode cX8_rowPutBack 3 = .ok (.iload_n 3, 1) := tb_at tbX8_rowPutBack_n30_ok 3 rfl
theorem dX8_rowPutBack_4 : decode cX8_rowPutBack 4 = .ok (.iadd, 1) := tb_at tbX8_rowPutBack_n30_ok 4 rfl
theorem dX8_rowPutBack_5 : decode cX8_rowPutBack 5 = .ok (.iconst 3, 1) := tb_at tbX8_rowPutBack_n30_ok 5 rfl
theorem dX8_rowPutBack_6 : decode cX8_rowPutBack 6 = .ok (.isub, 1) := tb_at tbX8_rowPutBack_n30_ok 6 rfl
theorem dX8_rowPutBack_7 : decode cX8_rowPutBack 7 = .ok (.istore 4, 2) := tb_at tbX8_rowPutBack_n30_ok 7 rfl
theorem dX8_rowPutBack_9 : decode cX8_rowPutBack 9 = .ok (.aload_n 0, 1) := tb_at tbX8_rowPutBack_n30_ok 8 rfl
theorem dX8_rowPutBack_10 : decode cX8_rowPutBack 10 = .ok (.getfield 44, 3) := tb_at tbX8_rowPutBack_n30_ok 9 rfl
theorem dX8_rowPutBack_13 : decode cX8_rowPutBack 13 = .ok (.iload 4, 2) := tb_at tbX8_rowPutBack_n30_ok 10 rfl
theorem dX8_rowPutBack_15 : decode cX8_rowPutBack 15 = .ok (.aaload, 1) := tb_at tbX8_rowPutBack_n30_ok 11 rfl
theorem dX8_rowPutBack_16 : decode cX8_rowPutBack 16 = .ok (.ifnonnull 15, 3) := tb_at tbX8_rowPutBack_n30_ok 12 rfl
theorem dX8_rowPutBack_19 : decode cX8_rowPutBack 19 = .ok (.aload_n 0, 1) := tb_at tbX8_rowPutBack_n30_ok 13 rfl
theorem dX8_rowPutBack_20 : decode cX8_rowPutBack 20 = .ok (.getfield 44, 3) := tb_at tbX8_rowPutBack_n30_ok 14 rfl
theorem dX8_rowPutBack_23 : decode cX8_rowPutBack 23 = .ok (.iload 4, 2) := tb_at tbX8_rowPutBack_n30_ok 15 rfl
theorem dX8_rowPutBack_25 : decode cX8_rowPutBack 25 = .ok (.aload_n 1, 1) := tb_at tbX8_rowPutBack_n30_ok 16 rfl
theorem dX8_rowPutBack_26 : decode cX8_rowPutBack 26 = .ok (.iload_n 2, 1) := tb_at tbX8_rowPutBack_n30_ok 17 rfl
theorem dX8_rowPutBack_27 : decode cX8_rowPutBack 27 = .ok (.invokevirtual 375, 3) := tb_at tbX8_rowPutBack_n30_ok 18 rfl
theorem dX8_rowPutBack_30 : decode cX8_rowPutBack 30 = .ok (.aastore, 1) := tb_at tbX8_rowPutBack_n30_ok 19 rfl
theorem dX8_rowPutBack_31 : decode cX8_rowPutBack 31 = .ok (.aload_n 0, 1) := tb_at tbX8_rowPutBack_n30_ok 20 rfl
theorem dX8_rowPutBack_32 : decode cX8_rowPutBack 32 = .ok (.getfield 44, 3) := tb_at tbX8_rowPutBack_n30_ok 21 rfl
theorem dX8_rowPutBack_35 : decode cX8_rowPutBack 35 = .ok (.iload 4, 2) := tb_at tbX8_rowPutBack_n30_ok 22 rfl
theorem dX8_rowPutBack_37 : decode cX8_rowPutBack 37 = .ok (.aaload, 1) := tb_at tbX8_rowPutBack_n30_ok 23 rfl
theorem dX8_rowPutBack_38 : decode cX8_rowPutBack 38 = .ok (.areturn, 1) := tb_at tbX8_rowPutBack_n30_ok 24 rfl
set_option maxRecDepth 20000 in
theorem ggX8_judgeThings_X8_firstFailingCheck : GoodIn wsX8_judgeThings wsX8_firstFailingCheck := goodIn_r _ [10, 4, 11, 5, 12, 13, 14, 9, 15, 16, 17, 18, 19, 20, 21, 22, 23, 24, 25, 26, 27, 28, 29, 30, 31, 32, 33, 34, 35, 36, 37, 38, 39, 40, 41, 42, 43, 44, 45, 1, 2, 46, 47, 48, 49, 50, 51, 52, 53, 54, 55, 56, 57, 58, 59, 60, 61, 62, 63, 64, 65, 66, 67, 68, 69, 70, 71, 72, 73, 95, 96, 97, 98, 99, 100, 101, 102, 103, 104, 105, 106, 107, 108, 109, 110, 83, 84, 85, 86, 87, 88, 89, 90, 91, 92, 93, 94, 111, 112] (by decide +kernel) (by decide +kernel)
set_option maxRecDepth 20000 in
theorem gX8_judgeThings_X8_firstFailingCheck : GoodIn wsX8_judgeThings (wsV RX8 208 RX8 yX8_firstFailingCheck wsX8_firstFailingCheck) := goodIn_app (goodIn_of _ (by decide +kernel)) ggX8_judgeThings_X8_firstFailingCheck
set_option maxRecDepth 20000 in
theorem ggX8_judgeThings_X1_tell : GoodIn wsX8_judgeThings wsX1_tell := goodIn_r _ [78, 79, 80, 81, 82, 113, 114, 115, 116] (by decide +kernel) (by decide +kernel)
set_option maxRecDepth 20000 in
theorem gX8_judgeThings_X1_tell : GoodIn wsX8_judgeThings (wsV RX8 227 RX1 yX1_tell wsX1_tell) := goodIn_app (goodIn_of _ (by decide +kernel)) ggX8_judgeThings_X1_tell
set_option maxRecDepth 20000 in
theorem ggX8_judgeThings_X8_failureOf : GoodIn wsX8_judgeThings wsX8_failureOf := goodIn_r _ [15, 16, 17, 18, 9, 19, 4, 20, 21, 22, 23, 24, 25, 26, 27, 28, 29, 30, 31, 32, 33, 34, 35, 36, 37, 38, 39, 40, 41, 42, 43, 44, 45, 1, 2, 46, 47, 48, 49, 50, 51, 52, 53, 54, 55, 56, 57, 58, 59, 60, 61, 62, 63, 64, 65, 66, 67, 68, 69, 70, 71, 72, 73, 107, 108, 109, 110, 95, 96, 97, 98, 99, 100, 101, 102, 103, 104, 105, 106, 83, 84, 85, 86, 87, 88, 89, 90, 91, 92, 93, 94, 111, 112] (by decide +kernel) (by decide +kernel)
set_option maxRecDepth 20000 in
theorem gX8_judgeThings_X8_failureOf : GoodIn wsX8_judgeThings (wsV RX8 212 RX8 yX8_failureOf wsX8_failureOf) := goodIn_app (goodIn_of _ (by decide +kernel)) ggX8_judgeThings_X8_failureOf
noncomputable def tbX8_judgeThings_n30 : List (Nat × Instr × Nat) := [(0, (.iload_n 1), 1), (1, (.istore_n 2), 1), (2, (.iload_n 2), 1), (3, (.aload_n 0), 1), (4, (.getfield 94), 3), (7, (.if_icmp .ge 62), 3), (10, (.aload_n 0), 1), (11, (.aload_n 0), 1), (12, (.getfield 17), 3), (15, (.iload_n 2), 1), (16, .aaload, 1), (17, (.invokevirtual 208), 3), (20, (.istore_n 3), 1), (21, (.iload_n 3), 1), (22, (.iconst (-1)), 1), (23, (.if_icmp .eq 40), 3), (26, (.aload_n 0), 1), (27, (.getfield 58), 3), (30, (.iload_n 2), 1), (31, (.iload_n 1), 1), (32, .isub, 1), (33, (.iconst (-1)), 1), (34, (.iload_n 3), 1), (35, (.invokevirtual 227), 3), (38, (.aload_n 0), 1), (39, (.aload_n 0), 1), (40, (.getfield 17), 3), (43, (.iload_n 2), 1), (44, .aaload, 1), (45, (.aload_n 0), 1), (46, (.getfield 17), 3), (49, (.iload_n 2), 1), (50, .aaload, 1), (51, (.getfield 97), 3), (54, (.getfield 118), 3), (57, (.iload_n 3), 1), (58, .aaload, 1), (59, (.invokevirtual 212), 3), (62, .ireturn, 1), (63, (.iinc 2 1), 3), (66, (.goto (-64)), 3), (69, (.iconst 0), 1), (70, .ireturn, 1)]
theorem tbX8_judgeThings_n30_ok : ∀ q ∈ tbX8_judgeThings_n30, decode cX8_judgeThings q.1 = .ok q.2 := by decide +kernel
theorem dX8_judgeThings_0 : decode cX8_judgeThings 0 = .ok (.iload_n 1, 1) := tb_at tbX8_judgeThings_n30_ok 0 rfl
theorem dX8_judgeThings_1 : decode cX8_judgeThings 1 = .ok (.istore_n 2, 1) := tb_at tbX8_judgeThings_n30_ok 1 rfl
theorem dX8_judgeThings_2 : decode cX8_judgeThings 2 = .ok (.iload_n 2, 1) := tb_at tbX8_judgeThings_n30_ok 2 rfl
theorem dX8_judgeThings_3 : decode cX8_judgeThings 3 = .ok (.aload_n 0, 1) := tb_at tbX8_judgeThings_n30_ok 3 rfl
theorem dX8_judgeThings_4 : decode cX8_judgeThings 4 = .ok (.getfield 94, 3) := tb_at tbX8_judgeThings_n30_ok 4 rfl
theorem dX8_judgeThings_7 : decode cX8_judgeThings 7 = .ok (.if_icmp .ge 62, 3) := tb_at tbX8_judgeThings_n30_ok 5 rfl
theorem dX8_judgeThings_10 : decode cX8_judgeThings 10 = .ok (.aload_n 0, 1) := tb_at tbX8_judgeThings_n30_ok 6 rfl
theorem dX8_judgeThings_11 : decode cX8_judgeThings 11 = .ok (.aload_n 0, 1) := tb_at tbX8_judgeThings_n30_ok 7 rfl
theorem dX8_judgeThings_12 : decode cX8_judgeThings 12 = .ok (.getfield 17, 3) := tb_at tbX8_judgeThings_n30_ok 8 rfl
theorem dX8_judgeThings_15 : decode cX8_judgeThings 15 = .ok (.iload_n 2, 1) := tb_at tbX8_judgeThings_n30_ok 9 rfl
theorem dX8_judgeThings_16 : decode cX8_judgeThings 16 = .ok (.aaload, 1) := tb_at tbX8_judgeThings_n30_ok 10 rfl
theorem dX8_judgeThings_17 : decode cX8_judgeThings 17 = .ok (.invokevirtual 208, 3) := tb_at tbX8_judgeThings_n30_ok 11 rfl
theorem dX8_judgeThings_20 : decode cX8_judgeThings 20 = .ok (.istore_n 3, 1) := tb_at tbX8_judgeThings_n30_ok 12 rfl
theorem dX8_judgeThings_21 : decode cX8_judgeThings 21 = .ok (.iload_n 3, 1) := tb_at tbX8_judgeThings_n30_ok 13 rfl
theorem dX8_judgeThings_22 : decode cX8_judgeThings 22 = .ok (.iconst (-1), 1) := tb_at tbX8_judgeThings_n30_ok 14 rfl
theorem dX8_judgeThings_23 : decode cX8_judgeThings 23 = .ok (.if_icmp .eq 40, 3) := tb_at tbX8_judgeThings_n30_ok 15 rfl
theorem dX8_judgeThings_26 : decode cX8_judgeThings 26 = .ok (.aload_n 0, 1) := tb_at tbX8_judgeThings_n30_ok 16 rfl
theorem dX8_judgeThings_27 : decode cX8_judgeThings 27 = .ok (.getfield 58, 3) := tb_at tbX8_judgeThings_n30_ok 17 rfl
theorem dX8_judgeThings_30 : decode cX8_judgeThings 30 = .ok (.iload_n 2, 1) := tb_at tbX8_judgeThings_n30_ok 18 rfl
theorem dX8_judgeThings_31 : decode cX8_judgeThings 31 = .ok (.iload_n 1, 1) := tb_at tbX8_judgeThings_n30_ok 19 rfl
theorem dX8_judgeThings_32 : decode cX8_judgeThings 32 = .ok (.isub, 1) := tb_at tbX8_judgeThings_n30_ok 20 rfl
theorem dX8_judgeThings_33 : decode cX8_judgeThings 33 = .ok (.iconst (-1), 1) := tb_at tbX8_judgeThings_n30_ok 21 rfl
theorem dX8_judgeThings_34 : decode cX8_judgeThings 34 = .ok (.iload_n 3, 1) := tb_at tbX8_judgeThings_n30_ok 22 rfl
theorem dX8_judgeThings_35 : decode cX8_judgeThings 35 = .ok (.invokevirtual 227, 3) := tb_at tbX8_judgeThings_n30_ok 23 rfl
theorem dX8_judgeThings_38 : decode cX8_judgeThings 38 = .ok (.aload_n 0, 1) := tb_at tbX8_judgeThings_n30_ok 24 rfl
theorem dX8_judgeThings_39 : decode cX8_judgeThings 39 = .ok (.aload_n 0, 1) := tb_at tbX8_judgeThings_n30_ok 25 rfl
theorem dX8_judgeThings_40 : decode cX8_judgeThings 40 = .ok (.getfield 17, 3) := tb_at tbX8_judgeThings_n30_ok 26 rfl
theorem dX8_judgeThings_43 : decode cX8_judgeThings 43 = .ok (.iload_n 2, 1) := tb_at tbX8_judgeThings_n30_ok 27 rfl
theorem dX8_judgeThings_44 : decode cX8_judgeThings 44 = .ok (.aaload, 1) := tb_at tbX8_judgeThings_n30_ok 28 rfl
theorem dX8_judgeThings_45 : decode cX8_judgeThings 45 = .ok (.aload_n 0, 1) := tb_at tbX8_judgeThings_n30_ok 29 rfl
theorem dX8_judgeThings_46 : decode cX8_judgeThings 46 = .ok (.getfield 17, 3) := tb_at tbX8_judgeThings_n30_ok 30 rfl
theorem dX8_judgeThings_49 : decode cX8_judgeThings 49 = .ok (.iload_n 2, 1) := tb_at tbX8_judgeThings_n30_ok 31 rfl
theorem dX8_judgeThings_50 : decode cX8_judgeThings 50 = .ok (.aaload, 1) := tb_at tbX8_judgeThings_n30_ok 32 rfl
theorem dX8_judgeThings_51 : decode cX8_judgeThings 51 = .ok (.getfield 97, 3) := tb_at tbX8_judgeThings_n30_ok 33 rfl
theorem dX8_judgeThings_54 : decode cX8_judgeThings 54 = .ok (.getfield 118, 3) := tb_at tbX8_judgeThings_n30_ok 34 rfl
theorem dX8_judgeThings_57 : decode cX8_judgeThings 57 = .ok (.iload_n 3, 1) := tb_at tbX8_judgeThings_n30_ok 35 rfl
theorem dX8_judgeThings_58 : decode cX8_judgeThings 58 = .ok (.aaload, 1) := tb_at tbX8_judgeThings_n30_ok 36 rfl
theorem dX8_judgeThings_59 : decode cX8_judgeThings 59 = .ok (.invokevirtual 212, 3) := tb_at tbX8_judgeThings_n30_ok 37 rfl
theorem dX8_judgeThings_62 : decode cX8_judgeThings 62 = .ok (.ireturn, 1) := tb_at tbX8_judgeThings_n30_ok 38 rfl
theorem dX8_judgeThings_63 : decode cX8_judgeThings 63 = .ok (.iinc 2 1, 3) := tb_at tbX8_judgeThings_n30_ok 39 rfl
theorem dX8_judgeThings_66 : decode cX8_judgeThings 66 = .ok (.goto (-64), 3) := tb_at tbX8_judgeThings_n30_ok 40 rfl
theorem dX8_judgeThings_69 : decode cX8_judgeThings 69 = .ok (.iconst 0, 1) := tb_at tbX8_judgeThings_n30_ok 41 rfl
theorem dX8_judgeThings_70 : decode cX8_judgeThings 70 = .ok (.ireturn, 1) := tb_at tbX8_judgeThings_n30_ok 42 rfl
noncomputable def tbX9_init_n30 : List (Nat × Instr × Nat) := [(0, (.aload_n 0), 1), (1, (.invokespecial 1), 3), (4, (.aload_n 0), 1), (5, (.bipush 16), 2), (7, (.newarray .boolean), 2), (9, (.putfield 7), 3), (12, (.aload_n 0), 1), (13, (.bipush 8), 2), (15, (.newarray .int), 2), (17, (.putfield 13), 3), (20, (.aload_n 0), 1), (21, (.bipush 40), 2), (23, (.newarray .int), 2), (25, (.putfield 17), 3), (28, (.aload_n 0), 1), (29, (.bipush 40), 2), (31, (.newarray .int), 2), (33, (.putfield 20), 3), (36, (.aload_n 0), 1), (37, (.bipush 40), 2), (39, (.newarray .long), 2), (41, (.putfield 23), 3), (44, (.aload_n 0), 1), (45, (.bipush 40), 2), (47, (.newarray .boolean), 2), (49, (.putfield 27), 3), (52, (.aload_n 0), 1), (53, (.bipush 8), 2), (55, (.newarray .int), 2), (57, (.putfield 30), 3), (60, (.aload_n 0), 1), (61, (.bipush 32), 2), (63, (.newarray .int), 2), (65, (.putfield 33), 3), (68, (.aload_n 0), 1), (69, (.bipush 32), 2), (71, (.newarray .int), 2), (73, (.putfield 36), 3), (76, (.aload_n 0), 1), (77, (.bipush 32), 2), (79, (.newarray .int), 2), (81, (.putfield 39), 3), (84, (.aload_n 0), 1), (85, (.bipush 32), 2), (87, (.newarray .long), 2), (89, (.putfield 42), 3), (92, (.aload_n 0), 1), (93, (.bipush 30), 2), (95, (.newarray .int), 2), (97, (.putfield 45), 3), (100, (.aload_n 0), 1), (101, (.sipush 150), 3), (104, (.newarray .long), 2), (106, (.putfield 48), 3), (109, (.aload_n 0), 1), (110, (.sipush 400), 3), (113, (.newarray .int), 2), (115, (.putfield 51), 3), (118, (.aload_n 0), 1), (119, (.sipush 400), 3), (122, (.newarray .int), 2), (124, (.putfield 54), 3), (127, (.aload_n 0), 1), (128, (.sipush 4800), 3), (131, (.newarray .long), 2), (133, (.putfield 57), 3), (136, (.aload_n 0), 1), (137, (.sipush 400), 3), (140, (.newarray .boolean), 2), (142, (.putfield 60), 3), (145, (.aload_n 0), 1), (146, (.iconst 4), 1), (147, (.newarray .int), 2), (149, (.putfield 63), 3), (152, (.aload_n 0), 1), (153, (.bipush 80), 2), (155, (.newarray .int), 2), (157, (.putfield 66), 3), (160, (.aload_n 0), 1), (161, (.bipush 80), 2), (163, (.newarray .int), 2), (165, (.putfield 69), 3), (168, (.aload_n 0), 1), (169, (.bipush 80), 2), (171, (.newarray .int), 2), (173, (.putfield 72), 3), (176, (.aload_n 0), 1), (177, (.bipush 80), 2), (179, (.newarray .int), 2), (181, (.putfield 75), 3), (184, (.aload_n 0), 1), (185, (.bipush 80), 2), (187, (.newarray .long), 2), (189, (.putfield 78), 3), (192, (.aload_n 0), 1), (193, (.iconst 5), 1), (194, (.newarray .int), 2), (196, (.putfield 81), 3), (199, (.aload_n 0), 1), (200, (.sipush 150), 3), (203, (.newarray .int), 2), (205, (.putfield 84), 3), (208, (.aload_n 0), 1), (209, (.sipush 150), 3), (212, (.newarray .int), 2), (214, (.putfield 87), 3), (217, (.aload_n 0), 1), (218, (.sipush 750), 3), (221, (.newarray .int), 2), (223, (.putfield 90), 3), (226, (.aload_n 0), 1), (227, (.sipush 750), 3), (230, (.newarray .int), 2), (232, (.putfield 93), 3), (235, (.aload_n 0), 1), (236, (.sipush 750), 3), (239, (.newarray .long), 2), (241, (.putfield 96), 3), (244, (.aload_n 0), 1), (245, (.iconst 5), 1)]
theorem tbX9_init_n30_ok : ∀ q ∈ tbX9_init_n30, decode cX9_init q.1 = .ok q.2 := by decide +kernel
theorem dX9_init_0 : decode cX9_init 0 = .ok (.aload_n 0, 1) := tb_at tbX9_init_n30_ok 0 rfl
theorem dX9_init_1 : decode cX9_init 1 = .ok (.invokespecial 1, 3) := tb_at tbX9_init_n30_ok 1 rfl
theorem dX9_init_4 : decode cX9_init 4 = .ok (.aload_n 0, 1) := tb_at tbX9_init_n30_ok 2 rfl
theorem dX9_init_5 : decode cX9_init 5 = .ok (.bipush 16, 2) := tb_at tbX9_init_n30_ok 3 rfl
theorem dX9_init_7 : decode cX9_init 7 = .ok (.newarray .boolean, 2) := tb_at tbX9_init_n30_ok 4 rfl
theorem dX9_init_9 : decode cX9_init 9 = .ok (.putfield 7, 3) := tb_at tbX9_init_n30_ok 5 rfl
theorem dX9_init_12 : decode cX9_init 12 = .ok (.aload_n 0, 1) := tb_at tbX9_init_n30_ok 6 rfl
theorem dX9_init_13 : decode cX9_init 13 = .ok (.bipush 8, 2) := tb_at tbX9_init_n30_ok 7 rfl
theorem dX9_init_15 : decode cX9_init 15 = .ok (.newarray .int, 2) := tb_at tbX9_init_n30_ok 8 rfl
theorem dX9_init_17 : decode cX9_init 17 = .ok (.putfield 13, 3) := tb_at tbX9_init_n30_ok 9 rfl
theorem dX9_init_20 : decode cX9_init 20 = .ok (.aload_n 0, 1) := tb_at tbX9_init_n30_ok 10 rfl
theorem dX9_init_21 : decode cX9_init 21 = .ok (.bipush 40, 2) := tb_at tbX9_init_n30_ok 11 rfl
theorem dX9_init_23 : decode cX9_init 23 = .ok (.newarray .int, 2) := tb_at tbX9_init_n30_ok 12 rfl
theorem dX9_init_25 : decode cX9_init 25 = .ok (.putfield 17, 3) := tb_at tbX9_init_n30_ok 13 rfl
theorem dX9_init_28 : decode cX9_init 28 = .ok (.aload_n 0, 1) := tb_at tbX9_init_n30_ok 14 rfl
theorem dX9_init_29 : decode cX9_init 29 = .ok (.bipush 40, 2) := tb_at tbX9_init_n30_ok 15 rfl
theorem dX9_init_31 : decode cX9_init 31 = .ok (.newarray .int, 2) := tb_at tbX9_init_n30_ok 16 rfl
theorem dX9_init_33 : decode cX9_init 33 = .ok (.putfield 20, 3) := tb_at tbX9_init_n30_ok 17 rfl
theorem dX9_init_36 : decode cX9_init 36 = .ok (.aload_n 0, 1) := tb_at tbX9_init_n30_ok 18 rfl
theorem dX9_init_37 : decode cX9_init 37 = .ok (.bipush 40, 2) := tb_at tbX9_init_n30_ok 19 rfl
theorem dX9_init_39 : decode cX9_init 39 = .ok (.newarray .long, 2) := tb_at tbX9_init_n30_ok 20 rfl
theorem dX9_init_41 : decode cX9_init 41 = .ok (.putfield 23, 3) := tb_at tbX9_init_n30_ok 21 rfl
theorem dX9_init_44 : decode cX9_init 44 = .ok (.aload_n 0, 1) := tb_at tbX9_init_n30_ok 22 rfl
theorem dX9_init_45 : decode cX9_init 45 = .ok (.bipush 40, 2) := tb_at tbX9_init_n30_ok 23 rfl
theorem dX9_init_47 : decode cX9_init 47 = .ok (.newarray .boolean, 2) := tb_at tbX9_init_n30_ok 24 rfl
theorem dX9_init_49 : decode cX9_init 49 = .ok (.putfield 27, 3) := tb_at tbX9_init_n30_ok 25 rfl
theorem dX9_init_52 : decode cX9_init 52 = .ok (.aload_n 0, 1) := tb_at tbX9_init_n30_ok 26 rfl
theorem dX9_init_53 : decode cX9_init 53 = .ok (.bipush 8, 2) := tb_at tbX9_init_n30_ok 27 rfl
theorem dX9_init_55 : decode cX9_init 55 = .ok (.newarray .int, 2) := tb_at tbX9_init_n30_ok 28 rfl
theorem dX9_init_57 : decode cX9_init 57 = .ok (.putfield 30, 3) := tb_at tbX9_init_n30_ok 29 rfl
theorem dX9_init_60 : decode cX9_init 60 = .ok (.aload_n 0, 1) := tb_at tbX9_init_n30_ok 30 rfl
theorem dX9_init_61 : decode cX9_init 61 = .ok (.bipush 32, 2) := tb_at tbX9_init_n30_ok 31 rfl
theorem dX9_init_63 : decode cX9_init 63 = .ok (.newarray .int, 2) := tb_at tbX9_init_n30_ok 32 rfl
theorem dX9_init_65 : decode cX9_init 65 = .ok (.putfield 33, 3) := tb_at tbX9_init_n30_ok 33 rfl
theorem dX9_init_68 : decode cX9_init 68 = .ok (.aload_n 0, 1) := tb_at tbX9_init_n30_ok 34 rfl
theorem dX9_init_69 : decode cX9_init 69 = .ok (.bipush 32, 2) := tb_at tbX9_init_n30_ok 35 rfl
theorem dX9_init_71 : decode cX9_init 71 = .ok (.newarray .int, 2) := tb_at tbX9_init_n30_ok 36 rfl
theorem dX9_init_73 : decode cX9_init 73 = .ok (.putfield 36, 3) := tb_at tbX9_init_n30_ok 37 rfl
theorem dX9_init_76 : decode cX9_init 76 = .ok (.aload_n 0, 1) := tb_at tbX9_init_n30_ok 38 rfl
theorem dX9_init_77 : decode cX9_init 77 = .ok (.bipush 32, 2) := tb_at tbX9_init_n30_ok 39 rfl
theorem dX9_init_79 : decode cX9_init 79 = .ok (.newarray .int, 2) := tb_at tbX9_init_n30_ok 40 rfl
theorem dX9_init_81 : decode cX9_init 81 = .ok (.putfield 39, 3) := tb_at tbX9_init_n30_ok 41 rfl
theorem dX9_init_84 : decode cX9_init 84 = .ok (.aload_n 0, 1) := tb_at tbX9_init_n30_ok 42 rfl
theorem dX9_init_85 : decode cX9_init 85 = .ok (.bipush 32, 2) := tb_at tbX9_init_n30_ok 43 rfl
theorem dX9_init_87 : decode cX9_init 87 = .ok (.newarray .long, 2) := tb_at tbX9_init_n30_ok 44 rfl
theorem dX9_init_89 : decode cX9_init 89 = .ok (.putfield 42, 3) := tb_at tbX9_init_n30_ok 45 rfl
theorem dX9_init_92 : decode cX9_init 92 = .ok (.aload_n 0, 1) := tb_at tbX9_init_n30_ok 46 rfl
theorem dX9_init_93 : decode cX9_init 93 = .ok (.bipush 30, 2) := tb_at tbX9_init_n30_ok 47 rfl
theorem dX9_init_95 : decode cX9_init 95 = .ok (.newarray .int, 2) := tb_at tbX9_init_n30_ok 48 rfl
theorem dX9_init_97 : decode cX9_init 97 = .ok (.putfield 45, 3) := tb_at tbX9_init_n30_ok 49 rfl
theorem dX9_init_100 : decode cX9_init 100 = .ok (.aload_n 0, 1) := tb_at tbX9_init_n30_ok 50 rfl
theorem dX9_init_101 : decode cX9_init 101 = .ok (.sipush 150, 3) := tb_at tbX9_init_n30_ok 51 rfl
theorem dX9_init_104 : decode cX9_init 104 = .ok (.newarray .long, 2) := tb_at tbX9_init_n30_ok 52 rfl
theorem dX9_init_106 : decode cX9_init 106 = .ok (.putfield 48, 3) := tb_at tbX9_init_n30_ok 53 rfl
theorem dX9_init_109 : decode cX9_init 109 = .ok (.aload_n 0, 1) := tb_at tbX9_init_n30_ok 54 rfl
theorem dX9_init_110 : decode cX9_init 110 = .ok (.sipush 400, 3) := tb_at tbX9_init_n30_ok 55 rfl
theorem dX9_init_113 : decode cX9_init 113 = .ok (.newarray .int, 2) := tb_at tbX9_init_n30_ok 56 rfl
theorem dX9_init_115 : decode cX9_init 115 = .ok (.putfield 51, 3) := tb_at tbX9_init_n30_ok 57 rfl
theorem dX9_init_118 : decode cX9_init 118 = .ok (.aload_n 0, 1) := tb_at tbX9_init_n30_ok 58 rfl
theorem dX9_init_119 : decode cX9_init 119 = .ok (.sipush 400, 3) := tb_at tbX9_init_n30_ok 59 rfl
theorem dX9_init_122 : decode cX9_init 122 = .ok (.newarray .int, 2) := tb_at tbX9_init_n30_ok 60 rfl
theorem dX9_init_124 : decode cX9_init 124 = .ok (.putfield 54, 3) := tb_at tbX9_init_n30_ok 61 rfl
theorem dX9_init_127 : decode cX9_init 127 = .ok (.aload_n 0, 1) := tb_at tbX9_init_n30_ok 62 rfl
theorem dX9_init_128 : decode cX9_init 128 = .ok (.sipush 4800, 3) := tb_at tbX9_init_n30_ok 63 rfl
theorem dX9_init_131 : decode cX9_init 131 = .ok (.newarray .long, 2) := tb_at tbX9_init_n30_ok 64 rfl
theorem dX9_init_133 : decode cX9_init 133 = .ok (.putfield 57, 3) := tb_at tbX9_init_n30_ok 65 rfl
theorem dX9_init_136 : decode cX9_init 136 = .ok (.aload_n 0, 1) := tb_at tbX9_init_n30_ok 66 rfl
theorem dX9_init_137 : decode cX9_init 137 = .ok (.sipush 400, 3) := tb_at tbX9_init_n30_ok 67 rfl
theorem dX9_init_140 : decode cX9_init 140 = .ok (.newarray .boolean, 2) := tb_at tbX9_init_n30_ok 68 rfl
theorem dX9_init_142 : decode cX9_init 142 = .ok (.putfield 60, 3) := tb_at tbX9_init_n30_ok 69 rfl
theorem dX9_init_145 : decode cX9_init 145 = .ok (.aload_n 0, 1) := tb_at tbX9_init_n30_ok 70 rfl
theorem dX9_init_146 : decode cX9_init 146 = .ok (.iconst 4, 1) := tb_at tbX9_init_n30_ok 71 rfl
theorem dX9_init_147 : decode cX9_init 147 = .ok (.newarray .int, 2) := tb_at tbX9_init_n30_ok 72 rfl
theorem dX9_init_149 : decode cX9_init 149 = .ok (.putfield 63, 3) := tb_at tbX9_init_n30_ok 73 rfl
theorem dX9_init_152 : decode cX9_init 152 = .ok (.aload_n 0, 1) := tb_at tbX9_init_n30_ok 74 rfl
theorem dX9_init_153 : decode cX9_init 153 = .ok (.bipush 80, 2) := tb_at tbX9_init_n30_ok 75 rfl
theorem dX9_init_155 : decode cX9_init 155 = .ok (.newarray .int, 2) := tb_at tbX9_init_n30_ok 76 rfl
theorem dX9_init_157 : decode cX9_init 157 = .ok (.putfield 66, 3) := tb_at tbX9_init_n30_ok 77 rfl
theorem dX9_init_160 : decode cX9_init 160 = .ok (.aload_n 0, 1) := tb_at tbX9_init_n30_ok 78 rfl
theorem dX9_init_161 : decode cX9_init 161 = .ok (.bipush 80, 2) := tb_at tbX9_init_n30_ok 79 rfl
theorem dX9_init_163 : decode cX9_init 163 = .ok (.newarray .int, 2) := tb_at tbX9_init_n30_ok 80 rfl
theorem dX9_init_165 : decode cX9_init 165 = .ok (.putfield 69, 3) := tb_at tbX9_init_n30_ok 81 rfl
theorem dX9_init_168 : decode cX9_init 168 = .ok (.aload_n 0, 1) := tb_at tbX9_init_n30_ok 82 rfl
theorem dX9_init_169 : decode cX9_init 169 = .ok (.bipush 80, 2) := tb_at tbX9_init_n30_ok 83 rfl
theorem dX9_init_171 : decode cX9_init 171 = .ok (.newarray .int, 2) := tb_at tbX9_init_n30_ok 84 rfl
theorem dX9_init_173 : decode cX9_init 173 = .ok (.putfield 72, 3) := tb_at tbX9_init_n30_ok 85 rfl
theorem dX9_init_176 : decode cX9_init 176 = .ok (.aload_n 0, 1) := tb_at tbX9_init_n30_ok 86 rfl
theorem dX9_init_177 : decode cX9_init 177 = .ok (.bipush 80, 2) := tb_at tbX9_init_n30_ok 87 rfl
theorem dX9_init_179 : decode cX9_init 179 = .ok (.newarray .int, 2) := tb_at tbX9_init_n30_ok 88 rfl
theorem dX9_init_181 : decode cX9_init 181 = .ok (.putfield 75, 3) := tb_at tbX9_init_n30_ok 89 rfl
theorem dX9_init_184 : decode cX9_init 184 = .ok (.aload_n 0, 1) := tb_at tbX9_init_n30_ok 90 rfl
theorem dX9_init_185 : decode cX9_init 185 = .ok (.bipush 80, 2) := tb_at tbX9_init_n30_ok 91 rfl
theorem dX9_init_187 : decode cX9_init 187 = .ok (.newarray .long, 2) := tb_at tbX9_init_n30_ok 92 rfl
theorem dX9_init_189 : decode cX9_init 189 = .ok (.putfield 78, 3) := tb_at tbX9_init_n30_ok 93 rfl
theorem dX9_init_192 : decode cX9_init 192 = .ok (.aload_n 0, 1) := tb_at tbX9_init_n30_ok 94 rfl
theorem dX9_init_193 : decode cX9_init 193 = .ok (.iconst 5, 1) := tb_at tbX9_init_n30_ok 95 rfl
theorem dX9_init_194 : decode cX9_init 194 = .ok (.newarray .int, 2) := tb_at tbX9_init_n30_ok 96 rfl
theorem dX9_init_196 : decode cX9_init 196 = .ok (.putfield 81, 3) := tb_at tbX9_init_n30_ok 97 rfl
theorem dX9_init_199 : decode cX9_init 199 = .ok (.aload_n 0, 1) := tb_at tbX9_init_n30_ok 98 rfl
theorem dX9_init_200 : decode cX9_init 200 = .ok (.sipush 150, 3) := tb_at tbX9_init_n30_ok 99 rfl
theorem dX9_init_203 : decode cX9_init 203 = .ok (.newarray .int, 2) := tb_at tbX9_init_n30_ok 100 rfl
theorem dX9_init_205 : decode cX9_init 205 = .ok (.putfield 84, 3) := tb_at tbX9_init_n30_ok 101 rfl
theorem dX9_init_208 : decode cX9_init 208 = .ok (.aload_n 0, 1) := tb_at tbX9_init_n30_ok 102 rfl
theorem dX9_init_209 : decode cX9_init 209 = .ok (.sipush 150, 3) := tb_at tbX9_init_n30_ok 103 rfl
theorem dX9_init_212 : decode cX9_init 212 = .ok (.newarray .int, 2) := tb_at tbX9_init_n30_ok 104 rfl
theorem dX9_init_214 : decode cX9_init 214 = .ok (.putfield 87, 3) := tb_at tbX9_init_n30_ok 105 rfl
theorem dX9_init_217 : decode cX9_init 217 = .ok (.aload_n 0, 1) := tb_at tbX9_init_n30_ok 106 rfl
theorem dX9_init_218 : decode cX9_init 218 = .ok (.sipush 750, 3) := tb_at tbX9_init_n30_ok 107 rfl
theorem dX9_init_221 : decode cX9_init 221 = .ok (.newarray .int, 2) := tb_at tbX9_init_n30_ok 108 rfl
theorem dX9_init_223 : decode cX9_init 223 = .ok (.putfield 90, 3) := tb_at tbX9_init_n30_ok 109 rfl
theorem dX9_init_226 : decode cX9_init 226 = .ok (.aload_n 0, 1) := tb_at tbX9_init_n30_ok 110 rfl
theorem dX9_init_227 : decode cX9_init 227 = .ok (.sipush 750, 3) := tb_at tbX9_init_n30_ok 111 rfl
theorem dX9_init_230 : decode cX9_init 230 = .ok (.newarray .int, 2) := tb_at tbX9_init_n30_ok 112 rfl
theorem dX9_init_232 : decode cX9_init 232 = .ok (.putfield 93, 3) := tb_at tbX9_init_n30_ok 113 rfl
theorem dX9_init_235 : decode cX9_init 235 = .ok (.aload_n 0, 1) := tb_at tbX9_init_n30_ok 114 rfl
theorem dX9_init_236 : decode cX9_init 236 = .ok (.sipush 750, 3) := tb_at tbX9_init_n30_ok 115 rfl
theorem dX9_init_239 : decode cX9_init 239 = .ok (.newarray .long, 2) := tb_at tbX9_init_n30_ok 116 rfl
theorem dX9_init_241 : decode cX9_init 241 = .ok (.putfield 96, 3) := tb_at tbX9_init_n30_ok 117 rfl
theorem dX9_init_244 : decode cX9_init 244 = .ok (.aload_n 0, 1) := tb_at tbX9_init_n30_ok 118 rfl
theorem dX9_init_245 : decode cX9_init 245 = .ok (.iconst 5, 1) := tb_at tbX9_init_n30_ok 119 rfl
noncomputable def tbX9_init_n31 : List (Nat × Instr × Nat) := [(246, (.newarray .int), 2), (248, (.putfield 99), 3), (251, (.aload_n 0), 1), (252, (.sipush 750), 3), (255, (.newarray .int), 2), (257, (.putfield 102), 3), (260, (.aload_n 0), 1), (261, (.sipush 750), 3), (264, (.newarray .int), 2), (266, (.putfield 105), 3), (269, (.aload_n 0), 1), (270, (.sipush 9000), 3), (273, (.newarray .long), 2), (275, (.putfield 108), 3), (278, (.aload_n 0), 1), (279, (.bipush 30), 2), (281, (.newarray .int), 2), (283, (.putfield 111), 3), (286, (.aload_n 0), 1), (287, (.sipush 150), 3), (290, (.newarray .int), 2), (292, (.putfield 114), 3), (295, (.aload_n 0), 1), (296, (.bipush (-9)), 2), (298, (.putfield 117), 3), (301, (.aload_n 0), 1), (302, (.bipush (-9)), 2), (304, (.putfield 121), 3), (307, (.aload_n 0), 1), (308, (.bipush (-9)), 2), (310, (.putfield 124), 3), (313, (.aload_n 0), 1), (314, (.sipush 450), 3), (317, (.newarray .int), 2), (319, (.putfield 127), 3), (322, (.aload_n 0), 1), (323, (.bipush 30), 2), (325, (.newarray .int), 2), (327, (.putfield 130), 3), (330, (.aload_n 0), 1), (331, (.bipush 30), 2), (333, (.newarray .int), 2), (335, (.putfield 133), 3), (338, (.aload_n 0), 1), (339, (.sipush 400), 3), (342, (.newarray .int), 2), (344, (.putfield 136), 3), (347, (.aload_n 0), 1), (348, (.sipush 400), 3), (351, (.newarray .int), 2), (353, (.putfield 139), 3), (356, (.aload_n 0), 1), (357, (.bipush 30), 2), (359, (.newarray .int), 2), (361, (.putfield 142), 3), (364, .return_, 1)]
theorem tbX9_init_n31_ok : ∀ q ∈ tbX9_init_n31, decode cX9_init q.1 = .ok q.2 := by decide +kernel
theorem dX9_init_246 : decode cX9_init 246 = .ok (.newarray .int, 2) := tb_at tbX9_init_n31_ok 0 rfl
theorem dX9_init_248 : decode cX9_init 248 = .ok (.putfield 99, 3) := tb_at tbX9_init_n31_ok 1 rfl
theorem dX9_init_251 : decode cX9_init 251 = .ok (.aload_n 0, 1) := tb_at tbX9_init_n31_ok 2 rfl
theorem dX9_init_252 : decode cX9_init 252 = .ok (.sipush 750, 3) := tb_at tbX9_init_n31_ok 3 rfl
theorem dX9_init_255 : decode cX9_init 255 = .ok (.newarray .int, 2) := tb_at tbX9_init_n31_ok 4 rfl
theorem dX9_init_257 : decode cX9_init 257 = .ok (.putfield 102, 3) := tb_at tbX9_init_n31_ok 5 rfl
theorem dX9_init_260 : decode cX9_init 260 = .ok (.aload_n 0, 1) := tb_at tbX9_init_n31_ok 6 rfl
theorem dX9_init_261 : decode cX9_init 261 = .ok (.sipush 750, 3) := tb_at tbX9_init_n31_ok 7 rfl
theorem dX9_init_264 : decode cX9_init 264 = .ok (.newarray .int, 2) := tb_at tbX9_init_n31_ok 8 rfl
theorem dX9_init_266 : decode cX9_init 266 = .ok (.putfield 105, 3) := tb_at tbX9_init_n31_ok 9 rfl
theorem dX9_init_269 : decode cX9_init 269 = .ok (.aload_n 0, 1) := tb_at tbX9_init_n31_ok 10 rfl
theorem dX9_init_270 : decode cX9_init 270 = .ok (.sipush 9000, 3) := tb_at tbX9_init_n31_ok 11 rfl
theorem dX9_init_273 : decode cX9_init 273 = .ok (.newarray .long, 2) := tb_at tbX9_init_n31_ok 12 rfl
theorem dX9_init_275 : decode cX9_init 275 = .ok (.putfield 108, 3) := tb_at tbX9_init_n31_ok 13 rfl
theorem dX9_init_278 : decode cX9_init 278 = .ok (.aload_n 0, 1) := tb_at tbX9_init_n31_ok 14 rfl
theorem dX9_init_279 : decode cX9_init 279 = .ok (.bipush 30, 2) := tb_at tbX9_init_n31_ok 15 rfl
theorem dX9_init_281 : decode cX9_init 281 = .ok (.newarray .int, 2) := tb_at tbX9_init_n31_ok 16 rfl
theorem dX9_init_283 : decode cX9_init 283 = .ok (.putfield 111, 3) := tb_at tbX9_init_n31_ok 17 rfl
theorem dX9_init_286 : decode cX9_init 286 = .ok (.aload_n 0, 1) := tb_at tbX9_init_n31_ok 18 rfl
theorem dX9_init_287 : decode cX9_init 287 = .ok (.sipush 150, 3) := tb_at tbX9_init_n31_ok 19 rfl
theorem dX9_init_290 : decode cX9_init 290 = .ok (.newarray .int, 2) := tb_at tbX9_init_n31_ok 20 rfl
theorem dX9_init_292 : decode cX9_init 292 = .ok (.putfield 114, 3) := tb_at tbX9_init_n31_ok 21 rfl
theorem dX9_init_295 : decode cX9_init 295 = .ok (.aload_n 0, 1) := tb_at tbX9_init_n31_ok 22 rfl
theorem dX9_init_296 : decode cX9_init 296 = .ok (.bipush (-9), 2) := tb_at tbX9_init_n31_ok 23 rfl
theorem dX9_init_298 : decode cX9_init 298 = .ok (.putfield 117, 3) := tb_at tbX9_init_n31_ok 24 rfl
theorem dX9_init_301 : decode cX9_init 301 = .ok (.aload_n 0, 1) := tb_at tbX9_init_n31_ok 25 rfl
theorem dX9_init_302 : decode cX9_init 302 = .ok (.bipush (-9), 2) := tb_at tbX9_init_n31_ok 26 rfl
theorem dX9_init_304 : decode cX9_init 304 = .ok (.putfield 121, 3) := tb_at tbX9_init_n31_ok 27 rfl
theorem dX9_init_307 : decode cX9_init 307 = .ok (.aload_n 0, 1) := tb_at tbX9_init_n31_ok 28 rfl
theorem dX9_init_308 : decode cX9_init 308 = .ok (.bipush (-9), 2) := tb_at tbX9_init_n31_ok 29 rfl
theorem dX9_init_310 : decode cX9_init 310 = .ok (.putfield 124, 3) := tb_at tbX9_init_n31_ok 30 rfl
theorem dX9_init_313 : decode cX9_init 313 = .ok (.aload_n 0, 1) := tb_at tbX9_init_n31_ok 31 rfl
theorem dX9_init_314 : decode cX9_init 314 = .ok (.sipush 450, 3) := tb_at tbX9_init_n31_ok 32 rfl
theorem dX9_init_317 : decode cX9_init 317 = .ok (.newarray .int, 2) := tb_at tbX9_init_n31_ok 33 rfl
theorem dX9_init_319 : decode cX9_init 319 = .ok (.putfield 127, 3) := tb_at tbX9_init_n31_ok 34 rfl
theorem dX9_init_322 : decode cX9_init 322 = .ok (.aload_n 0, 1) := tb_at tbX9_init_n31_ok 35 rfl
theorem dX9_init_323 : decode cX9_init 323 = .ok (.bipush 30, 2) := tb_at tbX9_init_n31_ok 36 rfl
theorem dX9_init_325 : decode cX9_init 325 = .ok (.newarray .int, 2) := tb_at tbX9_init_n31_ok 37 rfl
theorem dX9_init_327 : decode cX9_init 327 = .ok (.putfield 130, 3) := tb_at tbX9_init_n31_ok 38 rfl
theorem dX9_init_330 : decode cX9_init 330 = .ok (.aload_n 0, 1) := tb_at tbX9_init_n31_ok 39 rfl
theorem dX9_init_331 : decode cX9_init 331 = .ok (.bipush 30, 2) := tb_at tbX9_init_n31_ok 40 rfl
theorem dX9_init_333 : decode cX9_init 333 = .ok (.newarray .int, 2) := tb_at tbX9_init_n31_ok 41 rfl
theorem dX9_init_335 : decode cX9_init 335 = .ok (.putfield 133, 3) := tb_at tbX9_init_n31_ok 42 rfl
theorem dX9_init_338 : decode cX9_init 338 = .ok (.aload_n 0, 1) := tb_at tbX9_init_n31_ok 43 rfl
theorem dX9_init_339 : decode cX9_init 339 = .ok (.sipush 400, 3) := tb_at tbX9_init_n31_ok 44 rfl
theorem dX9_init_342 : decode cX9_init 342 = .ok (.newarray .int, 2) := tb_at tbX9_init_n31_ok 45 rfl
theorem dX9_init_344 : decode cX9_init 344 = .ok (.putfield 136, 3) := tb_at tbX9_init_n31_ok 46 rfl
theorem dX9_init_347 : decode cX9_init 347 = .ok (.aload_n 0, 1) := tb_at tbX9_init_n31_ok 47 rfl
theorem dX9_init_348 : decode cX9_init 348 = .ok (.sipush 400, 3) := tb_at tbX9_init_n31_ok 48 rfl
theorem dX9_init_351 : decode cX9_init 351 = .ok (.newarray .int, 2) := tb_at tbX9_init_n31_ok 49 rfl
theorem dX9_init_353 : decode cX9_init 353 = .ok (.putfield 139, 3) := tb_at tbX9_init_n31_ok 50 rfl
theorem dX9_init_356 : decode cX9_init 356 = .ok (.aload_n 0, 1) := tb_at tbX9_init_n31_ok 51 rfl
theorem dX9_init_357 : decode cX9_init 357 = .ok (.bipush 30, 2) := tb_at tbX9_init_n31_ok 52 rfl
theorem dX9_init_359 : decode cX9_init 359 = .ok (.newarray .int, 2) := tb_at tbX9_init_n31_ok 53 rfl
theorem dX9_init_361 : decode cX9_init 361 = .ok (.putfield 142, 3) := tb_at tbX9_init_n31_ok 54 rfl
theorem dX9_init_364 : decode cX9_init 364 = .ok (.return_, 1) := tb_at tbX9_init_n31_ok 55 rfl
theorem dX9_thrown_0 : decode cX9_thrown 0 = .ok (.aload_n 0, 1) := by decide +kernel
theorem dX9_thrown_1 : decode cX9_thrown 1 = .ok (.getfield 145, 3) := by decide +kernel
theorem dX9_thrown_4 : decode cX9_thrown 4 = .ok (.ireturn, 1) := by decide +kernel
noncomputable def tbX9_isType_n30 : List (Nat × Instr × Nat) := [(0, (.iload_n 1), 1), (1, (.ifCond .lt 15), 3), (4, (.iload_n 1), 1), (5, (.aload_n 0), 1), (6, (.getfield 148), 3), (9, (.if_icmp .ge 7), 3), (12, (.iconst 1), 1), (13, (.goto 4), 3), (16, (.iconst 0), 1), (17, .ireturn, 1)]
theorem tbX9_isType_n30_ok : ∀ q ∈ tbX9_isType_n30, decode cX9_isType q.1 = .ok q.2 := by decide +kernel
theorem dX9_isType_0 : decode cX9_isType 0 = .ok (.iload_n 1, 1) := tb_at tbX9_isType_n30_ok 0 rfl
theorem dX9_isType_1 : decode cX9_isType 1 = .ok (.ifCond .lt 15, 3) := tb_at tbX9_isType_n30_ok 1 rfl
theorem dX9_isType_4 : decode cX9_isType 4 = .ok (.iload_n 1, 1) := tb_at tbX9_isType_n30_ok 2 rfl
theorem dX9_isType_5 : decode cX9_isType 5 = .ok (.aload_n 0, 1) := tb_at tbX9_isType_n30_ok 3 rfl
theorem dX9_isType_6 : decode cX9_isType 6 = .ok (.getfield 148, 3) := tb_at tbX9_isType_n30_ok 4 rfl
theorem dX9_isType_9 : decode cX9_isType 9 = .ok (.if_icmp .ge 7, 3) := tb_at tbX9_isType_n30_ok 5 rfl
theorem dX9_isType_12 : decode cX9_isType 12 = .ok (.iconst 1, 1) := tb_at tbX9_isType_n30_ok 6 rfl
theorem dX9_isType_13 : decode cX9_isType 13 = .ok (.goto 4, 3) := tb_at tbX9_isType_n30_ok 7 rfl
theorem dX9_isType_16 : decode cX9_isType 16 = .ok (.iconst 0, 1) := tb_at tbX9_isType_n30_ok 8 rfl
theorem dX9_isType_17 : decode cX9_isType 17 = .ok (.ireturn, 1) := tb_at tbX9_isType_n30_ok 9 rfl
noncomputable def tbX9_isThing_n30 : List (Nat × Instr × Nat) := [(0, (.iload_n 1), 1), (1, (.ifCond .lt 15), 3), (4, (.iload_n 1), 1), (5, (.aload_n 0), 1), (6, (.getfield 151), 3), (9, (.if_icmp .ge 7), 3), (12, (.iconst 1), 1), (13, (.goto 4), 3), (16, (.iconst 0), 1), (17, .ireturn, 1)]
theorem tbX9_isThing_n30_ok : ∀ q ∈ tbX9_isThing_n30, decode cX9_isThing q.1 = .ok q.2 := by decide +kernel
theorem dX9_isThing_0 : decode cX9_isThing 0 = .ok (.iload_n 1, 1) := tb_at tbX9_isThing_n30_ok 0 rfl
theorem dX9_isThing_1 : decode cX9_isThing 1 = .ok (.ifCond .lt 15, 3) := tb_at tbX9_isThing_n30_ok 1 rfl
theorem dX9_isThing_4 : decode cX9_isThing 4 = .ok (.iload_n 1, 1) := tb_at tbX9_isThing_n30_ok 2 rfl
theorem dX9_isThing_5 : decode cX9_isThing 5 = .ok (.aload_n 0, 1) := tb_at tbX9_isThing_n30_ok 3 rfl
theorem dX9_isThing_6 : decode cX9_isThing 6 = .ok (.getfield 151, 3) := tb_at tbX9_isThing_n30_ok 4 rfl
theorem dX9_isThing_9 : decode cX9_isThing 9 = .ok (.if_icmp .ge 7, 3) := tb_at tbX9_isThing_n30_ok 5 rfl
theorem dX9_isThing_12 : decode cX9_isThing 12 = .ok (.iconst 1, 1) := tb_at tbX9_isThing_n30_ok 6 rfl
theorem dX9_isThing_13 : decode cX9_isThing 13 = .ok (.goto 4, 3) := tb_at tbX9_isThing_n30_ok 7 rfl
theorem dX9_isThing_16 : decode cX9_isThing 16 = .ok (.iconst 0, 1) := tb_at tbX9_isThing_n30_ok 8 rfl
theorem dX9_isThing_17 : decode cX9_isThing 17 = .ok (.ireturn, 1) := tb_at tbX9_isThing_n30_ok 9 rfl
set_option maxRecDepth 20000 in
theorem ggX9_isField_X9_isThing : GoodIn wsX9_isField wsX9_isThing := goodIn_r _ [7, 8, 9, 10, 11, 12, 13, 14, 15, 16, 17, 18, 19, 20, 21, 22, 23, 24, 25, 26, 27, 28, 29, 30, 31, 32, 33, 34, 35, 36, 37, 38, 39, 40, 41, 42, 43, 44, 45, 46, 47, 48, 49, 50, 51, 52, 53, 54, 55, 56, 57, 58, 59] (by decide +kernel) (by decide +kernel)
set_option maxRecDepth 20000 in
theorem gX9_isField_X9_isThing : GoodIn wsX9_isField (wsV RX9 154 RX9 yX9_isThing wsX9_isThing) := goodIn_app (goodIn_of _ (by decide +kernel)) ggX9_isField_X9_isThing
noncomputable def tbX9_isField_n30 : List (Nat × Instr × Nat) := [(0, (.aload_n 0), 1), (1, (.iload_n 1), 1), (2, (.invokevirtual 154), 3), (5, (.ifCond .eq 26), 3), (8, (.iload_n 2), 1), (9, (.ifCond .lt 22), 3), (12, (.iload_n 2), 1), (13, (.aload_n 0), 1), (14, (.getfield 13), 3), (17, (.aload_n 0), 1), (18, (.getfield 45), 3), (21, (.iload_n 1), 1), (22, .iaload, 1), (23, .iaload, 1), (24, (.if_icmp .ge 7), 3), (27, (.iconst 1), 1), (28, (.goto 4), 3), (31, (.iconst 0), 1), (32, .ireturn, 1)]
theorem tbX9_isField_n30_ok : ∀ q ∈ tbX9_isField_n30, decode cX9_isField q.1 = .ok q.2 := by decide +kernel
theorem dX9_isField_0 : decode cX9_isField 0 = .ok (.aload_n 0, 1) := tb_at tbX9_isField_n30_ok 0 rfl
theorem dX9_isField_1 : decode cX9_isField 1 = .ok (.iload_n 1, 1) := tb_at tbX9_isField_n30_ok 1 rfl
theorem dX9_isField_2 : decode cX9_isField 2 = .ok (.invokevirtual 154, 3) := tb_at tbX9_isField_n30_ok 2 rfl
theorem dX9_isField_5 : decode cX9_isField 5 = .ok (.ifCond .eq 26, 3) := tb_at tbX9_isField_n30_ok 3 rfl
theorem dX9_isField_8 : decode cX9_isField 8 = .ok (.iload_n 2, 1) := tb_at tbX9_isField_n30_ok 4 rfl
theorem dX9_isField_9 : decode cX9_isField 9 = .ok (.ifCond .lt 22, 3) := tb_at tbX9_isField_n30_ok 5 rfl
theorem dX9_isField_12 : decode cX9_isField 12 = .ok (.iload_n 2, 1) := tb_at tbX9_isField_n30_ok 6 rfl
theorem dX9_isField_13 : decode cX9_isField 13 = .ok (.aload_n 0, 1) := tb_at tbX9_isField_n30_ok 7 rfl
theorem dX9_isField_14 : decode cX9_isField 14 = .ok (.getfield 13, 3) := tb_at tbX9_isField_n30_ok 8 rfl
theorem dX9_isField_17 : decode cX9_isField 17 = .ok (.aload_n 0, 1) := tb_at tbX9_isField_n30_ok 9 rfl
theorem dX9_isField_18 : decode cX9_isField 18 = .ok (.getfield 45, 3) := tb_at tbX9_isField_n30_ok 10 rfl
theorem dX9_isField_21 : decode cX9_isField 21 = .ok (.iload_n 1, 1) := tb_at tbX9_isField_n30_ok 11 rfl
theorem dX9_isField_22 : decode cX9_isField 22 = .ok (.iaload, 1) := tb_at tbX9_isField_n30_ok 12 rfl
theorem dX9_isField_23 : decode cX9_isField 23 = .ok (.iaload, 1) := tb_at tbX9_isField_n30_ok 13 rfl
theorem dX9_isField_24 : decode cX9_isField 24 = .ok (.if_icmp .ge 7, 3) := tb_at tbX9_isField_n30_ok 14 rfl
theorem dX9_isField_27 : decode cX9_isField 27 = .ok (.iconst 1, 1) := tb_at tbX9_isField_n30_ok 15 rfl
theorem dX9_isField_28 : decode cX9_isField 28 = .ok (.goto 4, 3) := tb_at tbX9_isField_n30_ok 16 rfl
theorem dX9_isField_31 : decode cX9_isField 31 = .ok (.iconst 0, 1) := tb_at tbX9_isField_n30_ok 17 rfl
theorem dX9_isField_32 : decode cX9_isField 32 = .ok (.ireturn, 1) := tb_at tbX9_isField_n30_ok 18 rfl
noncomputable def tbX9_lane_n30 : List (Nat × Instr × Nat) := [(0, (.aload_n 0), 1), (1, (.getfield 20), 3), (4, (.iconst 5), 1), (5, (.aload_n 0), 1), (6, (.getfield 45), 3), (9, (.iload_n 1), 1), (10, .iaload, 1), (11, .imul, 1), (12, (.iload_n 2), 1), (13, .iadd, 1), (14, .iaload, 1), (15, .ireturn, 1)]
theorem tbX9_lane_n30_ok : ∀ q ∈ tbX9_lane_n30, decode cX9_lane q.1 = .ok q.2 := by decide +kernel
theorem dX9_lane_0 : decode cX9_lane 0 = .ok (.aload_n 0, 1) := tb_at tbX9_lane_n30_ok 0 rfl
theorem dX9_lane_1 : decode cX9_lane 1 = .ok (.getfield 20, 3) := tb_at tbX9_lane_n30_ok 1 rfl
theorem dX9_lane_4 : decode cX9_lane 4 = .ok (.iconst 5, 1) := tb_at tbX9_lane_n30_ok 2 rfl
theorem dX9_lane_5 : decode cX9_lane 5 = .ok (.aload_n 0, 1) := tb_at tbX9_lane_n30_ok 3 rfl
theorem dX9_lane_6 : decode cX9_lane 6 = .ok (.getfield 45, 3) := tb_at tbX9_lane_n30_ok 4 rfl
theorem dX9_lane_9 : decode cX9_lane 9 = .ok (.iload_n 1, 1) := tb_at tbX9_lane_n30_ok 5 rfl
theorem dX9_lane_10 : decode cX9_lane 10 = .ok (.iaload, 1) := tb_at tbX9_lane_n30_ok 6 rfl
theorem dX9_lane_11 : decode cX9_lane 11 = .ok (.imul, 1) := tb_at tbX9_lane_n30_ok 7 rfl
theorem dX9_lane_12 : decode cX9_lane 12 = .ok (.iload_n 2, 1) := tb_at tbX9_lane_n30_ok 8 rfl
theorem dX9_lane_13 : decode cX9_lane 13 = .ok (.iadd, 1) := tb_at tbX9_lane_n30_ok 9 rfl
theorem dX9_lane_14 : decode cX9_lane 14 = .ok (.iaload, 1) := tb_at tbX9_lane_n30_ok 10 rfl
theorem dX9_lane_15 : decode cX9_lane 15 = .ok (.ireturn, 1) := tb_at tbX9_lane_n30_ok 11 rfl
noncomputable def tbX9_named_n30 : List (Nat × Instr × Nat) := [(0, (.iconst 0), 1), (1, (.istore_n 3), 1), (2, (.iload_n 3), 1), (3, (.aload_n 0), 1), (4, (.getfield 13), 3), (7, (.iload_n 1), 1), (8, .iaload, 1), (9, (.if_icmp .ge 25), 3), (12, (.aload_n 0), 1), (13, (.getfield 17), 3), (16, (.iconst 5), 1), (17, (.iload_n 1), 1), (18, .imul, 1), (19, (.iload_n 3), 1), (20, .iadd, 1), (21, .iaload, 1), (22, (.iload_n 2), 1), (23, (.if_icmp .ne 5), 3), (26, (.iload_n 3), 1), (27, .ireturn, 1), (28, (.iinc 3 1), 3), (31, (.goto (-29)), 3), (34, (.iconst (-1)), 1), (35, .ireturn, 1)]
theorem tbX9_named_n30_ok : ∀ q ∈ tbX9_named_n30, decode cX9_named q.1 = .ok q.2 := by decide +kernel
theorem dX9_named_0 : decode cX9_named 0 = .ok (.iconst 0, 1) := tb_at tbX9_named_n30_ok 0 rfl
theorem dX9_named_1 : decode cX9_named 1 = .ok (.istore_n 3, 1) := tb_at tbX9_named_n30_ok 1 rfl
theorem dX9_named_2 : decode cX9_named 2 = .ok (.iload_n 3, 1) := tb_at tbX9_named_n30_ok 2 rfl
theorem dX9_named_3 : decode cX9_named 3 = .ok (.aload_n 0, 1) := tb_at tbX9_named_n30_ok 3 rfl
theorem dX9_named_4 : decode cX9_named 4 = .ok (.getfield 13, 3) := tb_at tbX9_named_n30_ok 4 rfl
theorem dX9_named_7 : decode cX9_named 7 = .ok (.iload_n 1, 1) := tb_at tbX9_named_n30_ok 5 rfl
theorem dX9_named_8 : decode cX9_named 8 = .ok (.iaload, 1) := tb_at tbX9_named_n30_ok 6 rfl
theorem dX9_named_9 : decode cX9_named 9 = .ok (.if_icmp .ge 25, 3) := tb_at tbX9_named_n30_ok 7 rfl
theorem dX9_named_12 : decode cX9_named 12 = .ok (.aload_n 0, 1) := tb_at tbX9_named_n30_ok 8 rfl
theorem dX9_named_13 : decode cX9_named 13 = .ok (.getfield 17, 3) := tb_at tbX9_named_n30_ok 9 rfl
theorem dX9_named_16 : decode cX9_named 16 = .ok (.iconst 5, 1) := tb_at tbX9_named_n30_ok 10 rfl
theorem dX9_named_17 : decode cX9_named 17 = .ok (.iload_n 1, 1) := tb_at tbX9_named_n30_ok 11 rfl
theorem dX9_named_18 : decode cX9_named 18 = .ok (.imul, 1) := tb_at tbX9_named_n30_ok 12 rfl
theorem dX9_named_19 : decode cX9_named 19 = .ok (.iload_n 3, 1) := tb_at tbX9_named_n30_ok 13 rfl
theorem dX9_named_20 : decode cX9_named 20 = .ok (.iadd, 1) := tb_at tbX9_named_n30_ok 14 rfl
theorem dX9_named_21 : decode cX9_named 21 = .ok (.iaload, 1) := tb_at tbX9_named_n30_ok 15 rfl
theorem dX9_named_22 : decode cX9_named 22 = .ok (.iload_n 2, 1) := tb_at tbX9_named_n30_ok 16 rfl
theorem dX9_named_23 : decode cX9_named 23 = .ok (.if_icmp .ne 5, 3) := tb_at tbX9_named_n30_ok 17 rfl
theorem dX9_named_26 : decode cX9_named 26 = .ok (.iload_n 3, 1) := tb_at tbX9_named_n30_ok 18 rfl
theorem dX9_named_27 : decode cX9_named 27 = .ok (.ireturn, 1) := tb_at tbX9_named_n30_ok 19 rfl
theorem dX9_named_28 : decode cX9_named 28 = .ok (.iinc 3 1, 3) := tb_at tbX9_named_n30_ok 20 rfl
theorem dX9_named_31 : decode cX9_named 31 = .ok (.goto (-29), 3) := tb_at tbX9_named_n30_ok 21 rfl
theorem dX9_named_34 : decode cX9_named 34 = .ok (.iconst (-1), 1) := tb_at tbX9_named_n30_ok 22 rfl
theorem dX9_named_35 : decode cX9_named 35 = .ok (.ireturn, 1) := tb_at tbX9_named_n30_ok 23 rfl
noncomputable def tbX9_type_n30 : List (Nat × Instr × Nat) := [(0, (.aload_n 0), 1), (1, (.iconst 0), 1), (2, (.putfield 145), 3), (5, (.aload_n 0), 1), (6, (.getfield 148), 3), (9, (.bipush 8), 2), (11, (.if_icmp .ne 6), 3), (14, (.bipush (-4)), 2), (16, .ireturn, 1), (17, (.aload_n 0), 1), (18, (.getfield 13), 3), (21, (.aload_n 0), 1), (22, (.getfield 148), 3), (25, (.iconst 0), 1), (26, .iastore, 1), (27, (.aload_n 0), 1), (28, (.getfield 30), 3), (31, (.aload_n 0), 1), (32, (.getfield 148), 3), (35, (.iconst 0), 1), (36, .iastore, 1), (37, (.aload_n 0), 1), (38, .dup, 1), (39, (.getfield 148), 3), (42, (.iconst 1), 1), (43, .iadd, 1), (44, (.putfield 148), 3), (47, (.aload_n 0), 1), (48, (.getfield 148), 3), (51, (.iconst 1), 1), (52, .isub, 1), (53, .ireturn, 1)]
theorem tbX9_type_n30_ok : ∀ q ∈ tbX9_type_n30, decode cX9_type q.1 = .ok q.2 := by decide +kernel
theorem dX9_type_0 : decode cX9_type 0 = .ok (.aload_n 0, 1) := tb_at tbX9_type_n30_ok 0 rfl
theorem dX9_type_1 : decode cX9_type 1 = .ok (.iconst 0, 1) := tb_at tbX9_type_n30_ok 1 rfl
theorem dX9_type_2 : decode cX9_type 2 = .ok (.putfield 145, 3) := tb_at tbX9_type_n30_ok 2 rfl
theorem dX9_type_5 : decode cX9_type 5 = .ok (.aload_n 0, 1) := tb_at tbX9_type_n30_ok 3 rfl
theorem dX9_type_6 : decode cX9_type 6 = .ok (.getfield 148, 3) := tb_at tbX9_type_n30_ok 4 rfl
theorem dX9_type_9 : decode cX9_type 9 = .ok (.bipush 8, 2) := tb_at tbX9_type_n30_ok 5 rfl
theorem dX9_type_11 : decode cX9_type 11 = .ok (.if_icmp .ne 6, 3) := tb_at tbX9_type_n30_ok 6 rfl
theorem dX9_type_14 : decode cX9_type 14 = .ok (.bipush (-4), 2) := tb_at tbX9_type_n30_ok 7 rfl
theorem dX9_type_16 : decode cX9_type 16 = .ok (.ireturn, 1) := tb_at tbX9_type_n30_ok 8 rfl
theorem dX9_type_17 : decode cX9_type 17 = .ok (.aload_n 0, 1) := tb_at tbX9_type_n30_ok 9 rfl
theorem dX9_type_18 : decode cX9_type 18 = .ok (.getfield 13, 3) := tb_at tbX9_type_n30_ok 10 rfl
theorem dX9_type_21 : decode cX9_type 21 = .ok (.aload_n 0, 1) := tb_at tbX9_type_n30_ok 11 rfl
theorem dX9_type_22 : decode cX9_type 22 = .ok (.getfield 148, 3) := tb_at tbX9_type_n30_ok 12 rfl
theorem dX9_type_25 : decode cX9_type 25 = .ok (.iconst 0, 1) := tb_at tbX9_type_n30_ok 13 rfl
theorem dX9_type_26 : decode cX9_type 26 = .ok (.iastore, 1) := tb_at tbX9_type_n30_ok 14 rfl
theorem dX9_type_27 : decode cX9_type 27 = .ok (.aload_n 0, 1) := tb_at tbX9_type_n30_ok 15 rfl
theorem dX9_type_28 : decode cX9_type 28 = .ok (.getfield 30, 3) := tb_at tbX9_type_n30_ok 16 rfl
theorem dX9_type_31 : decode cX9_type 31 = .ok (.aload_n 0, 1) := tb_at tbX9_type_n30_ok 17 rfl
theorem dX9_type_32 : decode cX9_type 32 = .ok (.getfield 148, 3) := tb_at tbX9_type_n30_ok 18 rfl
theorem dX9_type_35 : decode cX9_type 35 = .ok (.iconst 0, 1) := tb_at tbX9_type_n30_ok 19 rfl
theorem dX9_type_36 : decode cX9_type 36 = .ok (.iastore, 1) := tb_at tbX9_type_n30_ok 20 rfl
theorem dX9_type_37 : decode cX9_type 37 = .ok (.aload_n 0, 1) := tb_at tbX9_type_n30_ok 21 rfl
theorem dX9_type_38 : decode cX9_type 38 = .ok (.dup, 1) := tb_at tbX9_type_n30_ok 22 rfl
theorem dX9_type_39 : decode cX9_type 39 = .ok (.getfield 148, 3) := tb_at tbX9_type_n30_ok 23 rfl
theorem dX9_type_42 : decode cX9_type 42 = .ok (.iconst 1, 1) := tb_at tbX9_type_n30_ok 24 rfl
theorem dX9_type_43 : decode cX9_type 43 = .ok (.iadd, 1) := tb_at tbX9_type_n30_ok 25 rfl
theorem dX9_type_44 : decode cX9_type 44 = .ok (.putfield 148, 3) := tb_at tbX9_type_n30_ok 26 rfl
theorem dX9_type_47 : decode cX9_type 47 = .ok (.aload_n 0, 1) := tb_at tbX9_type_n30_ok 27 rfl
theorem dX9_type_48 : decode cX9_type 48 = .ok (.getfield 148, 3) := tb_at tbX9_type_n30_ok 28 rfl
theorem dX9_type_51 : decode cX9_type 51 = .ok (.iconst 1, 1) := tb_at tbX9_type_n30_ok 29 rfl
theorem dX9_type_52 : decode cX9_type 52 = .ok (.isub, 1) := tb_at tbX9_type_n30_ok 30 rfl
theorem dX9_type_53 : decode cX9_type 53 = .ok (.ireturn, 1) := tb_at tbX9_type_n30_ok 31 rfl
set_option maxRecDepth 20000 in
theorem ggX9_field_X9_isType : GoodIn wsX9_field wsX9_isType := goodIn_r _ [16, 17, 22, 23, 24, 25, 26, 27, 28, 29, 30, 31, 32, 33, 34, 35, 36, 37, 38, 39, 40, 41, 42, 43, 44, 45, 46, 47, 48, 49, 50, 51, 52, 53, 54, 55, 56, 57, 58, 59, 60, 61, 62, 63, 64, 65, 66, 67, 68, 69, 70, 71, 72] (by decide +kernel) (by decide +kernel)
set_option maxRecDepth 20000 in
theorem gX9_field_X9_isType : GoodIn wsX9_field (wsV RX9 158 RX9 yX9_isType wsX9_isType) := goodIn_app (goodIn_of _ (by decide +kernel)) ggX9_field_X9_isType
set_option maxRecDepth 20000 in
theorem ggX9_field_X9_named : GoodIn wsX9_field wsX9_named := goodIn_r _ [21, 3, 4, 22, 23, 24, 25, 26, 27, 28, 29, 30, 31, 32, 33, 34, 35, 36, 37, 38, 39, 40, 41, 42, 43, 44, 45, 46, 47, 48, 49, 50, 51, 52, 53, 54, 55, 56, 57, 58, 59, 60, 61, 62, 63, 64, 65, 66, 67, 68, 69, 70, 71, 72] (by decide +kernel) (by decide +kernel)
set_option maxRecDepth 20000 in
theorem gX9_field_X9_named : GoodIn wsX9_field (wsV RX9 161 RX9 yX9_named wsX9_named) := goodIn_app (goodIn_of _ (by decide +kernel)) ggX9_field_X9_named
noncomputable def tbX9_field_n30 : List (Nat × Instr × Nat) := [(0, (.aload_n 0), 1), (1, (.iconst 0), 1), (2, (.putfield 145), 3), (5, (.aload_n 0), 1), (6, (.iload_n 1), 1), (7, (.invokevirtual 158), 3), (10, (.ifCond .ne 5), 3), (13, (.iconst (-1)), 1), (14, .ireturn, 1), (15, (.iload_n 2), 1), (16, (.ifCond .lt 27), 3), (19, (.iload_n 2), 1), (20, (.bipush 19), 2), (22, (.if_icmp .gt 21), 3), (25, (.aload_n 0), 1), (26, (.iload_n 1), 1), (27, (.iload_n 2), 1), (28, (.invokevirtual 161), 3), (31, (.ifCond .ge 12), 3), (34, (.iload_n 3), 1), (35, (.ifCond .lt 8), 3), (38, (.iload_n 3), 1), (39, (.iconst 5), 1), (40, (.if_icmp .le 6), 3), (43, (.bipush (-2)), 2), (45, .ireturn, 1), (46, (.aload_n 0), 1), (47, (.getfield 165), 3), (50, (.ifCond .le 6), 3), (53, (.bipush (-3)), 2), (55, .ireturn, 1), (56, (.aload_n 0), 1), (57, (.getfield 13), 3), (60, (.iload_n 1), 1), (61, .iaload, 1), (62, (.iconst 5), 1), (63, (.if_icmp .ne 6), 3), (66, (.bipush (-4)), 2), (68, .ireturn, 1), (69, (.aload_n 0), 1), (70, (.getfield 13), 3), (73, (.iload_n 1), 1), (74, .iaload, 1), (75, (.istore 6), 2), (77, (.aload_n 0), 1), (78, (.getfield 17), 3), (81, (.iconst 5), 1), (82, (.iload_n 1), 1), (83, .imul, 1), (84, (.iload 6), 2), (86, .iadd, 1), (87, (.iload_n 2), 1), (88, .iastore, 1), (89, (.aload_n 0), 1), (90, (.getfield 20), 3), (93, (.iconst 5), 1), (94, (.iload_n 1), 1), (95, .imul, 1), (96, (.iload 6), 2), (98, .iadd, 1), (99, (.iload_n 3), 1), (100, .iastore, 1), (101, (.aload_n 0), 1), (102, (.getfield 23), 3), (105, (.iconst 5), 1), (106, (.iload_n 1), 1), (107, .imul, 1), (108, (.iload 6), 2), (110, .iadd, 1), (111, (.iload_n 3), 1), (112, (.ifCond .ne 8), 3), (115, (.lload 4), 2), (117, (.goto 6), 3), (120, (.ldc2_w 168), 3), (123, .lastore, 1), (124, (.aload_n 0), 1), (125, (.getfield 27), 3), (128, (.iconst 5), 1), (129, (.iload_n 1), 1), (130, .imul, 1), (131, (.iload 6), 2), (133, .iadd, 1), (134, (.iconst 0), 1), (135, .bastore, 1), (136, (.aload_n 0), 1), (137, (.getfield 13), 3), (140, (.iload_n 1), 1), (141, .dup2, 1), (142, .iaload, 1), (143, (.iconst 1), 1), (144, .iadd, 1), (145, .iastore, 1), (146, (.iconst 0), 1), (147, (.istore 7), 2), (149, (.iload 7), 2), (151, (.aload_n 0), 1), (152, (.getfield 151), 3), (155, (.if_icmp .ge 43), 3), (158, (.aload_n 0), 1), (159, (.getfield 45), 3), (162, (.iload 7), 2), (164, .iaload, 1), (165, (.iload_n 1), 1), (166, (.if_icmp .ne 26), 3), (169, (.aload_n 0), 1), (170, (.getfield 48), 3), (173, (.iconst 5), 1), (174, (.iload 7), 2), (176, .imul, 1), (177, (.iload 6), 2), (179, .iadd, 1), (180, (.aload_n 0), 1), (181, (.getfield 23), 3), (184, (.iconst 5), 1), (185, (.iload_n 1), 1), (186, .imul, 1), (187, (.iload 6), 2), (189, .iadd, 1), (190, .laload, 1), (191, .lastore, 1)]
theorem tbX9_field_n30_ok : ∀ q ∈ tbX9_field_n30, decode cX9_field q.1 = .ok q.2 := by decide +kernel
theorem dX9_field_0 : decode cX9_field 0 = .ok (.aload_n 0, 1) := tb_at tbX9_field_n30_ok 0 rfl
theorem dX9_field_1 : decode cX9_field 1 = .ok (.iconst 0, 1) := tb_at tbX9_field_n30_ok 1 rfl
theorem dX9_field_2 : decode cX9_field 2 = .ok (.putfield 145, 3) := tb_at tbX9_field_n30_ok 2 rfl
theorem dX9_field_5 : decode cX9_field 5 = .ok (.aload_n 0, 1) := tb_at tbX9_field_n30_ok 3 rfl
theorem dX9_field_6 : decode cX9_field 6 = .ok (.iload_n 1, 1) := tb_at tbX9_field_n30_ok 4 rfl
theorem dX9_field_7 : decode cX9_field 7 = .ok (.invokevirtual 158, 3) := tb_at tbX9_field_n30_ok 5 rfl
theorem dX9_field_10 : decode cX9_field 10 = .ok (.ifCond .ne 5, 3) := tb_at tbX9_field_n30_ok 6 rfl
theorem dX9_field_13 : decode cX9_field 13 = .ok (.iconst (-1), 1) := tb_at tbX9_field_n30_ok 7 rfl
theorem dX9_field_14 : decode cX9_field 14 = .ok (.ireturn, 1) := tb_at tbX9_field_n30_ok 8 rfl
theorem dX9_field_15 : decode cX9_field 15 = .ok (.iload_n 2, 1) := tb_at tbX9_field_n30_ok 9 rfl
theorem dX9_field_16 : decode cX9_field 16 = .ok (.ifCond .lt 27, 3) := tb_at tbX9_field_n30_ok 10 rfl
theorem dX9_field_19 : decode cX9_field 19 = .ok (.iload_n 2, 1) := tb_at tbX9_field_n30_ok 11 rfl
theorem dX9_field_20 : decode cX9_field 20 = .ok (.bipush 19, 2) := tb_at tbX9_field_n30_ok 12 rfl
theorem dX9_field_22 : decode cX9_field 22 = .ok (.if_icmp .gt 21, 3) := tb_at tbX9_field_n30_ok 13 rfl
theorem dX9_field_25 : decode cX9_field 25 = .ok (.aload_n 0, 1) := tb_at tbX9_field_n30_ok 14 rfl
theorem dX9_field_26 : decode cX9_field 26 = .ok (.iload_n 1, 1) := tb_at tbX9_field_n30_ok 15 rfl
theorem dX9_field_27 : decode cX9_field 27 = .ok (.iload_n 2, 1) := tb_at tbX9_field_n30_ok 16 rfl
theorem dX9_field_28 : decode cX9_field 28 = .ok (.invokevirtual 161, 3) := tb_at tbX9_field_n30_ok 17 rfl
theorem dX9_field_31 : decode cX9_field 31 = .ok (.ifCond .ge 12, 3) := tb_at tbX9_field_n30_ok 18 rfl
theorem dX9_field_34 : decode cX9_field 34 = .ok (.iload_n 3, 1) := tb_at tbX9_field_n30_ok 19 rfl
theorem dX9_field_35 : decode cX9_field 35 = .ok (.ifCond .lt 8, 3) := tb_at tbX9_field_n30_ok 20 rfl
theorem dX9_field_38 : decode cX9_field 38 = .ok (.iload_n 3, 1) := tb_at tbX9_field_n30_ok 21 rfl
theorem dX9_field_39 : decode cX9_field 39 = .ok (.iconst 5, 1) := tb_at tbX9_field_n30_ok 22 rfl
theorem dX9_field_40 : decode cX9_field 40 = .ok (.if_icmp .le 6, 3) := tb_at tbX9_field_n30_ok 23 rfl
theorem dX9_field_43 : decode cX9_field 43 = .ok (.bipush (-2), 2) := tb_at tbX9_field_n30_ok 24 rfl
theorem dX9_field_45 : decode cX9_field 45 = .ok (.ireturn, 1) := tb_at tbX9_field_n30_ok 25 rfl
theorem dX9_field_46 : decode cX9_field 46 = .ok (.aload_n 0, 1) := tb_at tbX9_field_n30_ok 26 rfl
theorem dX9_field_47 : decode cX9_field 47 = .ok (.getfield 165, 3) := tb_at tbX9_field_n30_ok 27 rfl
theorem dX9_field_50 : decode cX9_field 50 = .ok (.ifCond .le 6, 3) := tb_at tbX9_field_n30_ok 28 rfl
theorem dX9_field_53 : decode cX9_field 53 = .ok (.bipush (-3), 2) := tb_at tbX9_field_n30_ok 29 rfl
theorem dX9_field_55 : decode cX9_field 55 = .ok (.ireturn, 1) := tb_at tbX9_field_n30_ok 30 rfl
theorem dX9_field_56 : decode cX9_field 56 = .ok (.aload_n 0, 1) := tb_at tbX9_field_n30_ok 31 rfl
theorem dX9_field_57 : decode cX9_field 57 = .ok (.getfield 13, 3) := tb_at tbX9_field_n30_ok 32 rfl
theorem dX9_field_60 : decode cX9_field 60 = .ok (.iload_n 1, 1) := tb_at tbX9_field_n30_ok 33 rfl
theorem dX9_field_61 : decode cX9_field 61 = .ok (.iaload, 1) := tb_at tbX9_field_n30_ok 34 rfl
theorem dX9_field_62 : decode cX9_field 62 = .ok (.iconst 5, 1) := tb_at tbX9_field_n30_ok 35 rfl
theorem dX9_field_63 : decode cX9_field 63 = .ok (.if_icmp .ne 6, 3) := tb_at tbX9_field_n30_ok 36 rfl
theorem dX9_field_66 : decode cX9_field 66 = .ok (.bipush (-4), 2) := tb_at tbX9_field_n30_ok 37 rfl
theorem dX9_field_68 : decode cX9_field 68 = .ok (.ireturn, 1) := tb_at tbX9_field_n30_ok 38 rfl
theorem dX9_field_69 : decode cX9_field 69 = .ok (.aload_n 0, 1) := tb_at tbX9_field_n30_ok 39 rfl
theorem dX9_field_70 : decode cX9_field 70 = .ok (.getfield 13, 3) := tb_at tbX9_field_n30_ok 40 rfl
theorem dX9_field_73 : decode cX9_field 73 = .ok (.iload_n 1, 1) := tb_at tbX9_field_n30_ok 41 rfl
theorem dX9_field_74 : decode cX9_field 74 = .ok (.iaload, 1) := tb_at tbX9_field_n30_ok 42 rfl
theorem dX9_field_75 : decode cX9_field 75 = .ok (.istore 6, 2) := tb_at tbX9_field_n30_ok 43 rfl
theorem dX9_field_77 : decode cX9_field 77 = .ok (.aload_n 0, 1) := tb_at tbX9_field_n30_ok 44 rfl
theorem dX9_field_78 : decode cX9_field 78 = .ok (.getfield 17, 3) := tb_at tbX9_field_n30_ok 45 rfl
theorem dX9_field_81 : decode cX9_field 81 = .ok (.iconst 5, 1) := tb_at tbX9_field_n30_ok 46 rfl
theorem dX9_field_82 : decode cX9_field 82 = .ok (.iload_n 1, 1) := tb_at tbX9_field_n30_ok 47 rfl
theorem dX9_field_83 : decode cX9_field 83 = .ok (.imul, 1) := tb_at tbX9_field_n30_ok 48 rfl
theorem dX9_field_84 : decode cX9_field 84 = .ok (.iload 6, 2) := tb_at tbX9_field_n30_ok 49 rfl
theorem dX9_field_86 : decode cX9_field 86 = .ok (.iadd, 1) := tb_at tbX9_field_n30_ok 50 rfl
theorem dX9_field_87 : decode cX9_field 87 = .ok (.iload_n 2, 1) := tb_at tbX9_field_n30_ok 51 rfl
theorem dX9_field_88 : decode cX9_field 88 = .ok (.iastore, 1) := tb_at tbX9_field_n30_ok 52 rfl
theorem dX9_field_89 : decode cX9_field 89 = .ok (.aload_n 0, 1) := tb_at tbX9_field_n30_ok 53 rfl
theorem dX9_field_90 : decode cX9_field 90 = .ok (.getfield 20, 3) := tb_at tbX9_field_n30_ok 54 rfl
theorem dX9_field_93 : decode cX9_field 93 = .ok (.iconst 5, 1) := tb_at tbX9_field_n30_ok 55 rfl
theorem dX9_field_94 : decode cX9_field 94 = .ok (.iload_n 1, 1) := tb_at tbX9_field_n30_ok 56 rfl
theorem dX9_field_95 : decode cX9_field 95 = .ok (.imul, 1) := tb_at tbX9_field_n30_ok 57 rfl
theorem dX9_field_96 : decode cX9_field 96 = .ok (.iload 6, 2) := tb_at tbX9_field_n30_ok 58 rfl
theorem dX9_field_98 : decode cX9_field 98 = .ok (.iadd, 1) := tb_at tbX9_field_n30_ok 59 rfl
theorem dX9_field_99 : decode cX9_field 99 = .ok (.iload_n 3, 1) := tb_at tbX9_field_n30_ok 60 rfl
theorem dX9_field_100 : decode cX9_field 100 = .ok (.iastore, 1) := tb_at tbX9_field_n30_ok 61 rfl
theorem dX9_field_101 : decode cX9_field 101 = .ok (.aload_n 0, 1) := tb_at tbX9_field_n30_ok 62 rfl
theorem dX9_field_102 : decode cX9_field 102 = .ok (.getfield 23, 3) := tb_at tbX9_field_n30_ok 63 rfl
theorem dX9_field_105 : decode cX9_field 105 = .ok (.iconst 5, 1) := tb_at tbX9_field_n30_ok 64 rfl
theorem dX9_field_106 : decode cX9_field 106 = .ok (.iload_n 1, 1) := tb_at tbX9_field_n30_ok 65 rfl
theorem dX9_field_107 : decode cX9_field 107 = .ok (.imul, 1) := tb_at tbX9_field_n30_ok 66 rfl
theorem dX9_field_108 : decode cX9_field 108 = .ok (.iload 6, 2) := tb_at tbX9_field_n30_ok 67 rfl
theorem dX9_field_110 : decode cX9_field 110 = .ok (.iadd, 1) := tb_at tbX9_field_n30_ok 68 rfl
theorem dX9_field_111 : decode cX9_field 111 = .ok (.iload_n 3, 1) := tb_at tbX9_field_n30_ok 69 rfl
theorem dX9_field_112 : decode cX9_field 112 = .ok (.ifCond .ne 8, 3) := tb_at tbX9_field_n30_ok 70 rfl
theorem dX9_field_115 : decode cX9_field 115 = .ok (.lload 4, 2) := tb_at tbX9_field_n30_ok 71 rfl
theorem dX9_field_117 : decode cX9_field 117 = .ok (.goto 6, 3) := tb_at tbX9_field_n30_ok 72 rfl
theorem dX9_field_120 : decode cX9_field 120 = .ok (.ldc2_w 168, 3) := tb_at tbX9_field_n30_ok 73 rfl
theorem dX9_field_123 : decode cX9_field 123 = .ok (.lastore, 1) := tb_at tbX9_field_n30_ok 74 rfl
theorem dX9_field_124 : decode cX9_field 124 = .ok (.aload_n 0, 1) := tb_at tbX9_field_n30_ok 75 rfl
theorem dX9_field_125 : decode cX9_field 125 = .ok (.getfield 27, 3) := tb_at tbX9_field_n30_ok 76 rfl
theorem dX9_field_128 : decode cX9_field 128 = .ok (.iconst 5, 1) := tb_at tbX9_field_n30_ok 77 rfl
theorem dX9_field_129 : decode cX9_field 129 = .ok (.iload_n 1, 1) := tb_at tbX9_field_n30_ok 78 rfl
theorem dX9_field_130 : decode cX9_field 130 = .ok (.imul, 1) := tb_at tbX9_field_n30_ok 79 rfl
theorem dX9_field_131 : decode cX9_field 131 = .ok (.iload 6, 2) := tb_at tbX9_field_n30_ok 80 rfl
theorem dX9_field_133 : decode cX9_field 133 = .ok (.iadd, 1) := tb_at tbX9_field_n30_ok 81 rfl
theorem dX9_field_134 : decode cX9_field 134 = .ok (.iconst 0, 1) := tb_at tbX9_field_n30_ok 82 rfl
theorem dX9_field_135 : decode cX9_field 135 = .ok (.bastore, 1) := tb_at tbX9_field_n30_ok 83 rfl
theorem dX9_field_136 : decode cX9_field 136 = .ok (.aload_n 0, 1) := tb_at tbX9_field_n30_ok 84 rfl
theorem dX9_field_137 : decode cX9_field 137 = .ok (.getfield 13, 3) := tb_at tbX9_field_n30_ok 85 rfl
theorem dX9_field_140 : decode cX9_field 140 = .ok (.iload_n 1, 1) := tb_at tbX9_field_n30_ok 86 rfl
theorem dX9_field_141 : decode cX9_field 141 = .ok (.dup2, 1) := tb_at tbX9_field_n30_ok 87 rfl
theorem dX9_field_142 : decode cX9_field 142 = .ok (.iaload, 1) := tb_at tbX9_field_n30_ok 88 rfl
theorem dX9_field_143 : decode cX9_field 143 = .ok (.iconst 1, 1) := tb_at tbX9_field_n30_ok 89 rfl
theorem dX9_field_144 : decode cX9_field 144 = .ok (.iadd, 1) := tb_at tbX9_field_n30_ok 90 rfl
theorem dX9_field_145 : decode cX9_field 145 = .ok (.iastore, 1) := tb_at tbX9_field_n30_ok 91 rfl
theorem dX9_field_146 : decode cX9_field 146 = .ok (.iconst 0, 1) := tb_at tbX9_field_n30_ok 92 rfl
theorem dX9_field_147 : decode cX9_field 147 = .ok (.istore 7, 2) := tb_at tbX9_field_n30_ok 93 rfl
theorem dX9_field_149 : decode cX9_field 149 = .ok (.iload 7, 2) := tb_at tbX9_field_n30_ok 94 rfl
theorem dX9_field_151 : decode cX9_field 151 = .ok (.aload_n 0, 1) := tb_at tbX9_field_n30_ok 95 rfl
theorem dX9_field_152 : decode cX9_field 152 = .ok (.getfield 151, 3) := tb_at tbX9_field_n30_ok 96 rfl
theorem dX9_field_155 : decode cX9_field 155 = .ok (.if_icmp .ge 43, 3) := tb_at tbX9_field_n30_ok 97 rfl
theorem dX9_field_158 : decode cX9_field 158 = .ok (.aload_n 0, 1) := tb_at tbX9_field_n30_ok 98 rfl
theorem dX9_field_159 : decode cX9_field 159 = .ok (.getfield 45, 3) := tb_at tbX9_field_n30_ok 99 rfl
theorem dX9_field_162 : decode cX9_field 162 = .ok (.iload 7, 2) := tb_at tbX9_field_n30_ok 100 rfl
theorem dX9_field_164 : decode cX9_field 164 = .ok (.iaload, 1) := tb_at tbX9_field_n30_ok 101 rfl
theorem dX9_field_165 : decode cX9_field 165 = .ok (.iload_n 1, 1) := tb_at tbX9_field_n30_ok 102 rfl
theorem dX9_field_166 : decode cX9_field 166 = .ok (.if_icmp .ne 26, 3) := tb_at tbX9_field_n30_ok 103 rfl
theorem dX9_field_169 : decode cX9_field 169 = .ok (.aload_n 0, 1) := tb_at tbX9_field_n30_ok 104 rfl
theorem dX9_field_170 : decode cX9_field 170 = .ok (.getfield 48, 3) := tb_at tbX9_field_n30_ok 105 rfl
theorem dX9_field_173 : decode cX9_field 173 = .ok (.iconst 5, 1) := tb_at tbX9_field_n30_ok 106 rfl
theorem dX9_field_174 : decode cX9_field 174 = .ok (.iload 7, 2) := tb_at tbX9_field_n30_ok 107 rfl
theorem dX9_field_176 : decode cX9_field 176 = .ok (.imul, 1) := tb_at tbX9_field_n30_ok 108 rfl
theorem dX9_field_177 : decode cX9_field 177 = .ok (.iload 6, 2) := tb_at tbX9_field_n30_ok 109 rfl
theorem dX9_field_179 : decode cX9_field 179 = .ok (.iadd, 1) := tb_at tbX9_field_n30_ok 110 rfl
theorem dX9_field_180 : decode cX9_field 180 = .ok (.aload_n 0, 1) := tb_at tbX9_field_n30_ok 111 rfl
theorem dX9_field_181 : decode cX9_field 181 = .ok (.getfield 23, 3) := tb_at tbX9_field_n30_ok 112 rfl
theorem dX9_field_184 : decode cX9_field 184 = .ok (.iconst 5, 1) := tb_at tbX9_field_n30_ok 113 rfl
theorem dX9_field_185 : decode cX9_field 185 = .ok (.iload_n 1, 1) := tb_at tbX9_field_n30_ok 114 rfl
theorem dX9_field_186 : decode cX9_field 186 = .ok (.imul, 1) := tb_at tbX9_field_n30_ok 115 rfl
theorem dX9_field_187 : decode cX9_field 187 = .ok (.iload 6, 2) := tb_at tbX9_field_n30_ok 116 rfl
theorem dX9_field_189 : decode cX9_field 189 = .ok (.iadd, 1) := tb_at tbX9_field_n30_ok 117 rfl
theorem dX9_field_190 : decode cX9_field 190 = .ok (.laload, 1) := tb_at tbX9_field_n30_ok 118 rfl
theorem dX9_field_191 : decode cX9_field 191 = .ok (.lastore, 1) := tb_at tbX9_field_n30_ok 119 rfl
noncomputable def tbX9_field_n31 : List (Nat × Instr × Nat) := [(192, (.iinc 7 1), 3), (195, (.goto (-46)), 3), (198, (.iload 6), 2), (200, .ireturn, 1)]
theorem tbX9_field_n31_ok : ∀ q ∈ tbX9_field_n31, decode cX9_field q.1 = .ok q.2 := by decide +kernel
theorem dX9_field_192 : decode cX9_field 192 = .ok (.iinc 7 1, 3) := tb_at tbX9_field_n31_ok 0 rfl
theorem dX9_field_195 : decode cX9_field 195 = .ok (.goto (-46), 3) := tb_at tbX9_field_n31_ok 1 rfl
theorem dX9_field_198 : decode cX9_field 198 = .ok (.iload 6, 2) := tb_at tbX9_field_n31_ok 2 rfl
theorem dX9_field_200 : decode cX9_field 200 = .ok (.ireturn, 1) := tb_at tbX9_field_n31_ok 3 rfl
set_option maxRecDepth 20000 in
theorem ggX9_drop_X9_isType : GoodIn wsX9_drop wsX9_isType := goodIn_r _ [15, 16, 17, 18, 19, 20, 21, 22, 23, 24, 25, 26, 27, 28, 29, 30, 31, 32, 33, 34, 35, 36, 37, 38, 39, 40, 41, 42, 43, 44, 45, 46, 47, 48, 49, 50, 51, 52, 53, 54, 55, 56, 57, 58, 59, 60, 61, 62, 63, 64, 65, 66, 67] (by decide +kernel) (by decide +kernel)
set_option maxRecDepth 20000 in
theorem gX9_drop_X9_isType : GoodIn wsX9_drop (wsV RX9 158 RX9 yX9_isType wsX9_isType) := goodIn_app (goodIn_of _ (by decide +kernel)) ggX9_drop_X9_isType
noncomputable def tbX9_drop_n30 : List (Nat × Instr × Nat) := [(0, (.aload_n 0), 1), (1, (.iconst 0), 1), (2, (.putfield 145), 3), (5, (.aload_n 0), 1), (6, (.iload_n 1), 1), (7, (.invokevirtual 158), 3), (10, (.ifCond .eq 17), 3), (13, (.iload_n 2), 1), (14, (.ifCond .lt 13), 3), (17, (.iload_n 2), 1), (18, (.aload_n 0), 1), (19, (.getfield 13), 3), (22, (.iload_n 1), 1), (23, .iaload, 1), (24, (.if_icmp .lt 5), 3), (27, (.iconst (-1)), 1), (28, .ireturn, 1), (29, (.aload_n 0), 1), (30, (.getfield 165), 3), (33, (.ifCond .le 6), 3), (36, (.bipush (-3)), 2), (38, .ireturn, 1), (39, (.iload_n 2), 1), (40, (.istore_n 3), 1), (41, (.iload_n 3), 1), (42, (.iconst 1), 1), (43, .iadd, 1), (44, (.aload_n 0), 1), (45, (.getfield 13), 3), (48, (.iload_n 1), 1), (49, .iaload, 1), (50, (.if_icmp .ge 164), 3), (53, (.aload_n 0), 1), (54, (.getfield 17), 3), (57, (.iconst 5), 1), (58, (.iload_n 1), 1), (59, .imul, 1), (60, (.iload_n 3), 1), (61, .iadd, 1), (62, (.aload_n 0), 1), (63, (.getfield 17), 3), (66, (.iconst 5), 1), (67, (.iload_n 1), 1), (68, .imul, 1), (69, (.iload_n 3), 1), (70, .iadd, 1), (71, (.iconst 1), 1), (72, .iadd, 1), (73, .iaload, 1), (74, .iastore, 1), (75, (.aload_n 0), 1), (76, (.getfield 20), 3), (79, (.iconst 5), 1), (80, (.iload_n 1), 1), (81, .imul, 1), (82, (.iload_n 3), 1), (83, .iadd, 1), (84, (.aload_n 0), 1), (85, (.getfield 20), 3), (88, (.iconst 5), 1), (89, (.iload_n 1), 1), (90, .imul, 1), (91, (.iload_n 3), 1), (92, .iadd, 1), (93, (.iconst 1), 1), (94, .iadd, 1), (95, .iaload, 1), (96, .iastore, 1), (97, (.aload_n 0), 1), (98, (.getfield 23), 3), (101, (.iconst 5), 1), (102, (.iload_n 1), 1), (103, .imul, 1), (104, (.iload_n 3), 1), (105, .iadd, 1), (106, (.aload_n 0), 1), (107, (.getfield 23), 3), (110, (.iconst 5), 1), (111, (.iload_n 1), 1), (112, .imul, 1), (113, (.iload_n 3), 1), (114, .iadd, 1), (115, (.iconst 1), 1), (116, .iadd, 1), (117, .laload, 1), (118, .lastore, 1), (119, (.aload_n 0), 1), (120, (.getfield 27), 3), (123, (.iconst 5), 1), (124, (.iload_n 1), 1), (125, .imul, 1), (126, (.iload_n 3), 1), (127, .iadd, 1), (128, (.aload_n 0), 1), (129, (.getfield 27), 3), (132, (.iconst 5), 1), (133, (.iload_n 1), 1), (134, .imul, 1), (135, (.iload_n 3), 1), (136, .iadd, 1), (137, (.iconst 1), 1), (138, .iadd, 1), (139, .baload, 1), (140, .bastore, 1), (141, (.iconst 0), 1), (142, (.istore 4), 2), (144, (.iload 4), 2), (146, (.aload_n 0), 1), (147, (.getfield 151), 3), (150, (.if_icmp .ge 58), 3), (153, (.aload_n 0), 1), (154, (.getfield 48), 3), (157, (.iconst 5), 1), (158, (.iload 4), 2), (160, .imul, 1), (161, (.iload_n 3), 1), (162, .iadd, 1), (163, (.aload_n 0), 1), (164, (.getfield 45), 3), (167, (.iload 4), 2)]
theorem tbX9_drop_n30_ok : ∀ q ∈ tbX9_drop_n30, decode cX9_drop q.1 = .ok q.2 := by decide +kernel
theorem dX9_drop_0 : decode cX9_drop 0 = .ok (.aload_n 0, 1) := tb_at tbX9_drop_n30_ok 0 rfl
theorem dX9_drop_1 : decode cX9_drop 1 = .ok (.iconst 0, 1) := tb_at tbX9_drop_n30_ok 1 rfl
theorem dX9_drop_2 : decode cX9_drop 2 = .ok (.putfield 145, 3) := tb_at tbX9_drop_n30_ok 2 rfl
theorem dX9_drop_5 : decode cX9_drop 5 = .ok (.aload_n 0, 1) := tb_at tbX9_drop_n30_ok 3 rfl
theorem dX9_drop_6 : decode cX9_drop 6 = .ok (.iload_n 1, 1) := tb_at tbX9_drop_n30_ok 4 rfl
theorem dX9_drop_7 : decode cX9_drop 7 = .ok (.invokevirtual 158, 3) := tb_at tbX9_drop_n30_ok 5 rfl
theorem dX9_drop_10 : decode cX9_drop 10 = .ok (.ifCond .eq 17, 3) := tb_at tbX9_drop_n30_ok 6 rfl
theorem dX9_drop_13 : decode cX9_drop 13 = .ok (.iload_n 2, 1) := tb_at tbX9_drop_n30_ok 7 rfl
theorem dX9_drop_14 : decode cX9_drop 14 = .ok (.ifCond .lt 13, 3) := tb_at tbX9_drop_n30_ok 8 rfl
theorem dX9_drop_17 : decode cX9_drop 17 = .ok (.iload_n 2, 1) := tb_at tbX9_drop_n30_ok 9 rfl
theorem dX9_drop_18 : decode cX9_drop 18 = .ok (.aload_n 0, 1) := tb_at tbX9_drop_n30_ok 10 rfl
theorem dX9_drop_19 : decode cX9_drop 19 = .ok (.getfield 13, 3) := tb_at tbX9_drop_n30_ok 11 rfl
theorem dX9_drop_22 : decode cX9_drop 22 = .ok (.iload_n 1, 1) := tb_at tbX9_drop_n30_ok 12 rfl
theorem dX9_drop_23 : decode cX9_drop 23 = .ok (.iaload, 1) := tb_at tbX9_drop_n30_ok 13 rfl
theorem dX9_drop_24 : decode cX9_drop 24 = .ok (.if_icmp .lt 5, 3) := tb_at tbX9_drop_n30_ok 14 rfl
theorem dX9_drop_27 : decode cX9_drop 27 = .ok (.iconst (-1), 1) := tb_at tbX9_drop_n30_ok 15 rfl
theorem dX9_drop_28 : decode cX9_drop 28 = .ok (.ireturn, 1) := tb_at tbX9_drop_n30_ok 16 rfl
theorem dX9_drop_29 : decode cX9_drop 29 = .ok (.aload_n 0, 1) := tb_at tbX9_drop_n30_ok 17 rfl
theorem dX9_drop_30 : decode cX9_drop 30 = .ok (.getfield 165, 3) := tb_at tbX9_drop_n30_ok 18 rfl
theorem dX9_drop_33 : decode cX9_drop 33 = .ok (.ifCond .le 6, 3) := tb_at tbX9_drop_n30_ok 19 rfl
theorem dX9_drop_36 : decode cX9_drop 36 = .ok (.bipush (-3), 2) := tb_at tbX9_drop_n30_ok 20 rfl
theorem dX9_drop_38 : decode cX9_drop 38 = .ok (.ireturn, 1) := tb_at tbX9_drop_n30_ok 21 rfl
theorem dX9_drop_39 : decode cX9_drop 39 = .ok (.iload_n 2, 1) := tb_at tbX9_drop_n30_ok 22 rfl
theorem dX9_drop_40 : decode cX9_drop 40 = .ok (.istore_n 3, 1) := tb_at tbX9_drop_n30_ok 23 rfl
theorem dX9_drop_41 : decode cX9_drop 41 = .ok (.iload_n 3, 1) := tb_at tbX9_drop_n30_ok 24 rfl
theorem dX9_drop_42 : decode cX9_drop 42 = .ok (.iconst 1, 1) := tb_at tbX9_drop_n30_ok 25 rfl
theorem dX9_drop_43 : decode cX9_drop 43 = .ok (.iadd, 1) := tb_at tbX9_drop_n30_ok 26 rfl
theorem dX9_drop_44 : decode cX9_drop 44 = .ok (.aload_n 0, 1) := tb_at tbX9_drop_n30_ok 27 rfl
theorem dX9_drop_45 : decode cX9_drop 45 = .ok (.getfield 13, 3) := tb_at tbX9_drop_n30_ok 28 rfl
theorem dX9_drop_48 : decode cX9_drop 48 = .ok (.iload_n 1, 1) := tb_at tbX9_drop_n30_ok 29 rfl
theorem dX9_drop_49 : decode cX9_drop 49 = .ok (.iaload, 1) := tb_at tbX9_drop_n30_ok 30 rfl
theorem dX9_drop_50 : decode cX9_drop 50 = .ok (.if_icmp .ge 164, 3) := tb_at tbX9_drop_n30_ok 31 rfl
theorem dX9_drop_53 : decode cX9_drop 53 = .ok (.aload_n 0, 1) := tb_at tbX9_drop_n30_ok 32 rfl
theorem dX9_drop_54 : decode cX9_drop 54 = .ok (.getfield 17, 3) := tb_at tbX9_drop_n30_ok 33 rfl
theorem dX9_drop_57 : decode cX9_drop 57 = .ok (.iconst 5, 1) := tb_at tbX9_drop_n30_ok 34 rfl
theorem dX9_drop_58 : decode cX9_drop 58 = .ok (.iload_n 1, 1) := tb_at tbX9_drop_n30_ok 35 rfl
theorem dX9_drop_59 : decode cX9_drop 59 = .ok (.imul, 1) := tb_at tbX9_drop_n30_ok 36 rfl
theorem dX9_drop_60 : decode cX9_drop 60 = .ok (.iload_n 3, 1) := tb_at tbX9_drop_n30_ok 37 rfl
theorem dX9_drop_61 : decode cX9_drop 61 = .ok (.iadd, 1) := tb_at tbX9_drop_n30_ok 38 rfl
theorem dX9_drop_62 : decode cX9_drop 62 = .ok (.aload_n 0, 1) := tb_at tbX9_drop_n30_ok 39 rfl
theorem dX9_drop_63 : decode cX9_drop 63 = .ok (.getfield 17, 3) := tb_at tbX9_drop_n30_ok 40 rfl
theorem dX9_drop_66 : decode cX9_drop 66 = .ok (.iconst 5, 1) := tb_at tbX9_drop_n30_ok 41 rfl
theorem dX9_drop_67 : decode cX9_drop 67 = .ok (.iload_n 1, 1) := tb_at tbX9_drop_n30_ok 42 rfl
theorem dX9_drop_68 : decode cX9_drop 68 = .ok (.imul, 1) := tb_at tbX9_drop_n30_ok 43 rfl
theorem dX9_drop_69 : decode cX9_drop 69 = .ok (.iload_n 3, 1) := tb_at tbX9_drop_n30_ok 44 rfl
theorem dX9_drop_70 : decode cX9_drop 70 = .ok (.iadd, 1) := tb_at tbX9_drop_n30_ok 45 rfl
theorem dX9_drop_71 : decode cX9_drop 71 = .ok (.iconst 1, 1) := tb_at tbX9_drop_n30_ok 46 rfl
theorem dX9_drop_72 : decode cX9_drop 72 = .ok (.iadd, 1) := tb_at tbX9_drop_n30_ok 47 rfl
theorem dX9_drop_73 : decode cX9_drop 73 = .ok (.iaload, 1) := tb_at tbX9_drop_n30_ok 48 rfl
theorem dX9_drop_74 : decode cX9_drop 74 = .ok (.iastore, 1) := tb_at tbX9_drop_n30_ok 49 rfl
theorem dX9_drop_75 : decode cX9_drop 75 = .ok (.aload_n 0, 1) := tb_at tbX9_drop_n30_ok 50 rfl
theorem dX9_drop_76 : decode cX9_drop 76 = .ok (.getfield 20, 3) := tb_at tbX9_drop_n30_ok 51 rfl
theorem dX9_drop_79 : decode cX9_drop 79 = .ok (.iconst 5, 1) := tb_at tbX9_drop_n30_ok 52 rfl
theorem dX9_drop_80 : decode cX9_drop 80 = .ok (.iload_n 1, 1) := tb_at tbX9_drop_n30_ok 53 rfl
theorem dX9_drop_81 : decode cX9_drop 81 = .ok (.imul, 1) := tb_at tbX9_drop_n30_ok 54 rfl
theorem dX9_drop_82 : decode cX9_drop 82 = .ok (.iload_n 3, 1) := tb_at tbX9_drop_n30_ok 55 rfl
theorem dX9_drop_83 : decode cX9_drop 83 = .ok (.iadd, 1) := tb_at tbX9_drop_n30_ok 56 rfl
theorem dX9_drop_84 : decode cX9_drop 84 = .ok (.aload_n 0, 1) := tb_at tbX9_drop_n30_ok 57 rfl
theorem dX9_drop_85 : decode cX9_drop 85 = .ok (.getfield 20, 3) := tb_at tbX9_drop_n30_ok 58 rfl
theorem dX9_drop_88 : decode cX9_drop 88 = .ok (.iconst 5, 1) := tb_at tbX9_drop_n30_ok 59 rfl
theorem dX9_drop_89 : decode cX9_drop 89 = .ok (.iload_n 1, 1) := tb_at tbX9_drop_n30_ok 60 rfl
theorem dX9_drop_90 : decode cX9_drop 90 = .ok (.imul, 1) := tb_at tbX9_drop_n30_ok 61 rfl
theorem dX9_drop_91 : decode cX9_drop 91 = .ok (.iload_n 3, 1) := tb_at tbX9_drop_n30_ok 62 rfl
theorem dX9_drop_92 : decode cX9_drop 92 = .ok (.iadd, 1) := tb_at tbX9_drop_n30_ok 63 rfl
theorem dX9_drop_93 : decode cX9_drop 93 = .ok (.iconst 1, 1) := tb_at tbX9_drop_n30_ok 64 rfl
theorem dX9_drop_94 : decode cX9_drop 94 = .ok (.iadd, 1) := tb_at tbX9_drop_n30_ok 65 rfl
theorem dX9_drop_95 : decode cX9_drop 95 = .ok (.iaload, 1) := tb_at tbX9_drop_n30_ok 66 rfl
theorem dX9_drop_96 : decode cX9_drop 96 = .ok (.iastore, 1) := tb_at tbX9_drop_n30_ok 67 rfl
theorem dX9_drop_97 : decode cX9_drop 97 = .ok (.aload_n 0, 1) := tb_at tbX9_drop_n30_ok 68 rfl
theorem dX9_drop_98 : decode cX9_drop 98 = .ok (.getfield 23, 3) := tb_at tbX9_drop_n30_ok 69 rfl
theorem dX9_drop_101 : decode cX9_drop 101 = .ok (.iconst 5, 1) := tb_at tbX9_drop_n30_ok 70 rfl
theorem dX9_drop_102 : decode cX9_drop 102 = .ok (.iload_n 1, 1) := tb_at tbX9_drop_n30_ok 71 rfl
theorem dX9_drop_103 : decode cX9_drop 103 = .ok (.imul, 1) := tb_at tbX9_drop_n30_ok 72 rfl
theorem dX9_drop_104 : decode cX9_drop 104 = .ok (.iload_n 3, 1) := tb_at tbX9_drop_n30_ok 73 rfl
theorem dX9_drop_105 : decode cX9_drop 105 = .ok (.iadd, 1) := tb_at tbX9_drop_n30_ok 74 rfl
theorem dX9_drop_106 : decode cX9_drop 106 = .ok (.aload_n 0, 1) := tb_at tbX9_drop_n30_ok 75 rfl
theorem dX9_drop_107 : decode cX9_drop 107 = .ok (.getfield 23, 3) := tb_at tbX9_drop_n30_ok 76 rfl
theorem dX9_drop_110 : decode cX9_drop 110 = .ok (.iconst 5, 1) := tb_at tbX9_drop_n30_ok 77 rfl
theorem dX9_drop_111 : decode cX9_drop 111 = .ok (.iload_n 1, 1) := tb_at tbX9_drop_n30_ok 78 rfl
theorem dX9_drop_112 : decode cX9_drop 112 = .ok (.imul, 1) := tb_at tbX9_drop_n30_ok 79 rfl
theorem dX9_drop_113 : decode cX9_drop 113 = .ok (.iload_n 3, 1) := tb_at tbX9_drop_n30_ok 80 rfl
theorem dX9_drop_114 : decode cX9_drop 114 = .ok (.iadd, 1) := tb_at tbX9_drop_n30_ok 81 rfl
theorem dX9_drop_115 : decode cX9_drop 115 = .ok (.iconst 1, 1) := tb_at tbX9_drop_n30_ok 82 rfl
theorem dX9_drop_116 : decode cX9_drop 116 = .ok (.iadd, 1) := tb_at tbX9_drop_n30_ok 83 rfl
theorem dX9_drop_117 : decode cX9_drop 117 = .ok (.laload, 1) := tb_at tbX9_drop_n30_ok 84 rfl
theorem dX9_drop_118 : decode cX9_drop 118 = .ok (.lastore, 1) := tb_at tbX9_drop_n30_ok 85 rfl
theorem dX9_drop_119 : decode cX9_drop 119 = .ok (.aload_n 0, 1) := tb_at tbX9_drop_n30_ok 86 rfl
theorem dX9_drop_120 : decode cX9_drop 120 = .ok (.getfield 27, 3) := tb_at tbX9_drop_n30_ok 87 rfl
theorem dX9_drop_123 : decode cX9_drop 123 = .ok (.iconst 5, 1) := tb_at tbX9_drop_n30_ok 88 rfl
theorem dX9_drop_124 : decode cX9_drop 124 = .ok (.iload_n 1, 1) := tb_at tbX9_drop_n30_ok 89 rfl
theorem dX9_drop_125 : decode cX9_drop 125 = .ok (.imul, 1) := tb_at tbX9_drop_n30_ok 90 rfl
theorem dX9_drop_126 : decode cX9_drop 126 = .ok (.iload_n 3, 1) := tb_at tbX9_drop_n30_ok 91 rfl
theorem dX9_drop_127 : decode cX9_drop 127 = .ok (.iadd, 1) := tb_at tbX9_drop_n30_ok 92 rfl
theorem dX9_drop_128 : decode cX9_drop 128 = .ok (.aload_n 0, 1) := tb_at tbX9_drop_n30_ok 93 rfl
theorem dX9_drop_129 : decode cX9_drop 129 = .ok (.getfield 27, 3) := tb_at tbX9_drop_n30_ok 94 rfl
theorem dX9_drop_132 : decode cX9_drop 132 = .ok (.iconst 5, 1) := tb_at tbX9_drop_n30_ok 95 rfl
theorem dX9_drop_133 : decode cX9_drop 133 = .ok (.iload_n 1, 1) := tb_at tbX9_drop_n30_ok 96 rfl
theorem dX9_drop_134 : decode cX9_drop 134 = .ok (.imul, 1) := tb_at tbX9_drop_n30_ok 97 rfl
theorem dX9_drop_135 : decode cX9_drop 135 = .ok (.iload_n 3, 1) := tb_at tbX9_drop_n30_ok 98 rfl
theorem dX9_drop_136 : decode cX9_drop 136 = .ok (.iadd, 1) := tb_at tbX9_drop_n30_ok 99 rfl
theorem dX9_drop_137 : decode cX9_drop 137 = .ok (.iconst 1, 1) := tb_at tbX9_drop_n30_ok 100 rfl
theorem dX9_drop_138 : decode cX9_drop 138 = .ok (.iadd, 1) := tb_at tbX9_drop_n30_ok 101 rfl
theorem dX9_drop_139 : decode cX9_drop 139 = .ok (.baload, 1) := tb_at tbX9_drop_n30_ok 102 rfl
theorem dX9_drop_140 : decode cX9_drop 140 = .ok (.bastore, 1) := tb_at tbX9_drop_n30_ok 103 rfl
theorem dX9_drop_141 : decode cX9_drop 141 = .ok (.iconst 0, 1) := tb_at tbX9_drop_n30_ok 104 rfl
theorem dX9_drop_142 : decode cX9_drop 142 = .ok (.istore 4, 2) := tb_at tbX9_drop_n30_ok 105 rfl
theorem dX9_drop_144 : decode cX9_drop 144 = .ok (.iload 4, 2) := tb_at tbX9_drop_n30_ok 106 rfl
theorem dX9_drop_146 : decode cX9_drop 146 = .ok (.aload_n 0, 1) := tb_at tbX9_drop_n30_ok 107 rfl
theorem dX9_drop_147 : decode cX9_drop 147 = .ok (.getfield 151, 3) := tb_at tbX9_drop_n30_ok 108 rfl
theorem dX9_drop_150 : decode cX9_drop 150 = .ok (.if_icmp .ge 58, 3) := tb_at tbX9_drop_n30_ok 109 rfl
theorem dX9_drop_153 : decode cX9_drop 153 = .ok (.aload_n 0, 1) := tb_at tbX9_drop_n30_ok 110 rfl
theorem dX9_drop_154 : decode cX9_drop 154 = .ok (.getfield 48, 3) := tb_at tbX9_drop_n30_ok 111 rfl
theorem dX9_drop_157 : decode cX9_drop 157 = .ok (.iconst 5, 1) := tb_at tbX9_drop_n30_ok 112 rfl
theorem dX9_drop_158 : decode cX9_drop 158 = .ok (.iload 4, 2) := tb_at tbX9_drop_n30_ok 113 rfl
theorem dX9_drop_160 : decode cX9_drop 160 = .ok (.imul, 1) := tb_at tbX9_drop_n30_ok 114 rfl
theorem dX9_drop_161 : decode cX9_drop 161 = .ok (.iload_n 3, 1) := tb_at tbX9_drop_n30_ok 115 rfl
theorem dX9_drop_162 : decode cX9_drop 162 = .ok (.iadd, 1) := tb_at tbX9_drop_n30_ok 116 rfl
theorem dX9_drop_163 : decode cX9_drop 163 = .ok (.aload_n 0, 1) := tb_at tbX9_drop_n30_ok 117 rfl
theorem dX9_drop_164 : decode cX9_drop 164 = .ok (.getfield 45, 3) := tb_at tbX9_drop_n30_ok 118 rfl
theorem dX9_drop_167 : decode cX9_drop 167 = .ok (.iload 4, 2) := tb_at tbX9_drop_n30_ok 119 rfl
noncomputable def tbX9_drop_n31 : List (Nat × Instr × Nat) := [(169, .iaload, 1), (170, (.iload_n 1), 1), (171, (.if_icmp .ne 19), 3), (174, (.aload_n 0), 1), (175, (.getfield 48), 3), (178, (.iconst 5), 1), (179, (.iload 4), 2), (181, .imul, 1), (182, (.iload_n 3), 1), (183, .iadd, 1), (184, (.iconst 1), 1), (185, .iadd, 1), (186, .laload, 1), (187, (.goto 14), 3), (190, (.aload_n 0), 1), (191, (.getfield 48), 3), (194, (.iconst 5), 1), (195, (.iload 4), 2), (197, .imul, 1), (198, (.iload_n 3), 1), (199, .iadd, 1), (200, .laload, 1), (201, .lastore, 1), (202, (.iinc 4 1), 3), (205, (.goto (-61)), 3), (208, (.iinc 3 1), 3), (211, (.goto (-170)), 3), (214, (.aload_n 0), 1), (215, (.getfield 13), 3), (218, (.iload_n 1), 1), (219, .dup2, 1), (220, .iaload, 1), (221, (.iconst 1), 1), (222, .isub, 1), (223, .iastore, 1), (224, (.aload_n 0), 1), (225, (.getfield 13), 3), (228, (.iload_n 1), 1), (229, .iaload, 1), (230, .ireturn, 1)]
theorem tbX9_drop_n31_ok : ∀ q ∈ tbX9_drop_n31, decode cX9_drop q.1 = .ok q.2 := by decide +kernel
theorem dX9_drop_169 : decode cX9_drop 169 = .ok (.iaload, 1) := tb_at tbX9_drop_n31_ok 0 rfl
theorem dX9_drop_170 : decode cX9_drop 170 = .ok (.iload_n 1, 1) := tb_at tbX9_drop_n31_ok 1 rfl
theorem dX9_drop_171 : decode cX9_drop 171 = .ok (.if_icmp .ne 19, 3) := tb_at tbX9_drop_n31_ok 2 rfl
theorem dX9_drop_174 : decode cX9_drop 174 = .ok (.aload_n 0, 1) := tb_at tbX9_drop_n31_ok 3 rfl
theorem dX9_drop_175 : decode cX9_drop 175 = .ok (.getfield 48, 3) := tb_at tbX9_drop_n31_ok 4 rfl
theorem dX9_drop_178 : decode cX9_drop 178 = .ok (.iconst 5, 1) := tb_at tbX9_drop_n31_ok 5 rfl
theorem dX9_drop_179 : decode cX9_drop 179 = .ok (.iload 4, 2) := tb_at tbX9_drop_n31_ok 6 rfl
theorem dX9_drop_181 : decode cX9_drop 181 = .ok (.imul, 1) := tb_at tbX9_drop_n31_ok 7 rfl
theorem dX9_drop_182 : decode cX9_drop 182 = .ok (.iload_n 3, 1) := tb_at tbX9_drop_n31_ok 8 rfl
theorem dX9_drop_183 : decode cX9_drop 183 = .ok (.iadd, 1) := tb_at tbX9_drop_n31_ok 9 rfl
theorem dX9_drop_184 : decode cX9_drop 184 = .ok (.iconst 1, 1) := tb_at tbX9_drop_n31_ok 10 rfl
theorem dX9_drop_185 : decode cX9_drop 185 = .ok (.iadd, 1) := tb_at tbX9_drop_n31_ok 11 rfl
theorem dX9_drop_186 : decode cX9_drop 186 = .ok (.laload, 1) := tb_at tbX9_drop_n31_ok 12 rfl
theorem dX9_drop_187 : decode cX9_drop 187 = .ok (.goto 14, 3) := tb_at tbX9_drop_n31_ok 13 rfl
theorem dX9_drop_190 : decode cX9_drop 190 = .ok (.aload_n 0, 1) := tb_at tbX9_drop_n31_ok 14 rfl
theorem dX9_drop_191 : decode cX9_drop 191 = .ok (.getfield 48, 3) := tb_at tbX9_drop_n31_ok 15 rfl
theorem dX9_drop_194 : decode cX9_drop 194 = .ok (.iconst 5, 1) := tb_at tbX9_drop_n31_ok 16 rfl
theorem dX9_drop_195 : decode cX9_drop 195 = .ok (.iload 4, 2) := tb_at tbX9_drop_n31_ok 17 rfl
theorem dX9_drop_197 : decode cX9_drop 197 = .ok (.imul, 1) := tb_at tbX9_drop_n31_ok 18 rfl
theorem dX9_drop_198 : decode cX9_drop 198 = .ok (.iload_n 3, 1) := tb_at tbX9_drop_n31_ok 19 rfl
theorem dX9_drop_199 : decode cX9_drop 199 = .ok (.iadd, 1) := tb_at tbX9_drop_n31_ok 20 rfl
theorem dX9_drop_200 : decode cX9_drop 200 = .ok (.laload, 1) := tb_at tbX9_drop_n31_ok 21 rfl
theorem dX9_drop_201 : decode cX9_drop 201 = .ok (.lastore, 1) := tb_at tbX9_drop_n31_ok 22 rfl
theorem dX9_drop_202 : decode cX9_drop 202 = .ok (.iinc 4 1, 3) := tb_at tbX9_drop_n31_ok 23 rfl
theorem dX9_drop_205 : decode cX9_drop 205 = .ok (.goto (-61), 3) := tb_at tbX9_drop_n31_ok 24 rfl
theorem dX9_drop_208 : decode cX9_drop 208 = .ok (.iinc 3 1, 3) := tb_at tbX9_drop_n31_ok 25 rfl
theorem dX9_drop_211 : decode cX9_drop 211 = .ok (.goto (-170), 3) := tb_at tbX9_drop_n31_ok 26 rfl
theorem dX9_drop_214 : decode cX9_drop 214 = .ok (.aload_n 0, 1) := tb_at tbX9_drop_n31_ok 27 rfl
theorem dX9_drop_215 : decode cX9_drop 215 = .ok (.getfield 13, 3) := tb_at tbX9_drop_n31_ok 28 rfl
theorem dX9_drop_218 : decode cX9_drop 218 = .ok (.iload_n 1, 1) := tb_at tbX9_drop_n31_ok 29 rfl
theorem dX9_drop_219 : decode cX9_drop 219 = .ok (.dup2, 1) := tb_at tbX9_drop_n31_ok 30 rfl
theorem dX9_drop_220 : decode cX9_drop 220 = .ok (.iaload, 1) := tb_at tbX9_drop_n31_ok 31 rfl
theorem dX9_drop_221 : decode cX9_drop 221 = .ok (.iconst 1, 1) := tb_at tbX9_drop_n31_ok 32 rfl
theorem dX9_drop_222 : decode cX9_drop 222 = .ok (.isub, 1) := tb_at tbX9_drop_n31_ok 33 rfl
theorem dX9_drop_223 : decode cX9_drop 223 = .ok (.iastore, 1) := tb_at tbX9_drop_n31_ok 34 rfl
theorem dX9_drop_224 : decode cX9_drop 224 = .ok (.aload_n 0, 1) := tb_at tbX9_drop_n31_ok 35 rfl
theorem dX9_drop_225 : decode cX9_drop 225 = .ok (.getfield 13, 3) := tb_at tbX9_drop_n31_ok 36 rfl
theorem dX9_drop_228 : decode cX9_drop 228 = .ok (.iload_n 1, 1) := tb_at tbX9_drop_n31_ok 37 rfl
theorem dX9_drop_229 : decode cX9_drop 229 = .ok (.iaload, 1) := tb_at tbX9_drop_n31_ok 38 rfl
theorem dX9_drop_230 : decode cX9_drop 230 = .ok (.ireturn, 1) := tb_at tbX9_drop_n31_ok 39 rfl
set_option maxRecDepth 20000 in
theorem ggX9_shut_X9_isType : GoodIn wsX9_shut wsX9_isType := goodIn_r _ [8, 9, 10, 11, 12, 13, 14, 15, 16, 17, 18, 19, 20, 21, 22, 23, 24, 25, 26, 27, 28, 29, 30, 31, 32, 33, 34, 35, 36, 37, 38, 39, 40, 41, 42, 43, 44, 45, 46, 47, 48, 49, 50, 51, 52, 53, 54, 55, 56, 57, 58, 59, 60] (by decide +kernel) (by decide +kernel)
set_option maxRecDepth 20000 in
theorem gX9_shut_X9_isType : GoodIn wsX9_shut (wsV RX9 158 RX9 yX9_isType wsX9_isType) := goodIn_app (goodIn_of _ (by decide +kernel)) ggX9_shut_X9_isType
noncomputable def tbX9_shut_n30 : List (Nat × Instr × Nat) := [(0, (.aload_n 0), 1), (1, (.iconst 0), 1), (2, (.putfield 145), 3), (5, (.aload_n 0), 1), (6, (.iload_n 1), 1), (7, (.invokevirtual 158), 3), (10, (.ifCond .eq 17), 3), (13, (.iload_n 2), 1), (14, (.ifCond .lt 13), 3), (17, (.iload_n 2), 1), (18, (.aload_n 0), 1), (19, (.getfield 13), 3), (22, (.iload_n 1), 1), (23, .iaload, 1), (24, (.if_icmp .lt 5), 3), (27, (.iconst (-1)), 1), (28, .ireturn, 1), (29, (.aload_n 0), 1), (30, (.getfield 27), 3), (33, (.iconst 5), 1), (34, (.iload_n 1), 1), (35, .imul, 1), (36, (.iload_n 2), 1), (37, .iadd, 1), (38, .baload, 1), (39, (.istore 4), 2), (41, (.aload_n 0), 1), (42, (.getfield 27), 3), (45, (.iconst 5), 1), (46, (.iload_n 1), 1), (47, .imul, 1), (48, (.iload_n 2), 1), (49, .iadd, 1), (50, (.iload_n 3), 1), (51, .bastore, 1), (52, (.iload 4), 2), (54, (.ifCond .eq 7), 3), (57, (.iconst 1), 1), (58, (.goto 4), 3), (61, (.iconst 0), 1), (62, .ireturn, 1)]
theorem tbX9_shut_n30_ok : ∀ q ∈ tbX9_shut_n30, decode cX9_shut q.1 = .ok q.2 := by decide +kernel
theorem dX9_shut_0 : decode cX9_shut 0 = .ok (.aload_n 0, 1) := tb_at tbX9_shut_n30_ok 0 rfl
theorem dX9_shut_1 : decode cX9_shut 1 = .ok (.iconst 0, 1) := tb_at tbX9_shut_n30_ok 1 rfl
theorem dX9_shut_2 : decode cX9_shut 2 = .ok (.putfield 145, 3) := tb_at tbX9_shut_n30_ok 2 rfl
theorem dX9_shut_5 : decode cX9_shut 5 = .ok (.aload_n 0, 1) := tb_at tbX9_shut_n30_ok 3 rfl
theorem dX9_shut_6 : decode cX9_shut 6 = .ok (.iload_n 1, 1) := tb_at tbX9_shut_n30_ok 4 rfl
theorem dX9_shut_7 : decode cX9_shut 7 = .ok (.invokevirtual 158, 3) := tb_at tbX9_shut_n30_ok 5 rfl
theorem dX9_shut_10 : decode cX9_shut 10 = .ok (.ifCond .eq 17, 3) := tb_at tbX9_shut_n30_ok 6 rfl
theorem dX9_shut_13 : decode cX9_shut 13 = .ok (.iload_n 2, 1) := tb_at tbX9_shut_n30_ok 7 rfl
theorem dX9_shut_14 : decode cX9_shut 14 = .ok (.ifCond .lt 13, 3) := tb_at tbX9_shut_n30_ok 8 rfl
theorem dX9_shut_17 : decode cX9_shut 17 = .ok (.iload_n 2, 1) := tb_at tbX9_shut_n30_ok 9 rfl
theorem dX9_shut_18 : decode cX9_shut 18 = .ok (.aload_n 0, 1) := tb_at tbX9_shut_n30_ok 10 rfl
theorem dX9_shut_19 : decode cX9_shut 19 = .ok (.getfield 13, 3) := tb_at tbX9_shut_n30_ok 11 rfl
theorem dX9_shut_22 : decode cX9_shut 22 = .ok (.iload_n 1, 1) := tb_at tbX9_shut_n30_ok 12 rfl
theorem dX9_shut_23 : decode cX9_shut 23 = .ok (.iaload, 1) := tb_at tbX9_shut_n30_ok 13 rfl
theorem dX9_shut_24 : decode cX9_shut 24 = .ok (.if_icmp .lt 5, 3) := tb_at tbX9_shut_n30_ok 14 rfl
theorem dX9_shut_27 : decode cX9_shut 27 = .ok (.iconst (-1), 1) := tb_at tbX9_shut_n30_ok 15 rfl
theorem dX9_shut_28 : decode cX9_shut 28 = .ok (.ireturn, 1) := tb_at tbX9_shut_n30_ok 16 rfl
theorem dX9_shut_29 : decode cX9_shut 29 = .ok (.aload_n 0, 1) := tb_at tbX9_shut_n30_ok 17 rfl
theorem dX9_shut_30 : decode cX9_shut 30 = .ok (.getfield 27, 3) := tb_at tbX9_shut_n30_ok 18 rfl
theorem dX9_shut_33 : decode cX9_shut 33 = .ok (.iconst 5, 1) := tb_at tbX9_shut_n30_ok 19 rfl
theorem dX9_shut_34 : decode cX9_shut 34 = .ok (.iload_n 1, 1) := tb_at tbX9_shut_n30_ok 20 rfl
theorem dX9_shut_35 : decode cX9_shut 35 = .ok (.imul, 1) := tb_at tbX9_shut_n30_ok 21 rfl
theorem dX9_shut_36 : decode cX9_shut 36 = .ok (.iload_n 2, 1) := tb_at tbX9_shut_n30_ok 22 rfl
theorem dX9_shut_37 : decode cX9_shut 37 = .ok (.iadd, 1) := tb_at tbX9_shut_n30_ok 23 rfl
theorem dX9_shut_38 : decode cX9_shut 38 = .ok (.baload, 1) := tb_at tbX9_shut_n30_ok 24 rfl
theorem dX9_shut_39 : decode cX9_shut 39 = .ok (.istore 4, 2) := tb_at tbX9_shut_n30_ok 25 rfl
theorem dX9_shut_41 : decode cX9_shut 41 = .ok (.aload_n 0, 1) := tb_at tbX9_shut_n30_ok 26 rfl
theorem dX9_shut_42 : decode cX9_shut 42 = .ok (.getfield 27, 3) := tb_at tbX9_shut_n30_ok 27 rfl
theorem dX9_shut_45 : decode cX9_shut 45 = .ok (.iconst 5, 1) := tb_at tbX9_shut_n30_ok 28 rfl
theorem dX9_shut_46 : decode cX9_shut 46 = .ok (.iload_n 1, 1) := tb_at tbX9_shut_n30_ok 29 rfl
theorem dX9_shut_47 : decode cX9_shut 47 = .ok (.imul, 1) := tb_at tbX9_shut_n30_ok 30 rfl
theorem dX9_shut_48 : decode cX9_shut 48 = .ok (.iload_n 2, 1) := tb_at tbX9_shut_n30_ok 31 rfl
theorem dX9_shut_49 : decode cX9_shut 49 = .ok (.iadd, 1) := tb_at tbX9_shut_n30_ok 32 rfl
theorem dX9_shut_50 : decode cX9_shut 50 = .ok (.iload_n 3, 1) := tb_at tbX9_shut_n30_ok 33 rfl
theorem dX9_shut_51 : decode cX9_shut 51 = .ok (.bastore, 1) := tb_at tbX9_shut_n30_ok 34 rfl
theorem dX9_shut_52 : decode cX9_shut 52 = .ok (.iload 4, 2) := tb_at tbX9_shut_n30_ok 35 rfl
theorem dX9_shut_54 : decode cX9_shut 54 = .ok (.ifCond .eq 7, 3) := tb_at tbX9_shut_n30_ok 36 rfl
theorem dX9_shut_57 : decode cX9_shut 57 = .ok (.iconst 1, 1) := tb_at tbX9_shut_n30_ok 37 rfl
theorem dX9_shut_58 : decode cX9_shut 58 = .ok (.goto 4, 3) := tb_at tbX9_shut_n30_ok 38 rfl
theorem dX9_shut_61 : decode cX9_shut 61 = .ok (.iconst 0, 1) := tb_at tbX9_shut_n30_ok 39 rfl
theorem dX9_shut_62 : decode cX9_shut 62 = .ok (.ireturn, 1) := tb_at tbX9_shut_n30_ok 40 rfl
set_option maxRecDepth 20000 in
theorem ggX9_check_X9_isType : GoodIn wsX9_check wsX9_isType := goodIn_r _ [11, 12, 13, 14, 15, 16, 17, 18, 19, 20, 21, 22, 23, 24, 25, 26, 27, 28, 29, 30, 31, 32, 33, 34, 35, 36, 37, 38, 39, 40, 41, 42, 43, 44, 45, 46, 47, 48, 49, 50, 51, 52, 53, 54, 55, 56, 57, 58, 59, 60, 61, 62, 63] (by decide +kernel) (by decide +kernel)
set_option maxRecDepth 20000 in
theorem gX9_check_X9_isType : GoodIn wsX9_check (wsV RX9 158 RX9 yX9_isType wsX9_isType) := goodIn_app (goodIn_of _ (by decide +kernel)) ggX9_check_X9_isType
noncomputable def tbX9_check_n30 : List (Nat × Instr × Nat) := [(0, (.aload_n 0), 1), (1, (.iconst 0), 1), (2, (.putfield 145), 3), (5, (.aload_n 0), 1), (6, (.iload_n 1), 1), (7, (.invokevirtual 158), 3), (10, (.ifCond .ne 5), 3), (13, (.iconst (-1)), 1), (14, .ireturn, 1), (15, (.iload_n 2), 1), (16, (.ifCond .lt 28), 3), (19, (.iload_n 2), 1), (20, (.iconst 5), 1), (21, (.if_icmp .gt 23), 3), (24, (.iload_n 3), 1), (25, (.ifCond .lt 19), 3), (28, (.iload_n 3), 1), (29, (.iconst 4), 1), (30, (.if_icmp .gt 14), 3), (33, (.iload 4), 2), (35, (.ifCond .lt 9), 3), (38, (.iload 4), 2), (40, (.iconst 4), 1), (41, (.if_icmp .le 6), 3), (44, (.bipush (-2)), 2), (46, .ireturn, 1), (47, (.aload_n 0), 1), (48, (.getfield 30), 3), (51, (.iload_n 1), 1), (52, .iaload, 1), (53, (.iconst 4), 1), (54, (.if_icmp .ne 6), 3), (57, (.bipush (-4)), 2), (59, .ireturn, 1), (60, (.iconst 4), 1), (61, (.iload_n 1), 1), (62, .imul, 1), (63, (.aload_n 0), 1), (64, (.getfield 30), 3), (67, (.iload_n 1), 1), (68, .iaload, 1), (69, .iadd, 1), (70, (.istore 7), 2), (72, (.aload_n 0), 1), (73, (.getfield 33), 3), (76, (.iload 7), 2), (78, (.iload_n 2), 1), (79, .iastore, 1), (80, (.aload_n 0), 1), (81, (.getfield 36), 3), (84, (.iload 7), 2), (86, (.iload_n 3), 1), (87, .iastore, 1), (88, (.aload_n 0), 1), (89, (.getfield 39), 3), (92, (.iload 7), 2), (94, (.iload 4), 2), (96, .iastore, 1), (97, (.aload_n 0), 1), (98, (.getfield 42), 3), (101, (.iload 7), 2), (103, (.lload 5), 2), (105, .lastore, 1), (106, (.aload_n 0), 1), (107, (.getfield 30), 3), (110, (.iload_n 1), 1), (111, .dup2, 1), (112, .iaload, 1), (113, (.iconst 1), 1), (114, .iadd, 1), (115, .iastore, 1), (116, (.aload_n 0), 1), (117, (.getfield 30), 3), (120, (.iload_n 1), 1), (121, .iaload, 1), (122, .ireturn, 1)]
theorem tbX9_check_n30_ok : ∀ q ∈ tbX9_check_n30, decode cX9_check q.1 = .ok q.2 := by decide +kernel
theorem dX9_check_0 : decode cX9_check 0 = .ok (.aload_n 0, 1) := tb_at tbX9_check_n30_ok 0 rfl
theorem dX9_check_1 : decode cX9_check 1 = .ok (.iconst 0, 1) := tb_at tbX9_check_n30_ok 1 rfl
theorem dX9_check_2 : decode cX9_check 2 = .ok (.putfield 145, 3) := tb_at tbX9_check_n30_ok 2 rfl
theorem dX9_check_5 : decode cX9_check 5 = .ok (.aload_n 0, 1) := tb_at tbX9_check_n30_ok 3 rfl
theorem dX9_check_6 : decode cX9_check 6 = .ok (.iload_n 1, 1) := tb_at tbX9_check_n30_ok 4 rfl
theorem dX9_check_7 : decode cX9_check 7 = .ok (.invokevirtual 158, 3) := tb_at tbX9_check_n30_ok 5 rfl
theorem dX9_check_10 : decode cX9_check 10 = .ok (.ifCond .ne 5, 3) := tb_at tbX9_check_n30_ok 6 rfl
theorem dX9_check_13 : decode cX9_check 13 = .ok (.iconst (-1), 1) := tb_at tbX9_check_n30_ok 7 rfl
theorem dX9_check_14 : decode cX9_check 14 = .ok (.ireturn, 1) := tb_at tbX9_check_n30_ok 8 rfl
theorem dX9_check_15 : decode cX9_check 15 = .ok (.iload_n 2, 1) := tb_at tbX9_check_n30_ok 9 rfl
theorem dX9_check_16 : decode cX9_check 16 = .ok (.ifCond .lt 28, 3) := tb_at tbX9_check_n30_ok 10 rfl
theorem dX9_check_19 : decode cX9_check 19 = .ok (.iload_n 2, 1) := tb_at tbX9_check_n30_ok 11 rfl
theorem dX9_check_20 : decode cX9_check 20 = .ok (.iconst 5, 1) := tb_at tbX9_check_n30_ok 12 rfl
theorem dX9_check_21 : decode cX9_check 21 = .ok (.if_icmp .gt 23, 3) := tb_at tbX9_check_n30_ok 13 rfl
theorem dX9_check_24 : decode cX9_check 24 = .ok (.iload_n 3, 1) := tb_at tbX9_check_n30_ok 14 rfl
theorem dX9_check_25 : decode cX9_check 25 = .ok (.ifCond .lt 19, 3) := tb_at tbX9_check_n30_ok 15 rfl
theorem dX9_check_28 : decode cX9_check 28 = .ok (.iload_n 3, 1) := tb_at tbX9_check_n30_ok 16 rfl
theorem dX9_check_29 : decode cX9_check 29 = .ok (.iconst 4, 1) := tb_at tbX9_check_n30_ok 17 rfl
theorem dX9_check_30 : decode cX9_check 30 = .ok (.if_icmp .gt 14, 3) := tb_at tbX9_check_n30_ok 18 rfl
theorem dX9_check_33 : decode cX9_check 33 = .ok (.iload 4, 2) := tb_at tbX9_check_n30_ok 19 rfl
theorem dX9_check_35 : decode cX9_check 35 = .ok (.ifCond .lt 9, 3) := tb_at tbX9_check_n30_ok 20 rfl
theorem dX9_check_38 : decode cX9_check 38 = .ok (.iload 4, 2) := tb_at tbX9_check_n30_ok 21 rfl
theorem dX9_check_40 : decode cX9_check 40 = .ok (.iconst 4, 1) := tb_at tbX9_check_n30_ok 22 rfl
theorem dX9_check_41 : decode cX9_check 41 = .ok (.if_icmp .le 6, 3) := tb_at tbX9_check_n30_ok 23 rfl
theorem dX9_check_44 : decode cX9_check 44 = .ok (.bipush (-2), 2) := tb_at tbX9_check_n30_ok 24 rfl
theorem dX9_check_46 : decode cX9_check 46 = .ok (.ireturn, 1) := tb_at tbX9_check_n30_ok 25 rfl
theorem dX9_check_47 : decode cX9_check 47 = .ok (.aload_n 0, 1) := tb_at tbX9_check_n30_ok 26 rfl
theorem dX9_check_48 : decode cX9_check 48 = .ok (.getfield 30, 3) := tb_at tbX9_check_n30_ok 27 rfl
theorem dX9_check_51 : decode cX9_check 51 = .ok (.iload_n 1, 1) := tb_at tbX9_check_n30_ok 28 rfl
theorem dX9_check_52 : decode cX9_check 52 = .ok (.iaload, 1) := tb_at tbX9_check_n30_ok 29 rfl
theorem dX9_check_53 : decode cX9_check 53 = .ok (.iconst 4, 1) := tb_at tbX9_check_n30_ok 30 rfl
theorem dX9_check_54 : decode cX9_check 54 = .ok (.if_icmp .ne 6, 3) := tb_at tbX9_check_n30_ok 31 rfl
theorem dX9_check_57 : decode cX9_check 57 = .ok (.bipush (-4), 2) := tb_at tbX9_check_n30_ok 32 rfl
theorem dX9_check_59 : decode cX9_check 59 = .ok (.ireturn, 1) := tb_at tbX9_check_n30_ok 33 rfl
theorem dX9_check_60 : decode cX9_check 60 = .ok (.iconst 4, 1) := tb_at tbX9_check_n30_ok 34 rfl
theorem dX9_check_61 : decode cX9_check 61 = .ok (.iload_n 1, 1) := tb_at tbX9_check_n30_ok 35 rfl
theorem dX9_check_62 : decode cX9_check 62 = .ok (.imul, 1) := tb_at tbX9_check_n30_ok 36 rfl
theorem dX9_check_63 : decode cX9_check 63 = .ok (.aload_n 0, 1) := tb_at tbX9_check_n30_ok 37 rfl
theorem dX9_check_64 : decode cX9_check 64 = .ok (.getfield 30, 3) := tb_at tbX9_check_n30_ok 38 rfl
theorem dX9_check_67 : decode cX9_check 67 = .ok (.iload_n 1, 1) := tb_at tbX9_check_n30_ok 39 rfl
theorem dX9_check_68 : decode cX9_check 68 = .ok (.iaload, 1) := tb_at tbX9_check_n30_ok 40 rfl
theorem dX9_check_69 : decode cX9_check 69 = .ok (.iadd, 1) := tb_at tbX9_check_n30_ok 41 rfl
theorem dX9_check_70 : decode cX9_check 70 = .ok (.istore 7, 2) := tb_at tbX9_check_n30_ok 42 rfl
theorem dX9_check_72 : decode cX9_check 72 = .ok (.aload_n 0, 1) := tb_at tbX9_check_n30_ok 43 rfl
theorem dX9_check_73 : decode cX9_check 73 = .ok (.getfield 33, 3) := tb_at tbX9_check_n30_ok 44 rfl
theorem dX9_check_76 : decode cX9_check 76 = .ok (.iload 7, 2) := tb_at tbX9_check_n30_ok 45 rfl
theorem dX9_check_78 : decode cX9_check 78 = .ok (.iload_n 2, 1) := tb_at tbX9_check_n30_ok 46 rfl
theorem dX9_check_79 : decode cX9_check 79 = .ok (.iastore, 1) := tb_at tbX9_check_n30_ok 47 rfl
theorem dX9_check_80 : decode cX9_check 80 = .ok (.aload_n 0, 1) := tb_at tbX9_check_n30_ok 48 rfl
theorem dX9_check_81 : decode cX9_check 81 = .ok (.getfield 36, 3) := tb_at tbX9_check_n30_ok 49 rfl
theorem dX9_check_84 : decode cX9_check 84 = .ok (.iload 7, 2) := tb_at tbX9_check_n30_ok 50 rfl
theorem dX9_check_86 : decode cX9_check 86 = .ok (.iload_n 3, 1) := tb_at tbX9_check_n30_ok 51 rfl
theorem dX9_check_87 : decode cX9_check 87 = .ok (.iastore, 1) := tb_at tbX9_check_n30_ok 52 rfl
theorem dX9_check_88 : decode cX9_check 88 = .ok (.aload_n 0, 1) := tb_at tbX9_check_n30_ok 53 rfl
theorem dX9_check_89 : decode cX9_check 89 = .ok (.getfield 39, 3) := tb_at tbX9_check_n30_ok 54 rfl
theorem dX9_check_92 : decode cX9_check 92 = .ok (.iload 7, 2) := tb_at tbX9_check_n30_ok 55 rfl
theorem dX9_check_94 : decode cX9_check 94 = .ok (.iload 4, 2) := tb_at tbX9_check_n30_ok 56 rfl
theorem dX9_check_96 : decode cX9_check 96 = .ok (.iastore, 1) := tb_at tbX9_check_n30_ok 57 rfl
theorem dX9_check_97 : decode cX9_check 97 = .ok (.aload_n 0, 1) := tb_at tbX9_check_n30_ok 58 rfl
theorem dX9_check_98 : decode cX9_check 98 = .ok (.getfield 42, 3) := tb_at tbX9_check_n30_ok 59 rfl
theorem dX9_check_101 : decode cX9_check 101 = .ok (.iload 7, 2) := tb_at tbX9_check_n30_ok 60 rfl
theorem dX9_check_103 : decode cX9_check 103 = .ok (.lload 5, 2) := tb_at tbX9_check_n30_ok 61 rfl
theorem dX9_check_105 : decode cX9_check 105 = .ok (.lastore, 1) := tb_at tbX9_check_n30_ok 62 rfl
theorem dX9_check_106 : decode cX9_check 106 = .ok (.aload_n 0, 1) := tb_at tbX9_check_n30_ok 63 rfl
theorem dX9_check_107 : decode cX9_check 107 = .ok (.getfield 30, 3) := tb_at tbX9_check_n30_ok 64 rfl
theorem dX9_check_110 : decode cX9_check 110 = .ok (.iload_n 1, 1) := tb_at tbX9_check_n30_ok 65 rfl
theorem dX9_check_111 : decode cX9_check 111 = .ok (.dup2, 1) := tb_at tbX9_check_n30_ok 66 rfl
theorem dX9_check_112 : decode cX9_check 112 = .ok (.iaload, 1) := tb_at tbX9_check_n30_ok 67 rfl
theorem dX9_check_113 : decode cX9_check 113 = .ok (.iconst 1, 1) := tb_at tbX9_check_n30_ok 68 rfl
theorem dX9_check_114 : decode cX9_check 114 = .ok (.iadd, 1) := tb_at tbX9_check_n30_ok 69 rfl
theorem dX9_check_115 : decode cX9_check 115 = .ok (.iastore, 1) := tb_at tbX9_check_n30_ok 70 rfl
theorem dX9_check_116 : decode cX9_check 116 = .ok (.aload_n 0, 1) := tb_at tbX9_check_n30_ok 71 rfl
theorem dX9_check_117 : decode cX9_check 117 = .ok (.getfield 30, 3) := tb_at tbX9_check_n30_ok 72 rfl
theorem dX9_check_120 : decode cX9_check 120 = .ok (.iload_n 1, 1) := tb_at tbX9_check_n30_ok 73 rfl
theorem dX9_check_121 : decode cX9_check 121 = .ok (.iaload, 1) := tb_at tbX9_check_n30_ok 74 rfl
theorem dX9_check_122 : decode cX9_check 122 = .ok (.ireturn, 1) := tb_at tbX9_check_n30_ok 75 rfl
set_option maxRecDepth 20000 in
theorem ggX9_unchecked_X9_isType : GoodIn wsX9_unchecked wsX9_isType := goodIn_r _ [7, 8, 9, 10, 11, 12, 13, 14, 15, 16, 17, 18, 19, 20, 21, 22, 23, 24, 25, 26, 27, 28, 29, 30, 31, 32, 33, 34, 35, 36, 37, 38, 39, 40, 41, 42, 43, 44, 45, 46, 47, 48, 49, 50, 51, 52, 53, 54, 55, 56, 57, 58, 59] (by decide +kernel) (by decide +kernel)
set_option maxRecDepth 20000 in
theorem gX9_unchecked_X9_isType : GoodIn wsX9_unchecked (wsV RX9 158 RX9 yX9_isType wsX9_isType) := goodIn_app (goodIn_of _ (by decide +kernel)) ggX9_unchecked_X9_isType
noncomputable def tbX9_unchecked_n30 : List (Nat × Instr × Nat) := [(0, (.aload_n 0), 1), (1, (.iconst 0), 1), (2, (.putfield 145), 3), (5, (.aload_n 0), 1), (6, (.iload_n 1), 1), (7, (.invokevirtual 158), 3), (10, (.ifCond .ne 5), 3), (13, (.iconst (-1)), 1), (14, .ireturn, 1), (15, (.aload_n 0), 1), (16, (.getfield 30), 3), (19, (.iload_n 1), 1), (20, .iaload, 1), (21, (.istore_n 2), 1), (22, (.aload_n 0), 1), (23, (.getfield 30), 3), (26, (.iload_n 1), 1), (27, (.iconst 0), 1), (28, .iastore, 1), (29, (.iload_n 2), 1), (30, .ireturn, 1)]
theorem tbX9_unchecked_n30_ok : ∀ q ∈ tbX9_unchecked_n30, decode cX9_unchecked q.1 = .ok q.2 := by decide +kernel
theorem dX9_unchecked_0 : decode cX9_unchecked 0 = .ok (.aload_n 0, 1) := tb_at tbX9_unchecked_n30_ok 0 rfl
theorem dX9_unchecked_1 : decode cX9_unchecked 1 = .ok (.iconst 0, 1) := tb_at tbX9_unchecked_n30_ok 1 rfl
theorem dX9_unchecked_2 : decode cX9_unchecked 2 = .ok (.putfield 145, 3) := tb_at tbX9_unchecked_n30_ok 2 rfl
theorem dX9_unchecked_5 : decode cX9_unchecked 5 = .ok (.aload_n 0, 1) := tb_at tbX9_unchecked_n30_ok 3 rfl
theorem dX9_unchecked_6 : decode cX9_unchecked 6 = .ok (.iload_n 1, 1) := tb_at tbX9_unchecked_n30_ok 4 rfl
theorem dX9_unchecked_7 : decode cX9_unchecked 7 = .ok (.invokevirtual 158, 3) := tb_at tbX9_unchecked_n30_ok 5 rfl
theorem dX9_unchecked_10 : decode cX9_unchecked 10 = .ok (.ifCond .ne 5, 3) := tb_at tbX9_unchecked_n30_ok 6 rfl
theorem dX9_unchecked_13 : decode cX9_unchecked 13 = .ok (.iconst (-1), 1) := tb_at tbX9_unchecked_n30_ok 7 rfl
theorem dX9_unchecked_14 : decode cX9_unchecked 14 = .ok (.ireturn, 1) := tb_at tbX9_unchecked_n30_ok 8 rfl
theorem dX9_unchecked_15 : decode cX9_unchecked 15 = .ok (.aload_n 0, 1) := tb_at tbX9_unchecked_n30_ok 9 rfl
theorem dX9_unchecked_16 : decode cX9_unchecked 16 = .ok (.getfield 30, 3) := tb_at tbX9_unchecked_n30_ok 10 rfl
theorem dX9_unchecked_19 : decode cX9_unchecked 19 = .ok (.iload_n 1, 1) := tb_at tbX9_unchecked_n30_ok 11 rfl
theorem dX9_unchecked_20 : decode cX9_unchecked 20 = .ok (.iaload, 1) := tb_at tbX9_unchecked_n30_ok 12 rfl
theorem dX9_unchecked_21 : decode cX9_unchecked 21 = .ok (.istore_n 2, 1) := tb_at tbX9_unchecked_n30_ok 13 rfl
theorem dX9_unchecked_22 : decode cX9_unchecked 22 = .ok (.aload_n 0, 1) := tb_at tbX9_unchecked_n30_ok 14 rfl
theorem dX9_unchecked_23 : decode cX9_unchecked 23 = .ok (.getfield 30, 3) := tb_at tbX9_unchecked_n30_ok 15 rfl
theorem dX9_unchecked_26 : decode cX9_unchecked 26 = .ok (.iload_n 1, 1) := tb_at tbX9_unchecked_n30_ok 16 rfl
theorem dX9_unchecked_27 : decode cX9_unchecked 27 = .ok (.iconst 0, 1) := tb_at tbX9_unchecked_n30_ok 17 rfl
theorem dX9_unchecked_28 : decode cX9_unchecked 28 = .ok (.iastore, 1) := tb_at tbX9_unchecked_n30_ok 18 rfl
theorem dX9_unchecked_29 : decode cX9_unchecked 29 = .ok (.iload_n 2, 1) := tb_at tbX9_unchecked_n30_ok 19 rfl
theorem dX9_unchecked_30 : decode cX9_unchecked 30 = .ok (.ireturn, 1) := tb_at tbX9_unchecked_n30_ok 20 rfl
noncomputable def tbX9_word_n30 : List (Nat × Instr × Nat) := [(0, (.aload_n 0), 1), (1, (.iconst 0), 1), (2, (.putfield 145), 3), (5, (.iload_n 1), 1), (6, (.ifCond .lt 9), 3), (9, (.iload_n 1), 1), (10, (.bipush 15), 2), (12, (.if_icmp .le 5), 3), (15, (.iconst (-1)), 1), (16, .ireturn, 1), (17, (.aload_n 0), 1), (18, (.getfield 7), 3), (21, (.iload_n 1), 1), (22, .baload, 1), (23, (.ifCond .ne 7), 3), (26, (.iconst 1), 1), (27, (.goto 4), 3), (30, (.iconst 0), 1), (31, (.istore_n 3), 1), (32, (.aload_n 0), 1), (33, (.getfield 7), 3), (36, (.iload_n 1), 1), (37, (.iload_n 2), 1), (38, (.ifCond .ne 7), 3), (41, (.iconst 1), 1), (42, (.goto 4), 3), (45, (.iconst 0), 1), (46, .bastore, 1), (47, (.iload_n 3), 1), (48, (.ifCond .eq 7), 3), (51, (.iconst 1), 1), (52, (.goto 4), 3), (55, (.iconst 0), 1), (56, .ireturn, 1)]
theorem tbX9_word_n30_ok : ∀ q ∈ tbX9_word_n30, decode cX9_word q.1 = .ok q.2 := by decide +kernel
theorem dX9_word_0 : decode cX9_word 0 = .ok (.aload_n 0, 1) := tb_at tbX9_word_n30_ok 0 rfl
theorem dX9_word_1 : decode cX9_word 1 = .ok (.iconst 0, 1) := tb_at tbX9_word_n30_ok 1 rfl
theorem dX9_word_2 : decode cX9_word 2 = .ok (.putfield 145, 3) := tb_at tbX9_word_n30_ok 2 rfl
theorem dX9_word_5 : decode cX9_word 5 = .ok (.iload_n 1, 1) := tb_at tbX9_word_n30_ok 3 rfl
theorem dX9_word_6 : decode cX9_word 6 = .ok (.ifCond .lt 9, 3) := tb_at tbX9_word_n30_ok 4 rfl
theorem dX9_word_9 : decode cX9_word 9 = .ok (.iload_n 1, 1) := tb_at tbX9_word_n30_ok 5 rfl
theorem dX9_word_10 : decode cX9_word 10 = .ok (.bipush 15, 2) := tb_at tbX9_word_n30_ok 6 rfl
theorem dX9_word_12 : decode cX9_word 12 = .ok (.if_icmp .le 5, 3) := tb_at tbX9_word_n30_ok 7 rfl
theorem dX9_word_15 : decode cX9_word 15 = .ok (.iconst (-1), 1) := tb_at tbX9_word_n30_ok 8 rfl
theorem dX9_word_16 : decode cX9_word 16 = .ok (.ireturn, 1) := tb_at tbX9_word_n30_ok 9 rfl
theorem dX9_word_17 : decode cX9_word 17 = .ok (.aload_n 0, 1) := tb_at tbX9_word_n30_ok 10 rfl
theorem dX9_word_18 : decode cX9_word 18 = .ok (.getfield 7, 3) := tb_at tbX9_word_n30_ok 11 rfl
theorem dX9_word_21 : decode cX9_word 21 = .ok (.iload_n 1, 1) := tb_at tbX9_word_n30_ok 12 rfl
theorem dX9_word_22 : decode cX9_word 22 = .ok (.baload, 1) := tb_at tbX9_word_n30_ok 13 rfl
theorem dX9_word_23 : decode cX9_word 23 = .ok (.ifCond .ne 7, 3) := tb_at tbX9_word_n30_ok 14 rfl
theorem dX9_word_26 : decode cX9_word 26 = .ok (.iconst 1, 1) := tb_at tbX9_word_n30_ok 15 rfl
theorem dX9_word_27 : decode cX9_word 27 = .ok (.goto 4, 3) := tb_at tbX9_word_n30_ok 16 rfl
theorem dX9_word_30 : decode cX9_word 30 = .ok (.iconst 0, 1) := tb_at tbX9_word_n30_ok 17 rfl
theorem dX9_word_31 : decode cX9_word 31 = .ok (.istore_n 3, 1) := tb_at tbX9_word_n30_ok 18 rfl
theorem dX9_word_32 : decode cX9_word 32 = .ok (.aload_n 0, 1) := tb_at tbX9_word_n30_ok 19 rfl
theorem dX9_word_33 : decode cX9_word 33 = .ok (.getfield 7, 3) := tb_at tbX9_word_n30_ok 20 rfl
theorem dX9_word_36 : decode cX9_word 36 = .ok (.iload_n 1, 1) := tb_at tbX9_word_n30_ok 21 rfl
theorem dX9_word_37 : decode cX9_word 37 = .ok (.iload_n 2, 1) := tb_at tbX9_word_n30_ok 22 rfl
theorem dX9_word_38 : decode cX9_word 38 = .ok (.ifCond .ne 7, 3) := tb_at tbX9_word_n30_ok 23 rfl
theorem dX9_word_41 : decode cX9_word 41 = .ok (.iconst 1, 1) := tb_at tbX9_word_n30_ok 24 rfl
theorem dX9_word_42 : decode cX9_word 42 = .ok (.goto 4, 3) := tb_at tbX9_word_n30_ok 25 rfl
theorem dX9_word_45 : decode cX9_word 45 = .ok (.iconst 0, 1) := tb_at tbX9_word_n30_ok 26 rfl
theorem dX9_word_46 : decode cX9_word 46 = .ok (.bastore, 1) := tb_at tbX9_word_n30_ok 27 rfl
theorem dX9_word_47 : decode cX9_word 47 = .ok (.iload_n 3, 1) := tb_at tbX9_word_n30_ok 28 rfl
theorem dX9_word_48 : decode cX9_word 48 = .ok (.ifCond .eq 7, 3) := tb_at tbX9_word_n30_ok 29 rfl
theorem dX9_word_51 : decode cX9_word 51 = .ok (.iconst 1, 1) := tb_at tbX9_word_n30_ok 30 rfl
theorem dX9_word_52 : decode cX9_word 52 = .ok (.goto 4, 3) := tb_at tbX9_word_n30_ok 31 rfl
theorem dX9_word_55 : decode cX9_word 55 = .ok (.iconst 0, 1) := tb_at tbX9_word_n30_ok 32 rfl
theorem dX9_word_56 : decode cX9_word 56 = .ok (.ireturn, 1) := tb_at tbX9_word_n30_ok 33 rfl
set_option maxRecDepth 20000 in
theorem ggX9_newRow_X9_lane : GoodIn wsX9_newRow wsX9_lane := goodIn_r _ [15, 16, 4, 17, 18, 19, 20, 21, 22, 23, 24, 25, 26, 27, 28, 29, 30, 31, 32, 33, 34, 35, 36, 37, 38, 39, 40, 41, 42, 43, 44, 45, 46, 47, 48, 49, 50, 51, 52, 53, 54, 55, 56, 57, 58, 59, 60, 61, 62, 63, 64, 65, 66, 67] (by decide +kernel) (by decide +kernel)
set_option maxRecDepth 20000 in
theorem gX9_newRow_X9_lane : GoodIn wsX9_newRow (wsV RX9 170 RX9 yX9_lane wsX9_lane) := goodIn_app (goodIn_of _ (by decide +kernel)) ggX9_newRow_X9_lane
noncomputable def tbX9_newRow_n30 : List (Nat × Instr × Nat) := [(0, (.iconst 0), 1), (1, (.istore_n 3), 1), (2, (.iload_n 3), 1), (3, (.sipush 400), 3), (6, (.if_icmp .ge 16), 3), (9, (.aload_n 0), 1), (10, (.getfield 60), 3), (13, (.iload_n 3), 1), (14, (.iconst 0), 1), (15, .bastore, 1), (16, (.iinc 3 1), 3), (19, (.goto (-17)), 3), (22, (.iconst 0), 1), (23, (.istore_n 3), 1), (24, (.iload_n 3), 1), (25, (.aload_n 0), 1), (26, (.getfield 151), 3), (29, (.if_icmp .ge 79), 3), (32, (.iconst 0), 1), (33, (.istore 4), 2), (35, (.iload 4), 2), (37, (.aload_n 0), 1), (38, (.getfield 13), 3), (41, (.aload_n 0), 1), (42, (.getfield 45), 3), (45, (.iload_n 3), 1), (46, .iaload, 1), (47, .iaload, 1), (48, (.if_icmp .ge 54), 3), (51, (.aload_n 0), 1), (52, (.iload_n 3), 1), (53, (.iload 4), 2), (55, (.invokevirtual 170), 3), (58, (.iconst 3), 1), (59, (.if_icmp .lt 37), 3), (62, (.aload_n 0), 1), (63, (.getfield 48), 3), (66, (.iconst 5), 1), (67, (.iload_n 3), 1), (68, .imul, 1), (69, (.iload 4), 2), (71, .iadd, 1), (72, .laload, 1), (73, (.lconst 0), 1), (74, .lcmp, 1), (75, (.ifCond .lt 21), 3), (78, (.aload_n 0), 1), (79, (.getfield 60), 3), (82, (.aload_n 0), 1), (83, (.getfield 48), 3), (86, (.iconst 5), 1), (87, (.iload_n 3), 1), (88, .imul, 1), (89, (.iload 4), 2), (91, .iadd, 1), (92, .laload, 1), (93, .l2i, 1), (94, (.iconst 1), 1), (95, .bastore, 1), (96, (.iinc 4 1), 3), (99, (.goto (-64)), 3), (102, (.iinc 3 1), 3), (105, (.goto (-81)), 3), (108, (.iconst 0), 1), (109, (.istore_n 3), 1), (110, (.iload_n 3), 1), (111, (.aload_n 0), 1), (112, (.getfield 173), 3), (115, (.if_icmp .ge 30), 3), (118, (.aload_n 0), 1), (119, (.getfield 72), 3), (122, (.iload_n 3), 1), (123, .iaload, 1), (124, (.ifCond .lt 15), 3), (127, (.aload_n 0), 1), (128, (.getfield 60), 3), (131, (.aload_n 0), 1), (132, (.getfield 72), 3), (135, (.iload_n 3), 1), (136, .iaload, 1), (137, (.iconst 1), 1), (138, .bastore, 1), (139, (.iinc 3 1), 3), (142, (.goto (-32)), 3), (145, (.iconst 0), 1), (146, (.istore_n 3), 1), (147, (.aload_n 0), 1), (148, (.getfield 60), 3), (151, (.iload_n 3), 1), (152, .baload, 1), (153, (.ifCond .eq 9), 3), (156, (.iinc 3 1), 3), (159, (.goto (-12)), 3), (162, (.aload_n 0), 1), (163, (.getfield 51), 3), (166, (.iload_n 3), 1), (167, (.iload_n 1), 1), (168, .iastore, 1), (169, (.aload_n 0), 1), (170, (.getfield 54), 3), (173, (.iload_n 3), 1), (174, (.iload_n 2), 1), (175, .iastore, 1), (176, (.iconst 0), 1), (177, (.istore 4), 2), (179, (.iload 4), 2), (181, (.bipush 12), 2), (183, (.if_icmp .ge 22), 3), (186, (.aload_n 0), 1), (187, (.getfield 57), 3), (190, (.bipush 12), 2), (192, (.iload_n 3), 1), (193, .imul, 1), (194, (.iload 4), 2), (196, .iadd, 1), (197, (.lconst 0), 1), (198, .lastore, 1), (199, (.iinc 4 1), 3), (202, (.goto (-23)), 3), (205, (.iload_n 3), 1)]
theorem tbX9_newRow_n30_ok : ∀ q ∈ tbX9_newRow_n30, decode cX9_newRow q.1 = .ok q.2 := by decide +kernel
theorem dX9_newRow_0 : decode cX9_newRow 0 = .ok (.iconst 0, 1) := tb_at tbX9_newRow_n30_ok 0 rfl
theorem dX9_newRow_1 : decode cX9_newRow 1 = .ok (.istore_n 3, 1) := tb_at tbX9_newRow_n30_ok 1 rfl
theorem dX9_newRow_2 : decode cX9_newRow 2 = .ok (.iload_n 3, 1) := tb_at tbX9_newRow_n30_ok 2 rfl
theorem dX9_newRow_3 : decode cX9_newRow 3 = .ok (.sipush 400, 3) := tb_at tbX9_newRow_n30_ok 3 rfl
theorem dX9_newRow_6 : decode cX9_newRow 6 = .ok (.if_icmp .ge 16, 3) := tb_at tbX9_newRow_n30_ok 4 rfl
theorem dX9_newRow_9 : decode cX9_newRow 9 = .ok (.aload_n 0, 1) := tb_at tbX9_newRow_n30_ok 5 rfl
theorem dX9_newRow_10 : decode cX9_newRow 10 = .ok (.getfield 60, 3) := tb_at tbX9_newRow_n30_ok 6 rfl
theorem dX9_newRow_13 : decode cX9_newRow 13 = .ok (.iload_n 3, 1) := tb_at tbX9_newRow_n30_ok 7 rfl
theorem dX9_newRow_14 : decode cX9_newRow 14 = .ok (.iconst 0, 1) := tb_at tbX9_newRow_n30_ok 8 rfl
theorem dX9_newRow_15 : decode cX9_newRow 15 = .ok (.bastore, 1) := tb_at tbX9_newRow_n30_ok 9 rfl
theorem dX9_newRow_16 : decode cX9_newRow 16 = .ok (.iinc 3 1, 3) := tb_at tbX9_newRow_n30_ok 10 rfl
theorem dX9_newRow_19 : decode cX9_newRow 19 = .ok (.goto (-17), 3) := tb_at tbX9_newRow_n30_ok 11 rfl
theorem dX9_newRow_22 : decode cX9_newRow 22 = .ok (.iconst 0, 1) := tb_at tbX9_newRow_n30_ok 12 rfl
theorem dX9_newRow_23 : decode cX9_newRow 23 = .ok (.istore_n 3, 1) := tb_at tbX9_newRow_n30_ok 13 rfl
theorem dX9_newRow_24 : decode cX9_newRow 24 = .ok (.iload_n 3, 1) := tb_at tbX9_newRow_n30_ok 14 rfl
theorem dX9_newRow_25 : decode cX9_newRow 25 = .ok (.aload_n 0, 1) := tb_at tbX9_newRow_n30_ok 15 rfl
theorem dX9_newRow_26 : decode cX9_newRow 26 = .ok (.getfield 151, 3) := tb_at tbX9_newRow_n30_ok 16 rfl
theorem dX9_newRow_29 : decode cX9_newRow 29 = .ok (.if_icmp .ge 79, 3) := tb_at tbX9_newRow_n30_ok 17 rfl
theorem dX9_newRow_32 : decode cX9_newRow 32 = .ok (.iconst 0, 1) := tb_at tbX9_newRow_n30_ok 18 rfl
theorem dX9_newRow_33 : decode cX9_newRow 33 = .ok (.istore 4, 2) := tb_at tbX9_newRow_n30_ok 19 rfl
theorem dX9_newRow_35 : decode cX9_newRow 35 = .ok (.iload 4, 2) := tb_at tbX9_newRow_n30_ok 20 rfl
theorem dX9_newRow_37 : decode cX9_newRow 37 = .ok (.aload_n 0, 1) := tb_at tbX9_newRow_n30_ok 21 rfl
theorem dX9_newRow_38 : decode cX9_newRow 38 = .ok (.getfield 13, 3) := tb_at tbX9_newRow_n30_ok 22 rfl
theorem dX9_newRow_41 : decode cX9_newRow 41 = .ok (.aload_n 0, 1) := tb_at tbX9_newRow_n30_ok 23 rfl
theorem dX9_newRow_42 : decode cX9_newRow 42 = .ok (.getfield 45, 3) := tb_at tbX9_newRow_n30_ok 24 rfl
theorem dX9_newRow_45 : decode cX9_newRow 45 = .ok (.iload_n 3, 1) := tb_at tbX9_newRow_n30_ok 25 rfl
theorem dX9_newRow_46 : decode cX9_newRow 46 = .ok (.iaload, 1) := tb_at tbX9_newRow_n30_ok 26 rfl
theorem dX9_newRow_47 : decode cX9_newRow 47 = .ok (.iaload, 1) := tb_at tbX9_newRow_n30_ok 27 rfl
theorem dX9_newRow_48 : decode cX9_newRow 48 = .ok (.if_icmp .ge 54, 3) := tb_at tbX9_newRow_n30_ok 28 rfl
theorem dX9_newRow_51 : decode cX9_newRow 51 = .ok (.aload_n 0, 1) := tb_at tbX9_newRow_n30_ok 29 rfl
theorem dX9_newRow_52 : decode cX9_newRow 52 = .ok (.iload_n 3, 1) := tb_at tbX9_newRow_n30_ok 30 rfl
theorem dX9_newRow_53 : decode cX9_newRow 53 = .ok (.iload 4, 2) := tb_at tbX9_newRow_n30_ok 31 rfl
theorem dX9_newRow_55 : decode cX9_newRow 55 = .ok (.invokevirtual 170, 3) := tb_at tbX9_newRow_n30_ok 32 rfl
theorem dX9_newRow_58 : decode cX9_newRow 58 = .ok (.iconst 3, 1) := tb_at tbX9_newRow_n30_ok 33 rfl
theorem dX9_newRow_59 : decode cX9_newRow 59 = .ok (.if_icmp .lt 37, 3) := tb_at tbX9_newRow_n30_ok 34 rfl
theorem dX9_newRow_62 : decode cX9_newRow 62 = .ok (.aload_n 0, 1) := tb_at tbX9_newRow_n30_ok 35 rfl
theorem dX9_newRow_63 : decode cX9_newRow 63 = .ok (.getfield 48, 3) := tb_at tbX9_newRow_n30_ok 36 rfl
theorem dX9_newRow_66 : decode cX9_newRow 66 = .ok (.iconst 5, 1) := tb_at tbX9_newRow_n30_ok 37 rfl
theorem dX9_newRow_67 : decode cX9_newRow 67 = .ok (.iload_n 3, 1) := tb_at tbX9_newRow_n30_ok 38 rfl
theorem dX9_newRow_68 : decode cX9_newRow 68 = .ok (.imul, 1) := tb_at tbX9_newRow_n30_ok 39 rfl
theorem dX9_newRow_69 : decode cX9_newRow 69 = .ok (.iload 4, 2) := tb_at tbX9_newRow_n30_ok 40 rfl
theorem dX9_newRow_71 : decode cX9_newRow 71 = .ok (.iadd, 1) := tb_at tbX9_newRow_n30_ok 41 rfl
theorem dX9_newRow_72 : decode cX9_newRow 72 = .ok (.laload, 1) := tb_at tbX9_newRow_n30_ok 42 rfl
theorem dX9_newRow_73 : decode cX9_newRow 73 = .ok (.lconst 0, 1) := tb_at tbX9_newRow_n30_ok 43 rfl
theorem dX9_newRow_74 : decode cX9_newRow 74 = .ok (.lcmp, 1) := tb_at tbX9_newRow_n30_ok 44 rfl
theorem dX9_newRow_75 : decode cX9_newRow 75 = .ok (.ifCond .lt 21, 3) := tb_at tbX9_newRow_n30_ok 45 rfl
theorem dX9_newRow_78 : decode cX9_newRow 78 = .ok (.aload_n 0, 1) := tb_at tbX9_newRow_n30_ok 46 rfl
theorem dX9_newRow_79 : decode cX9_newRow 79 = .ok (.getfield 60, 3) := tb_at tbX9_newRow_n30_ok 47 rfl
theorem dX9_newRow_82 : decode cX9_newRow 82 = .ok (.aload_n 0, 1) := tb_at tbX9_newRow_n30_ok 48 rfl
theorem dX9_newRow_83 : decode cX9_newRow 83 = .ok (.getfield 48, 3) := tb_at tbX9_newRow_n30_ok 49 rfl
theorem dX9_newRow_86 : decode cX9_newRow 86 = .ok (.iconst 5, 1) := tb_at tbX9_newRow_n30_ok 50 rfl
theorem dX9_newRow_87 : decode cX9_newRow 87 = .ok (.iload_n 3, 1) := tb_at tbX9_newRow_n30_ok 51 rfl
theorem dX9_newRow_88 : decode cX9_newRow 88 = .ok (.imul, 1) := tb_at tbX9_newRow_n30_ok 52 rfl
theorem dX9_newRow_89 : decode cX9_newRow 89 = .ok (.iload 4, 2) := tb_at tbX9_newRow_n30_ok 53 rfl
theorem dX9_newRow_91 : decode cX9_newRow 91 = .ok (.iadd, 1) := tb_at tbX9_newRow_n30_ok 54 rfl
theorem dX9_newRow_92 : decode cX9_newRow 92 = .ok (.laload, 1) := tb_at tbX9_newRow_n30_ok 55 rfl
theorem dX9_newRow_93 : decode cX9_newRow 93 = .ok (.l2i, 1) := tb_at tbX9_newRow_n30_ok 56 rfl
theorem dX9_newRow_94 : decode cX9_newRow 94 = .ok (.iconst 1, 1) := tb_at tbX9_newRow_n30_ok 57 rfl
theorem dX9_newRow_95 : decode cX9_newRow 95 = .ok (.bastore, 1) := tb_at tbX9_newRow_n30_ok 58 rfl
theorem dX9_newRow_96 : decode cX9_newRow 96 = .ok (.iinc 4 1, 3) := tb_at tbX9_newRow_n30_ok 59 rfl
theorem dX9_newRow_99 : decode cX9_newRow 99 = .ok (.goto (-64), 3) := tb_at tbX9_newRow_n30_ok 60 rfl
theorem dX9_newRow_102 : decode cX9_newRow 102 = .ok (.iinc 3 1, 3) := tb_at tbX9_newRow_n30_ok 61 rfl
theorem dX9_newRow_105 : decode cX9_newRow 105 = .ok (.goto (-81), 3) := tb_at tbX9_newRow_n30_ok 62 rfl
theorem dX9_newRow_108 : decode cX9_newRow 108 = .ok (.iconst 0, 1) := tb_at tbX9_newRow_n30_ok 63 rfl
theorem dX9_newRow_109 : decode cX9_newRow 109 = .ok (.istore_n 3, 1) := tb_at tbX9_newRow_n30_ok 64 rfl
theorem dX9_newRow_110 : decode cX9_newRow 110 = .ok (.iload_n 3, 1) := tb_at tbX9_newRow_n30_ok 65 rfl
theorem dX9_newRow_111 : decode cX9_newRow 111 = .ok (.aload_n 0, 1) := tb_at tbX9_newRow_n30_ok 66 rfl
theorem dX9_newRow_112 : decode cX9_newRow 112 = .ok (.getfield 173, 3) := tb_at tbX9_newRow_n30_ok 67 rfl
theorem dX9_newRow_115 : decode cX9_newRow 115 = .ok (.if_icmp .ge 30, 3) := tb_at tbX9_newRow_n30_ok 68 rfl
theorem dX9_newRow_118 : decode cX9_newRow 118 = .ok (.aload_n 0, 1) := tb_at tbX9_newRow_n30_ok 69 rfl
theorem dX9_newRow_119 : decode cX9_newRow 119 = .ok (.getfield 72, 3) := tb_at tbX9_newRow_n30_ok 70 rfl
theorem dX9_newRow_122 : decode cX9_newRow 122 = .ok (.iload_n 3, 1) := tb_at tbX9_newRow_n30_ok 71 rfl
theorem dX9_newRow_123 : decode cX9_newRow 123 = .ok (.iaload, 1) := tb_at tbX9_newRow_n30_ok 72 rfl
theorem dX9_newRow_124 : decode cX9_newRow 124 = .ok (.ifCond .lt 15, 3) := tb_at tbX9_newRow_n30_ok 73 rfl
theorem dX9_newRow_127 : decode cX9_newRow 127 = .ok (.aload_n 0, 1) := tb_at tbX9_newRow_n30_ok 74 rfl
theorem dX9_newRow_128 : decode cX9_newRow 128 = .ok (.getfield 60, 3) := tb_at tbX9_newRow_n30_ok 75 rfl
theorem dX9_newRow_131 : decode cX9_newRow 131 = .ok (.aload_n 0, 1) := tb_at tbX9_newRow_n30_ok 76 rfl
theorem dX9_newRow_132 : decode cX9_newRow 132 = .ok (.getfield 72, 3) := tb_at tbX9_newRow_n30_ok 77 rfl
theorem dX9_newRow_135 : decode cX9_newRow 135 = .ok (.iload_n 3, 1) := tb_at tbX9_newRow_n30_ok 78 rfl
theorem dX9_newRow_136 : decode cX9_newRow 136 = .ok (.iaload, 1) := tb_at tbX9_newRow_n30_ok 79 rfl
theorem dX9_newRow_137 : decode cX9_newRow 137 = .ok (.iconst 1, 1) := tb_at tbX9_newRow_n30_ok 80 rfl
theorem dX9_newRow_138 : decode cX9_newRow 138 = .ok (.bastore, 1) := tb_at tbX9_newRow_n30_ok 81 rfl
theorem dX9_newRow_139 : decode cX9_newRow 139 = .ok (.iinc 3 1, 3) := tb_at tbX9_newRow_n30_ok 82 rfl
theorem dX9_newRow_142 : decode cX9_newRow 142 = .ok (.goto (-32), 3) := tb_at tbX9_newRow_n30_ok 83 rfl
theorem dX9_newRow_145 : decode cX9_newRow 145 = .ok (.iconst 0, 1) := tb_at tbX9_newRow_n30_ok 84 rfl
theorem dX9_newRow_146 : decode cX9_newRow 146 = .ok (.istore_n 3, 1) := tb_at tbX9_newRow_n30_ok 85 rfl
theorem dX9_newRow_147 : decode cX9_newRow 147 = .ok (.aload_n 0, 1) := tb_at tbX9_newRow_n30_ok 86 rfl
theorem dX9_newRow_148 : decode cX9_newRow 148 = .ok (.getfield 60, 3) := tb_at tbX9_newRow_n30_ok 87 rfl
theorem dX9_newRow_151 : decode cX9_newRow 151 = .ok (.iload_n 3, 1) := tb_at tbX9_newRow_n30_ok 88 rfl
theorem dX9_newRow_152 : decode cX9_newRow 152 = .ok (.baload, 1) := tb_at tbX9_newRow_n30_ok 89 rfl
theorem dX9_newRow_153 : decode cX9_newRow 153 = .ok (.ifCond .eq 9, 3) := tb_at tbX9_newRow_n30_ok 90 rfl
theorem dX9_newRow_156 : decode cX9_newRow 156 = .ok (.iinc 3 1, 3) := tb_at tbX9_newRow_n30_ok 91 rfl
theorem dX9_newRow_159 : decode cX9_newRow 159 = .ok (.goto (-12), 3) := tb_at tbX9_newRow_n30_ok 92 rfl
theorem dX9_newRow_162 : decode cX9_newRow 162 = .ok (.aload_n 0, 1) := tb_at tbX9_newRow_n30_ok 93 rfl
theorem dX9_newRow_163 : decode cX9_newRow 163 = .ok (.getfield 51, 3) := tb_at tbX9_newRow_n30_ok 94 rfl
theorem dX9_newRow_166 : decode cX9_newRow 166 = .ok (.iload_n 3, 1) := tb_at tbX9_newRow_n30_ok 95 rfl
theorem dX9_newRow_167 : decode cX9_newRow 167 = .ok (.iload_n 1, 1) := tb_at tbX9_newRow_n30_ok 96 rfl
theorem dX9_newRow_168 : decode cX9_newRow 168 = .ok (.iastore, 1) := tb_at tbX9_newRow_n30_ok 97 rfl
theorem dX9_newRow_169 : decode cX9_newRow 169 = .ok (.aload_n 0, 1) := tb_at tbX9_newRow_n30_ok 98 rfl
theorem dX9_newRow_170 : decode cX9_newRow 170 = .ok (.getfield 54, 3) := tb_at tbX9_newRow_n30_ok 99 rfl
theorem dX9_newRow_173 : decode cX9_newRow 173 = .ok (.iload_n 3, 1) := tb_at tbX9_newRow_n30_ok 100 rfl
theorem dX9_newRow_174 : decode cX9_newRow 174 = .ok (.iload_n 2, 1) := tb_at tbX9_newRow_n30_ok 101 rfl
theorem dX9_newRow_175 : decode cX9_newRow 175 = .ok (.iastore, 1) := tb_at tbX9_newRow_n30_ok 102 rfl
theorem dX9_newRow_176 : decode cX9_newRow 176 = .ok (.iconst 0, 1) := tb_at tbX9_newRow_n30_ok 103 rfl
theorem dX9_newRow_177 : decode cX9_newRow 177 = .ok (.istore 4, 2) := tb_at tbX9_newRow_n30_ok 104 rfl
theorem dX9_newRow_179 : decode cX9_newRow 179 = .ok (.iload 4, 2) := tb_at tbX9_newRow_n30_ok 105 rfl
theorem dX9_newRow_181 : decode cX9_newRow 181 = .ok (.bipush 12, 2) := tb_at tbX9_newRow_n30_ok 106 rfl
theorem dX9_newRow_183 : decode cX9_newRow 183 = .ok (.if_icmp .ge 22, 3) := tb_at tbX9_newRow_n30_ok 107 rfl
theorem dX9_newRow_186 : decode cX9_newRow 186 = .ok (.aload_n 0, 1) := tb_at tbX9_newRow_n30_ok 108 rfl
theorem dX9_newRow_187 : decode cX9_newRow 187 = .ok (.getfield 57, 3) := tb_at tbX9_newRow_n30_ok 109 rfl
theorem dX9_newRow_190 : decode cX9_newRow 190 = .ok (.bipush 12, 2) := tb_at tbX9_newRow_n30_ok 110 rfl
theorem dX9_newRow_192 : decode cX9_newRow 192 = .ok (.iload_n 3, 1) := tb_at tbX9_newRow_n30_ok 111 rfl
theorem dX9_newRow_193 : decode cX9_newRow 193 = .ok (.imul, 1) := tb_at tbX9_newRow_n30_ok 112 rfl
theorem dX9_newRow_194 : decode cX9_newRow 194 = .ok (.iload 4, 2) := tb_at tbX9_newRow_n30_ok 113 rfl
theorem dX9_newRow_196 : decode cX9_newRow 196 = .ok (.iadd, 1) := tb_at tbX9_newRow_n30_ok 114 rfl
theorem dX9_newRow_197 : decode cX9_newRow 197 = .ok (.lconst 0, 1) := tb_at tbX9_newRow_n30_ok 115 rfl
theorem dX9_newRow_198 : decode cX9_newRow 198 = .ok (.lastore, 1) := tb_at tbX9_newRow_n30_ok 116 rfl
theorem dX9_newRow_199 : decode cX9_newRow 199 = .ok (.iinc 4 1, 3) := tb_at tbX9_newRow_n30_ok 117 rfl
theorem dX9_newRow_202 : decode cX9_newRow 202 = .ok (.goto (-23), 3) := tb_at tbX9_newRow_n30_ok 118 rfl
theorem dX9_newRow_205 : decode cX9_newRow 205 = .ok (.iload_n 3, 1) := tb_at tbX9_newRow_n30_ok 119 rfl
noncomputable def tbX9_newRow_n31 : List (Nat × Instr × Nat) := [(206, .ireturn, 1)]
theorem tbX9_newRow_n31_ok : ∀ q ∈ tbX9_newRow_n31, decode cX9_newRow q.1 = .ok q.2 := by decide +kernel
theorem dX9_newRow_206 : decode cX9_newRow 206 = .ok (.ireturn, 1) := tb_at tbX9_newRow_n31_ok 0 rfl
noncomputable def tbX9_cut_n30 : List (Nat × Instr × Nat) := [(0, (.iload_n 0), 1), (1, (.iconst 3), 1), (2, (.if_icmp .ne 10), 3), (5, (.lload_n 1), 1), (6, .l2i, 1), (7, .i2b, 1), (8, .i2l, 1), (9, (.goto 15), 3), (12, (.iload_n 0), 1), (13, (.iconst 4), 1), (14, (.if_icmp .ne 9), 3), (17, (.lload_n 1), 1), (18, .l2i, 1), (19, .i2l, 1), (20, (.goto 4), 3), (23, (.lload_n 1), 1), (24, .lreturn, 1)]
theorem tbX9_cut_n30_ok : ∀ q ∈ tbX9_cut_n30, decode cX9_cut q.1 = .ok q.2 := by decide +kernel
theorem dX9_cut_0 : decode cX9_cut 0 = .ok (.iload_n 0, 1) := tb_at tbX9_cut_n30_ok 0 rfl
theorem dX9_cut_1 : decode cX9_cut 1 = .ok (.iconst 3, 1) := tb_at tbX9_cut_n30_ok 1 rfl
theorem dX9_cut_2 : decode cX9_cut 2 = .ok (.if_icmp .ne 10, 3) := tb_at tbX9_cut_n30_ok 2 rfl
theorem dX9_cut_5 : decode cX9_cut 5 = .ok (.lload_n 1, 1) := tb_at tbX9_cut_n30_ok 3 rfl
theorem dX9_cut_6 : decode cX9_cut 6 = .ok (.l2i, 1) := tb_at tbX9_cut_n30_ok 4 rfl
theorem dX9_cut_7 : decode cX9_cut 7 = .ok (.i2b, 1) := tb_at tbX9_cut_n30_ok 5 rfl
theorem dX9_cut_8 : decode cX9_cut 8 = .ok (.i2l, 1) := tb_at tbX9_cut_n30_ok 6 rfl
theorem dX9_cut_9 : decode cX9_cut 9 = .ok (.goto 15, 3) := tb_at tbX9_cut_n30_ok 7 rfl
theorem dX9_cut_12 : decode cX9_cut 12 = .ok (.iload_n 0, 1) := tb_at tbX9_cut_n30_ok 8 rfl
theorem dX9_cut_13 : decode cX9_cut 13 = .ok (.iconst 4, 1) := tb_at tbX9_cut_n30_ok 9 rfl
theorem dX9_cut_14 : decode cX9_cut 14 = .ok (.if_icmp .ne 9, 3) := tb_at tbX9_cut_n30_ok 10 rfl
theorem dX9_cut_17 : decode cX9_cut 17 = .ok (.lload_n 1, 1) := tb_at tbX9_cut_n30_ok 11 rfl
theorem dX9_cut_18 : decode cX9_cut 18 = .ok (.l2i, 1) := tb_at tbX9_cut_n30_ok 12 rfl
theorem dX9_cut_19 : decode cX9_cut 19 = .ok (.i2l, 1) := tb_at tbX9_cut_n30_ok 13 rfl
theorem dX9_cut_20 : decode cX9_cut 20 = .ok (.goto 4, 3) := tb_at tbX9_cut_n30_ok 14 rfl
theorem dX9_cut_23 : decode cX9_cut 23 = .ok (.lload_n 1, 1) := tb_at tbX9_cut_n30_ok 15 rfl
theorem dX9_cut_24 : decode cX9_cut 24 = .ok (.lreturn, 1) := tb_at tbX9_cut_n30_ok 16 rfl
set_option maxRecDepth 20000 in
theorem ggX9_thing_X9_isType : GoodIn wsX9_thing wsX9_isType := goodIn_r _ [11, 12, 13, 14, 15, 16, 17, 18, 19, 20, 21, 22, 23, 24, 25, 26, 27, 28, 29, 30, 31, 32, 33, 34, 35, 36, 37, 38, 39, 40, 41, 42, 43, 44, 45, 46, 47, 48, 49, 50, 51, 52, 53, 54, 55, 56, 57, 58, 59, 60, 61, 62, 63] (by decide +kernel) (by decide +kernel)
set_option maxRecDepth 20000 in
theorem gX9_thing_X9_isType : GoodIn wsX9_thing (wsV RX9 158 RX9 yX9_isType wsX9_isType) := goodIn_app (goodIn_of _ (by decide +kernel)) ggX9_thing_X9_isType
noncomputable def tbX9_thing_n30 : List (Nat × Instr × Nat) := [(0, (.aload_n 0), 1), (1, (.iconst 0), 1), (2, (.putfield 145), 3), (5, (.aload_n 0), 1), (6, (.iload_n 1), 1), (7, (.invokevirtual 158), 3), (10, (.ifCond .ne 5), 3), (13, (.iconst (-1)), 1), (14, .ireturn, 1), (15, (.aload_n 0), 1), (16, (.getfield 151), 3), (19, (.bipush 30), 2), (21, (.if_icmp .ne 6), 3), (24, (.bipush (-4)), 2), (26, .ireturn, 1), (27, (.aload_n 0), 1), (28, (.getfield 45), 3), (31, (.aload_n 0), 1), (32, (.getfield 151), 3), (35, (.iload_n 1), 1), (36, .iastore, 1), (37, (.iconst 0), 1), (38, (.istore_n 2), 1), (39, (.iload_n 2), 1), (40, (.aload_n 0), 1), (41, (.getfield 13), 3), (44, (.iload_n 1), 1), (45, .iaload, 1), (46, (.if_icmp .ge 32), 3), (49, (.aload_n 0), 1), (50, (.getfield 48), 3), (53, (.iconst 5), 1), (54, (.aload_n 0), 1), (55, (.getfield 151), 3), (58, .imul, 1), (59, (.iload_n 2), 1), (60, .iadd, 1), (61, (.aload_n 0), 1), (62, (.getfield 23), 3), (65, (.iconst 5), 1), (66, (.iload_n 1), 1), (67, .imul, 1), (68, (.iload_n 2), 1), (69, .iadd, 1), (70, .laload, 1), (71, .lastore, 1), (72, (.iinc 2 1), 3), (75, (.goto (-36)), 3), (78, (.aload_n 0), 1), (79, .dup, 1), (80, (.getfield 151), 3), (83, (.iconst 1), 1), (84, .iadd, 1), (85, (.putfield 151), 3), (88, (.aload_n 0), 1), (89, (.getfield 151), 3), (92, (.iconst 1), 1), (93, .isub, 1), (94, .ireturn, 1)]
theorem tbX9_thing_n30_ok : ∀ q ∈ tbX9_thing_n30, decode cX9_thing q.1 = .ok q.2 := by decide +kernel
theorem dX9_thing_0 : decode cX9_thing 0 = .ok (.aload_n 0, 1) := tb_at tbX9_thing_n30_ok 0 rfl
theorem dX9_thing_1 : decode cX9_thing 1 = .ok (.iconst 0, 1) := tb_at tbX9_thing_n30_ok 1 rfl
theorem dX9_thing_2 : decode cX9_thing 2 = .ok (.putfield 145, 3) := tb_at tbX9_thing_n30_ok 2 rfl
theorem dX9_thing_5 : decode cX9_thing 5 = .ok (.aload_n 0, 1) := tb_at tbX9_thing_n30_ok 3 rfl
theorem dX9_thing_6 : decode cX9_thing 6 = .ok (.iload_n 1, 1) := tb_at tbX9_thing_n30_ok 4 rfl
theorem dX9_thing_7 : decode cX9_thing 7 = .ok (.invokevirtual 158, 3) := tb_at tbX9_thing_n30_ok 5 rfl
theorem dX9_thing_10 : decode cX9_thing 10 = .ok (.ifCond .ne 5, 3) := tb_at tbX9_thing_n30_ok 6 rfl
theorem dX9_thing_13 : decode cX9_thing 13 = .ok (.iconst (-1), 1) := tb_at tbX9_thing_n30_ok 7 rfl
theorem dX9_thing_14 : decode cX9_thing 14 = .ok (.ireturn, 1) := tb_at tbX9_thing_n30_ok 8 rfl
theorem dX9_thing_15 : decode cX9_thing 15 = .ok (.aload_n 0, 1) := tb_at tbX9_thing_n30_ok 9 rfl
theorem dX9_thing_16 : decode cX9_thing 16 = .ok (.getfield 151, 3) := tb_at tbX9_thing_n30_ok 10 rfl
theorem dX9_thing_19 : decode cX9_thing 19 = .ok (.bipush 30, 2) := tb_at tbX9_thing_n30_ok 11 rfl
theorem dX9_thing_21 : decode cX9_thing 21 = .ok (.if_icmp .ne 6, 3) := tb_at tbX9_thing_n30_ok 12 rfl
theorem dX9_thing_24 : decode cX9_thing 24 = .ok (.bipush (-4), 2) := tb_at tbX9_thing_n30_ok 13 rfl
theorem dX9_thing_26 : decode cX9_thing 26 = .ok (.ireturn, 1) := tb_at tbX9_thing_n30_ok 14 rfl
theorem dX9_thing_27 : decode cX9_thing 27 = .ok (.aload_n 0, 1) := tb_at tbX9_thing_n30_ok 15 rfl
theorem dX9_thing_28 : decode cX9_thing 28 = .ok (.getfield 45, 3) := tb_at tbX9_thing_n30_ok 16 rfl
theorem dX9_thing_31 : decode cX9_thing 31 = .ok (.aload_n 0, 1) := tb_at tbX9_thing_n30_ok 17 rfl
theorem dX9_thing_32 : decode cX9_thing 32 = .ok (.getfield 151, 3) := tb_at tbX9_thing_n30_ok 18 rfl
theorem dX9_thing_35 : decode cX9_thing 35 = .ok (.iload_n 1, 1) := tb_at tbX9_thing_n30_ok 19 rfl
theorem dX9_thing_36 : decode cX9_thing 36 = .ok (.iastore, 1) := tb_at tbX9_thing_n30_ok 20 rfl
theorem dX9_thing_37 : decode cX9_thing 37 = .ok (.iconst 0, 1) := tb_at tbX9_thing_n30_ok 21 rfl
theorem dX9_thing_38 : decode cX9_thing 38 = .ok (.istore_n 2, 1) := tb_at tbX9_thing_n30_ok 22 rfl
theorem dX9_thing_39 : decode cX9_thing 39 = .ok (.iload_n 2, 1) := tb_at tbX9_thing_n30_ok 23 rfl
theorem dX9_thing_40 : decode cX9_thing 40 = .ok (.aload_n 0, 1) := tb_at tbX9_thing_n30_ok 24 rfl
theorem dX9_thing_41 : decode cX9_thing 41 = .ok (.getfield 13, 3) := tb_at tbX9_thing_n30_ok 25 rfl
theorem dX9_thing_44 : decode cX9_thing 44 = .ok (.iload_n 1, 1) := tb_at tbX9_thing_n30_ok 26 rfl
theorem dX9_thing_45 : decode cX9_thing 45 = .ok (.iaload, 1) := tb_at tbX9_thing_n30_ok 27 rfl
theorem dX9_thing_46 : decode cX9_thing 46 = .ok (.if_icmp .ge 32, 3) := tb_at tbX9_thing_n30_ok 28 rfl
theorem dX9_thing_49 : decode cX9_thing 49 = .ok (.aload_n 0, 1) := tb_at tbX9_thing_n30_ok 29 rfl
theorem dX9_thing_50 : decode cX9_thing 50 = .ok (.getfield 48, 3) := tb_at tbX9_thing_n30_ok 30 rfl
theorem dX9_thing_53 : decode cX9_thing 53 = .ok (.iconst 5, 1) := tb_at tbX9_thing_n30_ok 31 rfl
theorem dX9_thing_54 : decode cX9_thing 54 = .ok (.aload_n 0, 1) := tb_at tbX9_thing_n30_ok 32 rfl
theorem dX9_thing_55 : decode cX9_thing 55 = .ok (.getfield 151, 3) := tb_at tbX9_thing_n30_ok 33 rfl
theorem dX9_thing_58 : decode cX9_thing 58 = .ok (.imul, 1) := tb_at tbX9_thing_n30_ok 34 rfl
theorem dX9_thing_59 : decode cX9_thing 59 = .ok (.iload_n 2, 1) := tb_at tbX9_thing_n30_ok 35 rfl
theorem dX9_thing_60 : decode cX9_thing 60 = .ok (.iadd, 1) := tb_at tbX9_thing_n30_ok 36 rfl
theorem dX9_thing_61 : decode cX9_thing 61 = .ok (.aload_n 0, 1) := tb_at tbX9_thing_n30_ok 37 rfl
theorem dX9_thing_62 : decode cX9_thing 62 = .ok (.getfield 23, 3) := tb_at tbX9_thing_n30_ok 38 rfl
theorem dX9_thing_65 : decode cX9_thing 65 = .ok (.iconst 5, 1) := tb_at tbX9_thing_n30_ok 39 rfl
theorem dX9_thing_66 : decode cX9_thing 66 = .ok (.iload_n 1, 1) := tb_at tbX9_thing_n30_ok 40 rfl
theorem dX9_thing_67 : decode cX9_thing 67 = .ok (.imul, 1) := tb_at tbX9_thing_n30_ok 41 rfl
theorem dX9_thing_68 : decode cX9_thing 68 = .ok (.iload_n 2, 1) := tb_at tbX9_thing_n30_ok 42 rfl
theorem dX9_thing_69 : decode cX9_thing 69 = .ok (.iadd, 1) := tb_at tbX9_thing_n30_ok 43 rfl
theorem dX9_thing_70 : decode cX9_thing 70 = .ok (.laload, 1) := tb_at tbX9_thing_n30_ok 44 rfl
theorem dX9_thing_71 : decode cX9_thing 71 = .ok (.lastore, 1) := tb_at tbX9_thing_n30_ok 45 rfl
theorem dX9_thing_72 : decode cX9_thing 72 = .ok (.iinc 2 1, 3) := tb_at tbX9_thing_n30_ok 46 rfl
theorem dX9_thing_75 : decode cX9_thing 75 = .ok (.goto (-36), 3) := tb_at tbX9_thing_n30_ok 47 rfl
theorem dX9_thing_78 : decode cX9_thing 78 = .ok (.aload_n 0, 1) := tb_at tbX9_thing_n30_ok 48 rfl
theorem dX9_thing_79 : decode cX9_thing 79 = .ok (.dup, 1) := tb_at tbX9_thing_n30_ok 49 rfl
theorem dX9_thing_80 : decode cX9_thing 80 = .ok (.getfield 151, 3) := tb_at tbX9_thing_n30_ok 50 rfl
theorem dX9_thing_83 : decode cX9_thing 83 = .ok (.iconst 1, 1) := tb_at tbX9_thing_n30_ok 51 rfl
theorem dX9_thing_84 : decode cX9_thing 84 = .ok (.iadd, 1) := tb_at tbX9_thing_n30_ok 52 rfl
theorem dX9_thing_85 : decode cX9_thing 85 = .ok (.putfield 151, 3) := tb_at tbX9_thing_n30_ok 53 rfl
theorem dX9_thing_88 : decode cX9_thing 88 = .ok (.aload_n 0, 1) := tb_at tbX9_thing_n30_ok 54 rfl
theorem dX9_thing_89 : decode cX9_thing 89 = .ok (.getfield 151, 3) := tb_at tbX9_thing_n30_ok 55 rfl
theorem dX9_thing_92 : decode cX9_thing 92 = .ok (.iconst 1, 1) := tb_at tbX9_thing_n30_ok 56 rfl
theorem dX9_thing_93 : decode cX9_thing 93 = .ok (.isub, 1) := tb_at tbX9_thing_n30_ok 57 rfl
theorem dX9_thing_94 : decode cX9_thing 94 = .ok (.ireturn, 1) := tb_at tbX9_thing_n30_ok 58 rfl
noncomputable def tbX9_isFull_n30 : List (Nat × Instr × Nat) := [(0, (.aload_n 0), 1), (1, (.getfield 165), 3), (4, (.ifCond .le 16), 3), (7, (.aload_n 0), 1), (8, (.getfield 173), 3), (11, (.bipush 80), 2), (13, (.if_icmp .ne 7), 3), (16, (.iconst 1), 1), (17, (.goto 4), 3), (20, (.iconst 0), 1), (21, .ireturn, 1)]
theorem tbX9_isFull_n30_ok : ∀ q ∈ tbX9_isFull_n30, decode cX9_isFull q.1 = .ok q.2 := by decide +kernel
theorem dX9_isFull_0 : decode cX9_isFull 0 = .ok (.aload_n 0, 1) := tb_at tbX9_isFull_n30_ok 0 rfl
theorem dX9_isFull_1 : decode cX9_isFull 1 = .ok (.getfield 165, 3) := tb_at tbX9_isFull_n30_ok 1 rfl
theorem dX9_isFull_4 : decode cX9_isFull 4 = .ok (.ifCond .le 16, 3) := tb_at tbX9_isFull_n30_ok 2 rfl
theorem dX9_isFull_7 : decode cX9_isFull 7 = .ok (.aload_n 0, 1) := tb_at tbX9_isFull_n30_ok 3 rfl
theorem dX9_isFull_8 : decode cX9_isFull 8 = .ok (.getfield 173, 3) := tb_at tbX9_isFull_n30_ok 4 rfl
theorem dX9_isFull_11 : decode cX9_isFull 11 = .ok (.bipush 80, 2) := tb_at tbX9_isFull_n30_ok 5 rfl
theorem dX9_isFull_13 : decode cX9_isFull 13 = .ok (.if_icmp .ne 7, 3) := tb_at tbX9_isFull_n30_ok 6 rfl
theorem dX9_isFull_16 : decode cX9_isFull 16 = .ok (.iconst 1, 1) := tb_at tbX9_isFull_n30_ok 7 rfl
theorem dX9_isFull_17 : decode cX9_isFull 17 = .ok (.goto 4, 3) := tb_at tbX9_isFull_n30_ok 8 rfl
theorem dX9_isFull_20 : decode cX9_isFull 20 = .ok (.iconst 0, 1) := tb_at tbX9_isFull_n30_ok 9 rfl
theorem dX9_isFull_21 : decode cX9_isFull 21 = .ok (.ireturn, 1) := tb_at tbX9_isFull_n30_ok 10 rfl
set_option maxRecDepth 20000 in
theorem ggX9_becomes_X9_lane : GoodIn wsX9_becomes wsX9_lane := goodIn_r _ [13, 14, 15, 16, 17, 18, 19, 20, 21, 22, 23, 24, 25, 26, 27, 28, 29, 30, 31, 32, 33, 34, 35, 36, 37, 38, 39, 40, 41, 42, 43, 44, 45, 46, 47, 48, 49, 50, 51, 52, 53, 54, 55, 56, 57, 58, 59, 60, 61, 62, 63, 64, 65, 66] (by decide +kernel) (by decide +kernel)
set_option maxRecDepth 20000 in
theorem gX9_becomes_X9_lane : GoodIn wsX9_becomes (wsV RX9 170 RX9 yX9_lane wsX9_lane) := goodIn_app (goodIn_of _ (by decide +kernel)) ggX9_becomes_X9_lane
noncomputable def tbX9_becomes_n30 : List (Nat × Instr × Nat) := [(0, (.aload_n 0), 1), (1, (.getfield 165), 3), (4, (.ifCond .le 96), 3), (7, (.aload_n 0), 1), (8, (.getfield 66), 3), (11, (.aload_n 0), 1), (12, (.getfield 173), 3), (15, (.iload_n 1), 1), (16, .iastore, 1), (17, (.aload_n 0), 1), (18, (.getfield 69), 3), (21, (.aload_n 0), 1), (22, (.getfield 173), 3), (25, (.iload_n 2), 1), (26, .iastore, 1), (27, (.aload_n 0), 1), (28, (.getfield 75), 3), (31, (.aload_n 0), 1), (32, (.getfield 173), 3), (35, (.iconst (-1)), 1), (36, .iastore, 1), (37, (.aload_n 0), 1), (38, (.getfield 78), 3), (41, (.aload_n 0), 1), (42, (.getfield 173), 3), (45, (.aload_n 0), 1), (46, (.getfield 48), 3), (49, (.iconst 5), 1), (50, (.iload_n 1), 1), (51, .imul, 1), (52, (.iload_n 2), 1), (53, .iadd, 1), (54, .laload, 1), (55, .lastore, 1), (56, (.aload_n 0), 1), (57, (.getfield 72), 3), (60, (.aload_n 0), 1), (61, (.getfield 173), 3), (64, (.aload_n 0), 1), (65, (.iload_n 1), 1), (66, (.iload_n 2), 1), (67, (.invokevirtual 170), 3), (70, (.iconst 3), 1), (71, (.if_icmp .lt 17), 3), (74, (.aload_n 0), 1), (75, (.getfield 48), 3), (78, (.iconst 5), 1), (79, (.iload_n 1), 1), (80, .imul, 1), (81, (.iload_n 2), 1), (82, .iadd, 1), (83, .laload, 1), (84, .l2i, 1), (85, (.goto 4), 3), (88, (.iconst (-1)), 1), (89, .iastore, 1), (90, (.aload_n 0), 1), (91, .dup, 1), (92, (.getfield 173), 3), (95, (.iconst 1), 1), (96, .iadd, 1), (97, (.putfield 173), 3), (100, (.aload_n 0), 1), (101, (.getfield 48), 3), (104, (.iconst 5), 1), (105, (.iload_n 1), 1), (106, .imul, 1), (107, (.iload_n 2), 1), (108, .iadd, 1), (109, (.lload_n 3), 1), (110, .lastore, 1), (111, .return_, 1)]
theorem tbX9_becomes_n30_ok : ∀ q ∈ tbX9_becomes_n30, decode cX9_becomes q.1 = .ok q.2 := by decide +kernel
theorem dX9_becomes_0 : decode cX9_becomes 0 = .ok (.aload_n 0, 1) := tb_at tbX9_becomes_n30_ok 0 rfl
theorem dX9_becomes_1 : decode cX9_becomes 1 = .ok (.getfield 165, 3) := tb_at tbX9_becomes_n30_ok 1 rfl
theorem dX9_becomes_4 : decode cX9_becomes 4 = .ok (.ifCond .le 96, 3) := tb_at tbX9_becomes_n30_ok 2 rfl
theorem dX9_becomes_7 : decode cX9_becomes 7 = .ok (.aload_n 0, 1) := tb_at tbX9_becomes_n30_ok 3 rfl
theorem dX9_becomes_8 : decode cX9_becomes 8 = .ok (.getfield 66, 3) := tb_at tbX9_becomes_n30_ok 4 rfl
theorem dX9_becomes_11 : decode cX9_becomes 11 = .ok (.aload_n 0, 1) := tb_at tbX9_becomes_n30_ok 5 rfl
theorem dX9_becomes_12 : decode cX9_becomes 12 = .ok (.getfield 173, 3) := tb_at tbX9_becomes_n30_ok 6 rfl
theorem dX9_becomes_15 : decode cX9_becomes 15 = .ok (.iload_n 1, 1) := tb_at tbX9_becomes_n30_ok 7 rfl
theorem dX9_becomes_16 : decode cX9_becomes 16 = .ok (.iastore, 1) := tb_at tbX9_becomes_n30_ok 8 rfl
theorem dX9_becomes_17 : decode cX9_becomes 17 = .ok (.aload_n 0, 1) := tb_at tbX9_becomes_n30_ok 9 rfl
theorem dX9_becomes_18 : decode cX9_becomes 18 = .ok (.getfield 69, 3) := tb_at tbX9_becomes_n30_ok 10 rfl
theorem dX9_becomes_21 : decode cX9_becomes 21 = .ok (.aload_n 0, 1) := tb_at tbX9_becomes_n30_ok 11 rfl
theorem dX9_becomes_22 : decode cX9_becomes 22 = .ok (.getfield 173, 3) := tb_at tbX9_becomes_n30_ok 12 rfl
theorem dX9_becomes_25 : decode cX9_becomes 25 = .ok (.iload_n 2, 1) := tb_at tbX9_becomes_n30_ok 13 rfl
theorem dX9_becomes_26 : decode cX9_becomes 26 = .ok (.iastore, 1) := tb_at tbX9_becomes_n30_ok 14 rfl
theorem dX9_becomes_27 : decode cX9_becomes 27 = .ok (.aload_n 0, 1) := tb_at tbX9_becomes_n30_ok 15 rfl
theorem dX9_becomes_28 : decode cX9_becomes 28 = .ok (.getfield 75, 3) := tb_at tbX9_becomes_n30_ok 16 rfl
theorem dX9_becomes_31 : decode cX9_becomes 31 = .ok (.aload_n 0, 1) := tb_at tbX9_becomes_n30_ok 17 rfl
theorem dX9_becomes_32 : decode cX9_becomes 32 = .ok (.getfield 173, 3) := tb_at tbX9_becomes_n30_ok 18 rfl
theorem dX9_becomes_35 : decode cX9_becomes 35 = .ok (.iconst (-1), 1) := tb_at tbX9_becomes_n30_ok 19 rfl
theorem dX9_becomes_36 : decode cX9_becomes 36 = .ok (.iastore, 1) := tb_at tbX9_becomes_n30_ok 20 rfl
theorem dX9_becomes_37 : decode cX9_becomes 37 = .ok (.aload_n 0, 1) := tb_at tbX9_becomes_n30_ok 21 rfl
theorem dX9_becomes_38 : decode cX9_becomes 38 = .ok (.getfield 78, 3) := tb_at tbX9_becomes_n30_ok 22 rfl
theorem dX9_becomes_41 : decode cX9_becomes 41 = .ok (.aload_n 0, 1) := tb_at tbX9_becomes_n30_ok 23 rfl
theorem dX9_becomes_42 : decode cX9_becomes 42 = .ok (.getfield 173, 3) := tb_at tbX9_becomes_n30_ok 24 rfl
theorem dX9_becomes_45 : decode cX9_becomes 45 = .ok (.aload_n 0, 1) := tb_at tbX9_becomes_n30_ok 25 rfl
theorem dX9_becomes_46 : decode cX9_becomes 46 = .ok (.getfield 48, 3) := tb_at tbX9_becomes_n30_ok 26 rfl
theorem dX9_becomes_49 : decode cX9_becomes 49 = .ok (.iconst 5, 1) := tb_at tbX9_becomes_n30_ok 27 rfl
theorem dX9_becomes_50 : decode cX9_becomes 50 = .ok (.iload_n 1, 1) := tb_at tbX9_becomes_n30_ok 28 rfl
theorem dX9_becomes_51 : decode cX9_becomes 51 = .ok (.imul, 1) := tb_at tbX9_becomes_n30_ok 29 rfl
theorem dX9_becomes_52 : decode cX9_becomes 52 = .ok (.iload_n 2, 1) := tb_at tbX9_becomes_n30_ok 30 rfl
theorem dX9_becomes_53 : decode cX9_becomes 53 = .ok (.iadd, 1) := tb_at tbX9_becomes_n30_ok 31 rfl
theorem dX9_becomes_54 : decode cX9_becomes 54 = .ok (.laload, 1) := tb_at tbX9_becomes_n30_ok 32 rfl
theorem dX9_becomes_55 : decode cX9_becomes 55 = .ok (.lastore, 1) := tb_at tbX9_becomes_n30_ok 33 rfl
theorem dX9_becomes_56 : decode cX9_becomes 56 = .ok (.aload_n 0, 1) := tb_at tbX9_becomes_n30_ok 34 rfl
theorem dX9_becomes_57 : decode cX9_becomes 57 = .ok (.getfield 72, 3) := tb_at tbX9_becomes_n30_ok 35 rfl
theorem dX9_becomes_60 : decode cX9_becomes 60 = .ok (.aload_n 0, 1) := tb_at tbX9_becomes_n30_ok 36 rfl
theorem dX9_becomes_61 : decode cX9_becomes 61 = .ok (.getfield 173, 3) := tb_at tbX9_becomes_n30_ok 37 rfl
theorem dX9_becomes_64 : decode cX9_becomes 64 = .ok (.aload_n 0, 1) := tb_at tbX9_becomes_n30_ok 38 rfl
theorem dX9_becomes_65 : decode cX9_becomes 65 = .ok (.iload_n 1, 1) := tb_at tbX9_becomes_n30_ok 39 rfl
theorem dX9_becomes_66 : decode cX9_becomes 66 = .ok (.iload_n 2, 1) := tb_at tbX9_becomes_n30_ok 40 rfl
theorem dX9_becomes_67 : decode cX9_becomes 67 = .ok (.invokevirtual 170, 3) := tb_at tbX9_becomes_n30_ok 41 rfl
theorem dX9_becomes_70 : decode cX9_becomes 70 = .ok (.iconst 3, 1) := tb_at tbX9_becomes_n30_ok 42 rfl
theorem dX9_becomes_71 : decode cX9_becomes 71 = .ok (.if_icmp .lt 17, 3) := tb_at tbX9_becomes_n30_ok 43 rfl
theorem dX9_becomes_74 : decode cX9_becomes 74 = .ok (.aload_n 0, 1) := tb_at tbX9_becomes_n30_ok 44 rfl
theorem dX9_becomes_75 : decode cX9_becomes 75 = .ok (.getfield 48, 3) := tb_at tbX9_becomes_n30_ok 45 rfl
theorem dX9_becomes_78 : decode cX9_becomes 78 = .ok (.iconst 5, 1) := tb_at tbX9_becomes_n30_ok 46 rfl
theorem dX9_becomes_79 : decode cX9_becomes 79 = .ok (.iload_n 1, 1) := tb_at tbX9_becomes_n30_ok 47 rfl
theorem dX9_becomes_80 : decode cX9_becomes 80 = .ok (.imul, 1) := tb_at tbX9_becomes_n30_ok 48 rfl
theorem dX9_becomes_81 : decode cX9_becomes 81 = .ok (.iload_n 2, 1) := tb_at tbX9_becomes_n30_ok 49 rfl
theorem dX9_becomes_82 : decode cX9_becomes 82 = .ok (.iadd, 1) := tb_at tbX9_becomes_n30_ok 50 rfl
theorem dX9_becomes_83 : decode cX9_becomes 83 = .ok (.laload, 1) := tb_at tbX9_becomes_n30_ok 51 rfl
theorem dX9_becomes_84 : decode cX9_becomes 84 = .ok (.l2i, 1) := tb_at tbX9_becomes_n30_ok 52 rfl
theorem dX9_becomes_85 : decode cX9_becomes 85 = .ok (.goto 4, 3) := tb_at tbX9_becomes_n30_ok 53 rfl
theorem dX9_becomes_88 : decode cX9_becomes 88 = .ok (.iconst (-1), 1) := tb_at tbX9_becomes_n30_ok 54 rfl
theorem dX9_becomes_89 : decode cX9_becomes 89 = .ok (.iastore, 1) := tb_at tbX9_becomes_n30_ok 55 rfl
theorem dX9_becomes_90 : decode cX9_becomes 90 = .ok (.aload_n 0, 1) := tb_at tbX9_becomes_n30_ok 56 rfl
theorem dX9_becomes_91 : decode cX9_becomes 91 = .ok (.dup, 1) := tb_at tbX9_becomes_n30_ok 57 rfl
theorem dX9_becomes_92 : decode cX9_becomes 92 = .ok (.getfield 173, 3) := tb_at tbX9_becomes_n30_ok 58 rfl
theorem dX9_becomes_95 : decode cX9_becomes 95 = .ok (.iconst 1, 1) := tb_at tbX9_becomes_n30_ok 59 rfl
theorem dX9_becomes_96 : decode cX9_becomes 96 = .ok (.iadd, 1) := tb_at tbX9_becomes_n30_ok 60 rfl
theorem dX9_becomes_97 : decode cX9_becomes 97 = .ok (.putfield 173, 3) := tb_at tbX9_becomes_n30_ok 61 rfl
theorem dX9_becomes_100 : decode cX9_becomes 100 = .ok (.aload_n 0, 1) := tb_at tbX9_becomes_n30_ok 62 rfl
theorem dX9_becomes_101 : decode cX9_becomes 101 = .ok (.getfield 48, 3) := tb_at tbX9_becomes_n30_ok 63 rfl
theorem dX9_becomes_104 : decode cX9_becomes 104 = .ok (.iconst 5, 1) := tb_at tbX9_becomes_n30_ok 64 rfl
theorem dX9_becomes_105 : decode cX9_becomes 105 = .ok (.iload_n 1, 1) := tb_at tbX9_becomes_n30_ok 65 rfl
theorem dX9_becomes_106 : decode cX9_becomes 106 = .ok (.imul, 1) := tb_at tbX9_becomes_n30_ok 66 rfl
theorem dX9_becomes_107 : decode cX9_becomes 107 = .ok (.iload_n 2, 1) := tb_at tbX9_becomes_n30_ok 67 rfl
theorem dX9_becomes_108 : decode cX9_becomes 108 = .ok (.iadd, 1) := tb_at tbX9_becomes_n30_ok 68 rfl
theorem dX9_becomes_109 : decode cX9_becomes 109 = .ok (.lload_n 3, 1) := tb_at tbX9_becomes_n30_ok 69 rfl
theorem dX9_becomes_110 : decode cX9_becomes 110 = .ok (.lastore, 1) := tb_at tbX9_becomes_n30_ok 70 rfl
theorem dX9_becomes_111 : decode cX9_becomes 111 = .ok (.return_, 1) := tb_at tbX9_becomes_n30_ok 71 rfl
set_option maxRecDepth 20000 in
theorem ggX9_put_X9_isField : GoodIn wsX9_put wsX9_isField := goodIn_r _ [9, 10, 11, 12, 13, 14, 8, 15, 16, 38, 39, 40, 41, 42, 43, 44, 45, 46, 47, 48, 49, 50, 51, 52, 53, 54, 55, 56, 57, 58, 59, 60, 61, 62, 63, 64, 65, 66, 67, 68, 69, 70, 71, 72, 73, 74, 75, 76, 77, 78, 79, 80, 81, 82, 83, 84, 85, 86, 87, 88] (by decide +kernel) (by decide +kernel)
set_option maxRecDepth 20000 in
theorem gX9_put_X9_isField : GoodIn wsX9_put (wsV RX9 176 RX9 yX9_isField wsX9_isField) := goodIn_app (goodIn_of _ (by decide +kernel)) ggX9_put_X9_isField
set_option maxRecDepth 20000 in
theorem ggX9_put_X9_lane : GoodIn wsX9_put wsX9_lane := goodIn_r _ [20, 21, 11, 38, 39, 40, 41, 42, 43, 44, 45, 46, 47, 48, 49, 50, 51, 52, 53, 54, 55, 56, 57, 58, 59, 60, 61, 62, 63, 64, 65, 66, 67, 68, 69, 70, 71, 72, 73, 74, 75, 76, 77, 78, 79, 80, 81, 82, 83, 84, 85, 86, 87, 88] (by decide +kernel) (by decide +kernel)
set_option maxRecDepth 20000 in
theorem gX9_put_X9_lane : GoodIn wsX9_put (wsV RX9 170 RX9 yX9_lane wsX9_lane) := goodIn_app (goodIn_of _ (by decide +kernel)) ggX9_put_X9_lane
set_option maxRecDepth 20000 in
theorem ggX9_put_X9_isFull : GoodIn wsX9_put wsX9_isFull := goodIn_r _ [25, 26, 27, 38, 39, 40, 41, 42, 43, 44, 45, 46, 47, 48, 49, 50, 51, 52, 53, 54, 55, 56, 57, 58, 59, 60, 61, 62, 63, 64, 65, 66, 67, 68, 69, 70, 71, 72, 73, 74, 75, 76, 77, 78, 79, 80, 81, 82, 83, 84, 85, 86, 87, 88] (by decide +kernel) (by decide +kernel)
set_option maxRecDepth 20000 in
theorem gX9_put_X9_isFull : GoodIn wsX9_put (wsV RX9 182 RX9 yX9_isFull wsX9_isFull) := goodIn_app (goodIn_of _ (by decide +kernel)) ggX9_put_X9_isFull
set_option maxRecDepth 20000 in
theorem ggX9_put_X9_becomes : GoodIn wsX9_put wsX9_becomes := goodIn_r _ [31, 26, 32, 27, 33, 34, 35, 36, 37, 17, 18, 19, 8, 20, 21, 11, 38, 39, 40, 41, 42, 43, 44, 45, 46, 47, 48, 49, 50, 51, 52, 53, 54, 55, 56, 57, 58, 59, 60, 61, 62, 63, 64, 65, 66, 67, 68, 69, 70, 71, 72, 73, 74, 75, 76, 77, 78, 79, 80, 81, 82, 83, 84, 85, 86, 87, 88] (by decide +kernel) (by decide +kernel)
set_option maxRecDepth 20000 in
theorem gX9_put_X9_becomes : GoodIn wsX9_put (wsV RX9 186 RX9 yX9_becomes wsX9_becomes) := goodIn_app (goodIn_of _ (by decide +kernel)) ggX9_put_X9_becomes
noncomputable def tbX9_put_n30 : List (Nat × Instr × Nat) := [(0, (.aload_n 0), 1), (1, (.iconst 0), 1), (2, (.putfield 145), 3), (5, (.aload_n 0), 1), (6, (.iload_n 1), 1), (7, (.iload_n 2), 1), (8, (.invokevirtual 176), 3), (11, (.ifCond .ne 5), 3), (14, (.iconst (-1)), 1), (15, .ireturn, 1), (16, (.aload_n 0), 1), (17, (.iload_n 1), 1), (18, (.iload_n 2), 1), (19, (.invokevirtual 170), 3), (22, (.iconst 1), 1), (23, (.if_icmp .le 6), 3), (26, (.bipush (-14)), 2), (28, .ireturn, 1), (29, (.aload_n 0), 1), (30, (.iload_n 1), 1), (31, (.iload_n 2), 1), (32, (.invokevirtual 170), 3), (35, (.iconst 1), 1), (36, (.if_icmp .ne 38), 3), (39, (.lload_n 3), 1), (40, (.ldc2_w 168), 3), (43, .lcmp, 1), (44, (.ifCond .eq 30), 3), (47, (.lload_n 3), 1), (48, (.lconst 0), 1), (49, .lcmp, 1), (50, (.ifCond .lt 21), 3), (53, (.lload_n 3), 1), (54, (.ldc2_w 180), 3), (57, .lcmp, 1), (58, (.ifCond .gt 13), 3), (61, (.aload_n 0), 1), (62, (.getfield 7), 3), (65, (.lload_n 3), 1), (66, .l2i, 1), (67, .baload, 1), (68, (.ifCond .eq 6), 3), (71, (.bipush (-17)), 2), (73, .ireturn, 1), (74, (.aload_n 0), 1), (75, (.invokevirtual 182), 3), (78, (.ifCond .eq 6), 3), (81, (.bipush (-4)), 2), (83, .ireturn, 1), (84, (.aload_n 0), 1), (85, (.iload_n 1), 1), (86, (.iload_n 2), 1), (87, (.lload_n 3), 1), (88, (.invokevirtual 186), 3), (91, (.iconst 1), 1), (92, .ireturn, 1)]
theorem tbX9_put_n30_ok : ∀ q ∈ tbX9_put_n30, decode cX9_put q.1 = .ok q.2 := by decide +kernel
theorem dX9_put_0 : decode cX9_put 0 = .ok (.aload_n 0, 1) := tb_at tbX9_put_n30_ok 0 rfl
theorem dX9_put_1 : decode cX9_put 1 = .ok (.iconst 0, 1) := tb_at tbX9_put_n30_ok 1 rfl
theorem dX9_put_2 : decode cX9_put 2 = .ok (.putfield 145, 3) := tb_at tbX9_put_n30_ok 2 rfl
theorem dX9_put_5 : decode cX9_put 5 = .ok (.aload_n 0, 1) := tb_at tbX9_put_n30_ok 3 rfl
theorem dX9_put_6 : decode cX9_put 6 = .ok (.iload_n 1, 1) := tb_at tbX9_put_n30_ok 4 rfl
theorem dX9_put_7 : decode cX9_put 7 = .ok (.iload_n 2, 1) := tb_at tbX9_put_n30_ok 5 rfl
theorem dX9_put_8 : decode cX9_put 8 = .ok (.invokevirtual 176, 3) := tb_at tbX9_put_n30_ok 6 rfl
theorem dX9_put_11 : decode cX9_put 11 = .ok (.ifCond .ne 5, 3) := tb_at tbX9_put_n30_ok 7 rfl
theorem dX9_put_14 : decode cX9_put 14 = .ok (.iconst (-1), 1) := tb_at tbX9_put_n30_ok 8 rfl
theorem dX9_put_15 : decode cX9_put 15 = .ok (.ireturn, 1) := tb_at tbX9_put_n30_ok 9 rfl
theorem dX9_put_16 : decode cX9_put 16 = .ok (.aload_n 0, 1) := tb_at tbX9_put_n30_ok 10 rfl
theorem dX9_put_17 : decode cX9_put 17 = .ok (.iload_n 1, 1) := tb_at tbX9_put_n30_ok 11 rfl
theorem dX9_put_18 : decode cX9_put 18 = .ok (.iload_n 2, 1) := tb_at tbX9_put_n30_ok 12 rfl
theorem dX9_put_19 : decode cX9_put 19 = .ok (.invokevirtual 170, 3) := tb_at tbX9_put_n30_ok 13 rfl
theorem dX9_put_22 : decode cX9_put 22 = .ok (.iconst 1, 1) := tb_at tbX9_put_n30_ok 14 rfl
theorem dX9_put_23 : decode cX9_put 23 = .ok (.if_icmp .le 6, 3) := tb_at tbX9_put_n30_ok 15 rfl
theorem dX9_put_26 : decode cX9_put 26 = .ok (.bipush (-14), 2) := tb_at tbX9_put_n30_ok 16 rfl
theorem dX9_put_28 : decode cX9_put 28 = .ok (.ireturn, 1) := tb_at tbX9_put_n30_ok 17 rfl
theorem dX9_put_29 : decode cX9_put 29 = .ok (.aload_n 0, 1) := tb_at tbX9_put_n30_ok 18 rfl
theorem dX9_put_30 : decode cX9_put 30 = .ok (.iload_n 1, 1) := tb_at tbX9_put_n30_ok 19 rfl
theorem dX9_put_31 : decode cX9_put 31 = .ok (.iload_n 2, 1) := tb_at tbX9_put_n30_ok 20 rfl
theorem dX9_put_32 : decode cX9_put 32 = .ok (.invokevirtual 170, 3) := tb_at tbX9_put_n30_ok 21 rfl
theorem dX9_put_35 : decode cX9_put 35 = .ok (.iconst 1, 1) := tb_at tbX9_put_n30_ok 22 rfl
theorem dX9_put_36 : decode cX9_put 36 = .ok (.if_icmp .ne 38, 3) := tb_at tbX9_put_n30_ok 23 rfl
theorem dX9_put_39 : decode cX9_put 39 = .ok (.lload_n 3, 1) := tb_at tbX9_put_n30_ok 24 rfl
theorem dX9_put_40 : decode cX9_put 40 = .ok (.ldc2_w 168, 3) := tb_at tbX9_put_n30_ok 25 rfl
theorem dX9_put_43 : decode cX9_put 43 = .ok (.lcmp, 1) := tb_at tbX9_put_n30_ok 26 rfl
theorem dX9_put_44 : decode cX9_put 44 = .ok (.ifCond .eq 30, 3) := tb_at tbX9_put_n30_ok 27 rfl
theorem dX9_put_47 : decode cX9_put 47 = .ok (.lload_n 3, 1) := tb_at tbX9_put_n30_ok 28 rfl
theorem dX9_put_48 : decode cX9_put 48 = .ok (.lconst 0, 1) := tb_at tbX9_put_n30_ok 29 rfl
theorem dX9_put_49 : decode cX9_put 49 = .ok (.lcmp, 1) := tb_at tbX9_put_n30_ok 30 rfl
theorem dX9_put_50 : decode cX9_put 50 = .ok (.ifCond .lt 21, 3) := tb_at tbX9_put_n30_ok 31 rfl
theorem dX9_put_53 : decode cX9_put 53 = .ok (.lload_n 3, 1) := tb_at tbX9_put_n30_ok 32 rfl
theorem dX9_put_54 : decode cX9_put 54 = .ok (.ldc2_w 180, 3) := tb_at tbX9_put_n30_ok 33 rfl
theorem dX9_put_57 : decode cX9_put 57 = .ok (.lcmp, 1) := tb_at tbX9_put_n30_ok 34 rfl
theorem dX9_put_58 : decode cX9_put 58 = .ok (.ifCond .gt 13, 3) := tb_at tbX9_put_n30_ok 35 rfl
theorem dX9_put_61 : decode cX9_put 61 = .ok (.aload_n 0, 1) := tb_at tbX9_put_n30_ok 36 rfl
theorem dX9_put_62 : decode cX9_put 62 = .ok (.getfield 7, 3) := tb_at tbX9_put_n30_ok 37 rfl
theorem dX9_put_65 : decode cX9_put 65 = .ok (.lload_n 3, 1) := tb_at tbX9_put_n30_ok 38 rfl
theorem dX9_put_66 : decode cX9_put 66 = .ok (.l2i, 1) := tb_at tbX9_put_n30_ok 39 rfl
theorem dX9_put_67 : decode cX9_put 67 = .ok (.baload, 1) := tb_at tbX9_put_n30_ok 40 rfl
theorem dX9_put_68 : decode cX9_put 68 = .ok (.ifCond .eq 6, 3) := tb_at tbX9_put_n30_ok 41 rfl
theorem dX9_put_71 : decode cX9_put 71 = .ok (.bipush (-17), 2) := tb_at tbX9_put_n30_ok 42 rfl
theorem dX9_put_73 : decode cX9_put 73 = .ok (.ireturn, 1) := tb_at tbX9_put_n30_ok 43 rfl
theorem dX9_put_74 : decode cX9_put 74 = .ok (.aload_n 0, 1) := tb_at tbX9_put_n30_ok 44 rfl
theorem dX9_put_75 : decode cX9_put 75 = .ok (.invokevirtual 182, 3) := tb_at tbX9_put_n30_ok 45 rfl
theorem dX9_put_78 : decode cX9_put 78 = .ok (.ifCond .eq 6, 3) := tb_at tbX9_put_n30_ok 46 rfl
theorem dX9_put_81 : decode cX9_put 81 = .ok (.bipush (-4), 2) := tb_at tbX9_put_n30_ok 47 rfl
theorem dX9_put_83 : decode cX9_put 83 = .ok (.ireturn, 1) := tb_at tbX9_put_n30_ok 48 rfl
theorem dX9_put_84 : decode cX9_put 84 = .ok (.aload_n 0, 1) := tb_at tbX9_put_n30_ok 49 rfl
theorem dX9_put_85 : decode cX9_put 85 = .ok (.iload_n 1, 1) := tb_at tbX9_put_n30_ok 50 rfl
theorem dX9_put_86 : decode cX9_put 86 = .ok (.iload_n 2, 1) := tb_at tbX9_put_n30_ok 51 rfl
theorem dX9_put_87 : decode cX9_put 87 = .ok (.lload_n 3, 1) := tb_at tbX9_put_n30_ok 52 rfl
theorem dX9_put_88 : decode cX9_put 88 = .ok (.invokevirtual 186, 3) := tb_at tbX9_put_n30_ok 53 rfl
theorem dX9_put_91 : decode cX9_put 91 = .ok (.iconst 1, 1) := tb_at tbX9_put_n30_ok 54 rfl
theorem dX9_put_92 : decode cX9_put 92 = .ok (.ireturn, 1) := tb_at tbX9_put_n30_ok 55 rfl
set_option maxRecDepth 20000 in
theorem ggX9_refer_X9_isField : GoodIn wsX9_refer wsX9_isField := goodIn_r _ [6, 7, 8, 9, 10, 11, 5, 12, 13, 35, 36, 37, 38, 39, 40, 41, 42, 43, 44, 45, 46, 47, 48, 49, 50, 51, 52, 53, 54, 55, 56, 57, 58, 59, 60, 61, 62, 63, 64, 65, 66, 67, 68, 69, 70, 71, 72, 73, 74, 75, 76, 77, 78, 79, 80, 81, 82, 83, 84, 85] (by decide +kernel) (by decide +kernel)
set_option maxRecDepth 20000 in
theorem gX9_refer_X9_isField : GoodIn wsX9_refer (wsV RX9 176 RX9 yX9_isField wsX9_isField) := goodIn_app (goodIn_of _ (by decide +kernel)) ggX9_refer_X9_isField
set_option maxRecDepth 20000 in
theorem ggX9_refer_X9_isThing : GoodIn wsX9_refer wsX9_isThing := goodIn_r _ [12, 13, 35, 36, 37, 38, 39, 40, 41, 42, 43, 44, 45, 46, 47, 48, 49, 50, 51, 52, 53, 54, 55, 56, 57, 58, 59, 60, 61, 62, 63, 64, 65, 66, 67, 68, 69, 70, 71, 72, 73, 74, 75, 76, 77, 78, 79, 80, 81, 82, 83, 84, 85] (by decide +kernel) (by decide +kernel)
set_option maxRecDepth 20000 in
theorem gX9_refer_X9_isThing : GoodIn wsX9_refer (wsV RX9 154 RX9 yX9_isThing wsX9_isThing) := goodIn_app (goodIn_of _ (by decide +kernel)) ggX9_refer_X9_isThing
set_option maxRecDepth 20000 in
theorem ggX9_refer_X9_lane : GoodIn wsX9_refer wsX9_lane := goodIn_r _ [17, 18, 8, 35, 36, 37, 38, 39, 40, 41, 42, 43, 44, 45, 46, 47, 48, 49, 50, 51, 52, 53, 54, 55, 56, 57, 58, 59, 60, 61, 62, 63, 64, 65, 66, 67, 68, 69, 70, 71, 72, 73, 74, 75, 76, 77, 78, 79, 80, 81, 82, 83, 84, 85] (by decide +kernel) (by decide +kernel)
set_option maxRecDepth 20000 in
theorem gX9_refer_X9_lane : GoodIn wsX9_refer (wsV RX9 170 RX9 yX9_lane wsX9_lane) := goodIn_app (goodIn_of _ (by decide +kernel)) ggX9_refer_X9_lane
set_option maxRecDepth 20000 in
theorem ggX9_refer_X9_isFull : GoodIn wsX9_refer wsX9_isFull := goodIn_r _ [22, 23, 24, 35, 36, 37, 38, 39, 40, 41, 42, 43, 44, 45, 46, 47, 48, 49, 50, 51, 52, 53, 54, 55, 56, 57, 58, 59, 60, 61, 62, 63, 64, 65, 66, 67, 68, 69, 70, 71, 72, 73, 74, 75, 76, 77, 78, 79, 80, 81, 82, 83, 84, 85] (by decide +kernel) (by decide +kernel)
set_option maxRecDepth 20000 in
theorem gX9_refer_X9_isFull : GoodIn wsX9_refer (wsV RX9 182 RX9 yX9_isFull wsX9_isFull) := goodIn_app (goodIn_of _ (by decide +kernel)) ggX9_refer_X9_isFull
set_option maxRecDepth 20000 in
theorem ggX9_refer_X9_becomes : GoodIn wsX9_refer wsX9_becomes := goodIn_r _ [28, 23, 29, 24, 30, 31, 32, 33, 34, 14, 15, 16, 5, 17, 18, 8, 35, 36, 37, 38, 39, 40, 41, 42, 43, 44, 45, 46, 47, 48, 49, 50, 51, 52, 53, 54, 55, 56, 57, 58, 59, 60, 61, 62, 63, 64, 65, 66, 67, 68, 69, 70, 71, 72, 73, 74, 75, 76, 77, 78, 79, 80, 81, 82, 83, 84, 85] (by decide +kernel) (by decide +kernel)
set_option maxRecDepth 20000 in
theorem gX9_refer_X9_becomes : GoodIn wsX9_refer (wsV RX9 186 RX9 yX9_becomes wsX9_becomes) := goodIn_app (goodIn_of _ (by decide +kernel)) ggX9_refer_X9_becomes
noncomputable def tbX9_refer_n30 : List (Nat × Instr × Nat) := [(0, (.aload_n 0), 1), (1, (.iconst 0), 1), (2, (.putfield 145), 3), (5, (.aload_n 0), 1), (6, (.iload_n 1), 1), (7, (.iload_n 2), 1), (8, (.invokevirtual 176), 3), (11, (.ifCond .eq 16), 3), (14, (.iload_n 3), 1), (15, (.iconst (-1)), 1), (16, (.if_icmp .eq 13), 3), (19, (.aload_n 0), 1), (20, (.iload_n 3), 1), (21, (.invokevirtual 154), 3), (24, (.ifCond .ne 5), 3), (27, (.iconst (-1)), 1), (28, .ireturn, 1), (29, (.aload_n 0), 1), (30, (.iload_n 1), 1), (31, (.iload_n 2), 1), (32, (.invokevirtual 170), 3), (35, (.iconst 2), 1), (36, (.if_icmp .eq 6), 3), (39, (.bipush (-14)), 2), (41, .ireturn, 1), (42, (.aload_n 0), 1), (43, (.invokevirtual 182), 3), (46, (.ifCond .eq 6), 3), (49, (.bipush (-4)), 2), (51, .ireturn, 1), (52, (.aload_n 0), 1), (53, (.iload_n 1), 1), (54, (.iload_n 2), 1), (55, (.iload_n 3), 1), (56, .i2l, 1), (57, (.invokevirtual 186), 3), (60, (.iconst 1), 1), (61, .ireturn, 1)]
theorem tbX9_refer_n30_ok : ∀ q ∈ tbX9_refer_n30, decode cX9_refer q.1 = .ok q.2 := by decide +kernel
theorem dX9_refer_0 : decode cX9_refer 0 = .ok (.aload_n 0, 1) := tb_at tbX9_refer_n30_ok 0 rfl
theorem dX9_refer_1 : decode cX9_refer 1 = .ok (.iconst 0, 1) := tb_at tbX9_refer_n30_ok 1 rfl
theorem dX9_refer_2 : decode cX9_refer 2 = .ok (.putfield 145, 3) := tb_at tbX9_refer_n30_ok 2 rfl
theorem dX9_refer_5 : decode cX9_refer 5 = .ok (.aload_n 0, 1) := tb_at tbX9_refer_n30_ok 3 rfl
theorem dX9_refer_6 : decode cX9_refer 6 = .ok (.iload_n 1, 1) := tb_at tbX9_refer_n30_ok 4 rfl
theorem dX9_refer_7 : decode cX9_refer 7 = .ok (.iload_n 2, 1) := tb_at tbX9_refer_n30_ok 5 rfl
theorem dX9_refer_8 : decode cX9_refer 8 = .ok (.invokevirtual 176, 3) := tb_at tbX9_refer_n30_ok 6 rfl
theorem dX9_refer_11 : decode cX9_refer 11 = .ok (.ifCond .eq 16, 3) := tb_at tbX9_refer_n30_ok 7 rfl
theorem dX9_refer_14 : decode cX9_refer 14 = .ok (.iload_n 3, 1) := tb_at tbX9_refer_n30_ok 8 rfl
theorem dX9_refer_15 : decode cX9_refer 15 = .ok (.iconst (-1), 1) := tb_at tbX9_refer_n30_ok 9 rfl
theorem dX9_refer_16 : decode cX9_refer 16 = .ok (.if_icmp .eq 13, 3) := tb_at tbX9_refer_n30_ok 10 rfl
theorem dX9_refer_19 : decode cX9_refer 19 = .ok (.aload_n 0, 1) := tb_at tbX9_refer_n30_ok 11 rfl
theorem dX9_refer_20 : decode cX9_refer 20 = .ok (.iload_n 3, 1) := tb_at tbX9_refer_n30_ok 12 rfl
theorem dX9_refer_21 : decode cX9_refer 21 = .ok (.invokevirtual 154, 3) := tb_at tbX9_refer_n30_ok 13 rfl
theorem dX9_refer_24 : decode cX9_refer 24 = .ok (.ifCond .ne 5, 3) := tb_at tbX9_refer_n30_ok 14 rfl
theorem dX9_refer_27 : decode cX9_refer 27 = .ok (.iconst (-1), 1) := tb_at tbX9_refer_n30_ok 15 rfl
theorem dX9_refer_28 : decode cX9_refer 28 = .ok (.ireturn, 1) := tb_at tbX9_refer_n30_ok 16 rfl
theorem dX9_refer_29 : decode cX9_refer 29 = .ok (.aload_n 0, 1) := tb_at tbX9_refer_n30_ok 17 rfl
theorem dX9_refer_30 : decode cX9_refer 30 = .ok (.iload_n 1, 1) := tb_at tbX9_refer_n30_ok 18 rfl
theorem dX9_refer_31 : decode cX9_refer 31 = .ok (.iload_n 2, 1) := tb_at tbX9_refer_n30_ok 19 rfl
theorem dX9_refer_32 : decode cX9_refer 32 = .ok (.invokevirtual 170, 3) := tb_at tbX9_refer_n30_ok 20 rfl
theorem dX9_refer_35 : decode cX9_refer 35 = .ok (.iconst 2, 1) := tb_at tbX9_refer_n30_ok 21 rfl
theorem dX9_refer_36 : decode cX9_refer 36 = .ok (.if_icmp .eq 6, 3) := tb_at tbX9_refer_n30_ok 22 rfl
theorem dX9_refer_39 : decode cX9_refer 39 = .ok (.bipush (-14), 2) := tb_at tbX9_refer_n30_ok 23 rfl
theorem dX9_refer_41 : decode cX9_refer 41 = .ok (.ireturn, 1) := tb_at tbX9_refer_n30_ok 24 rfl
theorem dX9_refer_42 : decode cX9_refer 42 = .ok (.aload_n 0, 1) := tb_at tbX9_refer_n30_ok 25 rfl
theorem dX9_refer_43 : decode cX9_refer 43 = .ok (.invokevirtual 182, 3) := tb_at tbX9_refer_n30_ok 26 rfl
theorem dX9_refer_46 : decode cX9_refer 46 = .ok (.ifCond .eq 6, 3) := tb_at tbX9_refer_n30_ok 27 rfl
theorem dX9_refer_49 : decode cX9_refer 49 = .ok (.bipush (-4), 2) := tb_at tbX9_refer_n30_ok 28 rfl
theorem dX9_refer_51 : decode cX9_refer 51 = .ok (.ireturn, 1) := tb_at tbX9_refer_n30_ok 29 rfl
theorem dX9_refer_52 : decode cX9_refer 52 = .ok (.aload_n 0, 1) := tb_at tbX9_refer_n30_ok 30 rfl
theorem dX9_refer_53 : decode cX9_refer 53 = .ok (.iload_n 1, 1) := tb_at tbX9_refer_n30_ok 31 rfl
theorem dX9_refer_54 : decode cX9_refer 54 = .ok (.iload_n 2, 1) := tb_at tbX9_refer_n30_ok 32 rfl
theorem dX9_refer_55 : decode cX9_refer 55 = .ok (.iload_n 3, 1) := tb_at tbX9_refer_n30_ok 33 rfl
theorem dX9_refer_56 : decode cX9_refer 56 = .ok (.i2l, 1) := tb_at tbX9_refer_n30_ok 34 rfl
theorem dX9_refer_57 : decode cX9_refer 57 = .ok (.invokevirtual 186, 3) := tb_at tbX9_refer_n30_ok 35 rfl
theorem dX9_refer_60 : decode cX9_refer 60 = .ok (.iconst 1, 1) := tb_at tbX9_refer_n30_ok 36 rfl
theorem dX9_refer_61 : decode cX9_refer 61 = .ok (.ireturn, 1) := tb_at tbX9_refer_n30_ok 37 rfl
set_option maxRecDepth 20000 in
theorem ggX9_row_X9_isField : GoodIn wsX9_row wsX9_isField := goodIn_r _ [7, 8, 9, 10, 11, 12, 6, 13, 14, 44, 45, 46, 47, 48, 49, 50, 51, 52, 53, 54, 55, 56, 57, 58, 59, 60, 61, 62, 63, 64, 65, 66, 67, 68, 69, 70, 71, 72, 73, 74, 75, 76, 77, 78, 79, 80, 81, 82, 83, 84, 85, 86, 87, 88, 89, 90, 91, 92, 93, 94] (by decide +kernel) (by decide +kernel)
set_option maxRecDepth 20000 in
theorem gX9_row_X9_isField : GoodIn wsX9_row (wsV RX9 176 RX9 yX9_isField wsX9_isField) := goodIn_app (goodIn_of _ (by decide +kernel)) ggX9_row_X9_isField
set_option maxRecDepth 20000 in
theorem ggX9_row_X9_lane : GoodIn wsX9_row wsX9_lane := goodIn_r _ [18, 19, 9, 44, 45, 46, 47, 48, 49, 50, 51, 52, 53, 54, 55, 56, 57, 58, 59, 60, 61, 62, 63, 64, 65, 66, 67, 68, 69, 70, 71, 72, 73, 74, 75, 76, 77, 78, 79, 80, 81, 82, 83, 84, 85, 86, 87, 88, 89, 90, 91, 92, 93, 94] (by decide +kernel) (by decide +kernel)
set_option maxRecDepth 20000 in
theorem gX9_row_X9_lane : GoodIn wsX9_row (wsV RX9 170 RX9 yX9_lane wsX9_lane) := goodIn_app (goodIn_of _ (by decide +kernel)) ggX9_row_X9_lane
set_option maxRecDepth 20000 in
theorem ggX9_row_X9_isFull : GoodIn wsX9_row wsX9_isFull := goodIn_r _ [23, 24, 25, 44, 45, 46, 47, 48, 49, 50, 51, 52, 53, 54, 55, 56, 57, 58, 59, 60, 61, 62, 63, 64, 65, 66, 67, 68, 69, 70, 71, 72, 73, 74, 75, 76, 77, 78, 79, 80, 81, 82, 83, 84, 85, 86, 87, 88, 89, 90, 91, 92, 93, 94] (by decide +kernel) (by decide +kernel)
set_option maxRecDepth 20000 in
theorem gX9_row_X9_isFull : GoodIn wsX9_row (wsV RX9 182 RX9 yX9_isFull wsX9_isFull) := goodIn_app (goodIn_of _ (by decide +kernel)) ggX9_row_X9_isFull
set_option maxRecDepth 20000 in
theorem ggX9_row_X9_newRow : GoodIn wsX9_row wsX9_newRow := goodIn_r _ [29, 30, 14, 8, 9, 31, 25, 32, 33, 34, 35, 15, 16, 17, 6, 18, 19, 44, 45, 46, 47, 48, 49, 50, 51, 52, 53, 54, 55, 56, 57, 58, 59, 60, 61, 62, 63, 64, 65, 66, 67, 68, 69, 70, 71, 72, 73, 74, 75, 76, 77, 78, 79, 80, 81, 82, 83, 84, 85, 86, 87, 88, 89, 90, 91, 92, 93, 94] (by decide +kernel) (by decide +kernel)
set_option maxRecDepth 20000 in
theorem gX9_row_X9_newRow : GoodIn wsX9_row (wsV RX9 190 RX9 yX9_newRow wsX9_newRow) := goodIn_app (goodIn_of _ (by decide +kernel)) ggX9_row_X9_newRow
set_option maxRecDepth 20000 in
theorem ggX9_row_X9_becomes : GoodIn wsX9_row wsX9_becomes := goodIn_r _ [39, 24, 40, 25, 41, 42, 43, 31, 32, 15, 16, 17, 6, 18, 19, 9, 44, 45, 46, 47, 48, 49, 50, 51, 52, 53, 54, 55, 56, 57, 58, 59, 60, 61, 62, 63, 64, 65, 66, 67, 68, 69, 70, 71, 72, 73, 74, 75, 76, 77, 78, 79, 80, 81, 82, 83, 84, 85, 86, 87, 88, 89, 90, 91, 92, 93, 94] (by decide +kernel) (by decide +kernel)
set_option maxRecDepth 20000 in
theorem gX9_row_X9_becomes : GoodIn wsX9_row (wsV RX9 186 RX9 yX9_becomes wsX9_becomes) := goodIn_app (goodIn_of _ (by decide +kernel)) ggX9_row_X9_becomes
noncomputable def tbX9_row_n30 : List (Nat × Instr × Nat) := [(0, (.aload_n 0), 1), (1, (.iconst 0), 1), (2, (.putfield 145), 3), (5, (.aload_n 0), 1), (6, (.iload_n 1), 1), (7, (.iload_n 2), 1), (8, (.invokevirtual 176), 3), (11, (.ifCond .ne 5), 3), (14, (.iconst (-1)), 1), (15, .ireturn, 1), (16, (.iload_n 3), 1), (17, (.bipush 12), 2), (19, (.if_icmp .le 6), 3), (22, (.bipush (-2)), 2), (24, .ireturn, 1), (25, (.aload_n 0), 1), (26, (.iload_n 1), 1), (27, (.iload_n 2), 1), (28, (.invokevirtual 170), 3), (31, (.iconst 3), 1), (32, (.if_icmp .ge 6), 3), (35, (.bipush (-14)), 2), (37, .ireturn, 1), (38, (.iload_n 3), 1), (39, (.iconst (-1)), 1), (40, (.if_icmp .ge 6), 3), (43, (.bipush (-13)), 2), (45, .ireturn, 1), (46, (.aload_n 0), 1), (47, (.invokevirtual 182), 3), (50, (.ifCond .eq 6), 3), (53, (.bipush (-4)), 2), (55, .ireturn, 1), (56, (.aload_n 0), 1), (57, (.iload_n 1), 1), (58, (.iload_n 2), 1), (59, (.iload_n 3), 1), (60, (.ifCond .ge 9), 3), (63, (.ldc2_w 168), 3), (66, (.goto 15), 3), (69, (.aload_n 0), 1), (70, (.aload_n 0), 1), (71, (.iload_n 1), 1), (72, (.iload_n 2), 1), (73, (.invokevirtual 170), 3), (76, (.iload_n 3), 1), (77, (.invokevirtual 190), 3), (80, .i2l, 1), (81, (.invokevirtual 186), 3), (84, (.iconst 1), 1), (85, .ireturn, 1)]
theorem tbX9_row_n30_ok : ∀ q ∈ tbX9_row_n30, decode cX9_row q.1 = .ok q.2 := by decide +kernel
theorem dX9_row_0 : decode cX9_row 0 = .ok (.aload_n 0, 1) := tb_at tbX9_row_n30_ok 0 rfl
theorem dX9_row_1 : decode cX9_row 1 = .ok (.iconst 0, 1) := tb_at tbX9_row_n30_ok 1 rfl
theorem dX9_row_2 : decode cX9_row 2 = .ok (.putfield 145, 3) := tb_at tbX9_row_n30_ok 2 rfl
theorem dX9_row_5 : decode cX9_row 5 = .ok (.aload_n 0, 1) := tb_at tbX9_row_n30_ok 3 rfl
theorem dX9_row_6 : decode cX9_row 6 = .ok (.iload_n 1, 1) := tb_at tbX9_row_n30_ok 4 rfl
theorem dX9_row_7 : decode cX9_row 7 = .ok (.iload_n 2, 1) := tb_at tbX9_row_n30_ok 5 rfl
theorem dX9_row_8 : decode cX9_row 8 = .ok (.invokevirtual 176, 3) := tb_at tbX9_row_n30_ok 6 rfl
theorem dX9_row_11 : decode cX9_row 11 = .ok (.ifCond .ne 5, 3) := tb_at tbX9_row_n30_ok 7 rfl
theorem dX9_row_14 : decode cX9_row 14 = .ok (.iconst (-1), 1) := tb_at tbX9_row_n30_ok 8 rfl
theorem dX9_row_15 : decode cX9_row 15 = .ok (.ireturn, 1) := tb_at tbX9_row_n30_ok 9 rfl
theorem dX9_row_16 : decode cX9_row 16 = .ok (.iload_n 3, 1) := tb_at tbX9_row_n30_ok 10 rfl
theorem dX9_row_17 : decode cX9_row 17 = .ok (.bipush 12, 2) := tb_at tbX9_row_n30_ok 11 rfl
theorem dX9_row_19 : decode cX9_row 19 = .ok (.if_icmp .le 6, 3) := tb_at tbX9_row_n30_ok 12 rfl
theorem dX9_row_22 : decode cX9_row 22 = .ok (.bipush (-2), 2) := tb_at tbX9_row_n30_ok 13 rfl
theorem dX9_row_24 : decode cX9_row 24 = .ok (.ireturn, 1) := tb_at tbX9_row_n30_ok 14 rfl
theorem dX9_row_25 : decode cX9_row 25 = .ok (.aload_n 0, 1) := tb_at tbX9_row_n30_ok 15 rfl
theorem dX9_row_26 : decode cX9_row 26 = .ok (.iload_n 1, 1) := tb_at tbX9_row_n30_ok 16 rfl
theorem dX9_row_27 : decode cX9_row 27 = .ok (.iload_n 2, 1) := tb_at tbX9_row_n30_ok 17 rfl
theorem dX9_row_28 : decode cX9_row 28 = .ok (.invokevirtual 170, 3) := tb_at tbX9_row_n30_ok 18 rfl
theorem dX9_row_31 : decode cX9_row 31 = .ok (.iconst 3, 1) := tb_at tbX9_row_n30_ok 19 rfl
theorem dX9_row_32 : decode cX9_row 32 = .ok (.if_icmp .ge 6, 3) := tb_at tbX9_row_n30_ok 20 rfl
theorem dX9_row_35 : decode cX9_row 35 = .ok (.bipush (-14), 2) := tb_at tbX9_row_n30_ok 21 rfl
theorem dX9_row_37 : decode cX9_row 37 = .ok (.ireturn, 1) := tb_at tbX9_row_n30_ok 22 rfl
theorem dX9_row_38 : decode cX9_row 38 = .ok (.iload_n 3, 1) := tb_at tbX9_row_n30_ok 23 rfl
theorem dX9_row_39 : decode cX9_row 39 = .ok (.iconst (-1), 1) := tb_at tbX9_row_n30_ok 24 rfl
theorem dX9_row_40 : decode cX9_row 40 = .ok (.if_icmp .ge 6, 3) := tb_at tbX9_row_n30_ok 25 rfl
theorem dX9_row_43 : decode cX9_row 43 = .ok (.bipush (-13), 2) := tb_at tbX9_row_n30_ok 26 rfl
theorem dX9_row_45 : decode cX9_row 45 = .ok (.ireturn, 1) := tb_at tbX9_row_n30_ok 27 rfl
theorem dX9_row_46 : decode cX9_row 46 = .ok (.aload_n 0, 1) := tb_at tbX9_row_n30_ok 28 rfl
theorem dX9_row_47 : decode cX9_row 47 = .ok (.invokevirtual 182, 3) := tb_at tbX9_row_n30_ok 29 rfl
theorem dX9_row_50 : decode cX9_row 50 = .ok (.ifCond .eq 6, 3) := tb_at tbX9_row_n30_ok 30 rfl
theorem dX9_row_53 : decode cX9_row 53 = .ok (.bipush (-4), 2) := tb_at tbX9_row_n30_ok 31 rfl
theorem dX9_row_55 : decode cX9_row 55 = .ok (.ireturn, 1) := tb_at tbX9_row_n30_ok 32 rfl
theorem dX9_row_56 : decode cX9_row 56 = .ok (.aload_n 0, 1) := tb_at tbX9_row_n30_ok 33 rfl
theorem dX9_row_57 : decode cX9_row 57 = .ok (.iload_n 1, 1) := tb_at tbX9_row_n30_ok 34 rfl
theorem dX9_row_58 : decode cX9_row 58 = .ok (.iload_n 2, 1) := tb_at tbX9_row_n30_ok 35 rfl
theorem dX9_row_59 : decode cX9_row 59 = .ok (.iload_n 3, 1) := tb_at tbX9_row_n30_ok 36 rfl
theorem dX9_row_60 : decode cX9_row 60 = .ok (.ifCond .ge 9, 3) := tb_at tbX9_row_n30_ok 37 rfl
theorem dX9_row_63 : decode cX9_row 63 = .ok (.ldc2_w 168, 3) := tb_at tbX9_row_n30_ok 38 rfl
theorem dX9_row_66 : decode cX9_row 66 = .ok (.goto 15, 3) := tb_at tbX9_row_n30_ok 39 rfl
theorem dX9_row_69 : decode cX9_row 69 = .ok (.aload_n 0, 1) := tb_at tbX9_row_n30_ok 40 rfl
theorem dX9_row_70 : decode cX9_row 70 = .ok (.aload_n 0, 1) := tb_at tbX9_row_n30_ok 41 rfl
theorem dX9_row_71 : decode cX9_row 71 = .ok (.iload_n 1, 1) := tb_at tbX9_row_n30_ok 42 rfl
theorem dX9_row_72 : decode cX9_row 72 = .ok (.iload_n 2, 1) := tb_at tbX9_row_n30_ok 43 rfl
theorem dX9_row_73 : decode cX9_row 73 = .ok (.invokevirtual 170, 3) := tb_at tbX9_row_n30_ok 44 rfl
theorem dX9_row_76 : decode cX9_row 76 = .ok (.iload_n 3, 1) := tb_at tbX9_row_n30_ok 45 rfl
theorem dX9_row_77 : decode cX9_row 77 = .ok (.invokevirtual 190, 3) := tb_at tbX9_row_n30_ok 46 rfl
theorem dX9_row_80 : decode cX9_row 80 = .ok (.i2l, 1) := tb_at tbX9_row_n30_ok 47 rfl
theorem dX9_row_81 : decode cX9_row 81 = .ok (.invokevirtual 186, 3) := tb_at tbX9_row_n30_ok 48 rfl
theorem dX9_row_84 : decode cX9_row 84 = .ok (.iconst 1, 1) := tb_at tbX9_row_n30_ok 49 rfl
theorem dX9_row_85 : decode cX9_row 85 = .ok (.ireturn, 1) := tb_at tbX9_row_n30_ok 50 rfl
set_option maxRecDepth 20000 in
theorem ggX9_share_X9_isField : GoodIn wsX9_share wsX9_isField := goodIn_r _ [7, 8, 9, 10, 11, 12, 6, 13, 14, 35, 36, 37, 38, 39, 40, 41, 42, 43, 44, 45, 46, 47, 48, 49, 50, 51, 52, 53, 54, 55, 56, 57, 58, 59, 60, 61, 62, 63, 64, 65, 66, 67, 68, 69, 70, 71, 72, 73, 74, 75, 76, 77, 78, 79, 80, 81, 82, 83, 84, 85] (by decide +kernel) (by decide +kernel)
set_option maxRecDepth 20000 in
theorem gX9_share_X9_isField : GoodIn wsX9_share (wsV RX9 176 RX9 yX9_isField wsX9_isField) := goodIn_app (goodIn_of _ (by decide +kernel)) ggX9_share_X9_isField
set_option maxRecDepth 20000 in
theorem ggX9_share_X9_lane : GoodIn wsX9_share wsX9_lane := goodIn_r _ [18, 19, 9, 35, 36, 37, 38, 39, 40, 41, 42, 43, 44, 45, 46, 47, 48, 49, 50, 51, 52, 53, 54, 55, 56, 57, 58, 59, 60, 61, 62, 63, 64, 65, 66, 67, 68, 69, 70, 71, 72, 73, 74, 75, 76, 77, 78, 79, 80, 81, 82, 83, 84, 85] (by decide +kernel) (by decide +kernel)
set_option maxRecDepth 20000 in
theorem gX9_share_X9_lane : GoodIn wsX9_share (wsV RX9 170 RX9 yX9_lane wsX9_lane) := goodIn_app (goodIn_of _ (by decide +kernel)) ggX9_share_X9_lane
set_option maxRecDepth 20000 in
theorem ggX9_share_X9_isFull : GoodIn wsX9_share wsX9_isFull := goodIn_r _ [23, 24, 25, 35, 36, 37, 38, 39, 40, 41, 42, 43, 44, 45, 46, 47, 48, 49, 50, 51, 52, 53, 54, 55, 56, 57, 58, 59, 60, 61, 62, 63, 64, 65, 66, 67, 68, 69, 70, 71, 72, 73, 74, 75, 76, 77, 78, 79, 80, 81, 82, 83, 84, 85] (by decide +kernel) (by decide +kernel)
set_option maxRecDepth 20000 in
theorem gX9_share_X9_isFull : GoodIn wsX9_share (wsV RX9 182 RX9 yX9_isFull wsX9_isFull) := goodIn_app (goodIn_of _ (by decide +kernel)) ggX9_share_X9_isFull
set_option maxRecDepth 20000 in
theorem ggX9_share_X9_becomes : GoodIn wsX9_share wsX9_becomes := goodIn_r _ [29, 24, 30, 25, 31, 32, 33, 2, 34, 15, 16, 17, 6, 18, 19, 9, 35, 36, 37, 38, 39, 40, 41, 42, 43, 44, 45, 46, 47, 48, 49, 50, 51, 52, 53, 54, 55, 56, 57, 58, 59, 60, 61, 62, 63, 64, 65, 66, 67, 68, 69, 70, 71, 72, 73, 74, 75, 76, 77, 78, 79, 80, 81, 82, 83, 84, 85] (by decide +kernel) (by decide +kernel)
set_option maxRecDepth 20000 in
theorem gX9_share_X9_becomes : GoodIn wsX9_share (wsV RX9 186 RX9 yX9_becomes wsX9_becomes) := goodIn_app (goodIn_of _ (by decide +kernel)) ggX9_share_X9_becomes
noncomputable def tbX9_share_n30 : List (Nat × Instr × Nat) := [(0, (.aload_n 0), 1), (1, (.iconst 0), 1), (2, (.putfield 145), 3), (5, (.aload_n 0), 1), (6, (.iload_n 1), 1), (7, (.iload_n 2), 1), (8, (.invokevirtual 176), 3), (11, (.ifCond .eq 13), 3), (14, (.aload_n 0), 1), (15, (.iload_n 3), 1), (16, (.iload 4), 2), (18, (.invokevirtual 176), 3), (21, (.ifCond .ne 5), 3), (24, (.iconst (-1)), 1), (25, .ireturn, 1), (26, (.aload_n 0), 1), (27, (.iload_n 1), 1), (28, (.iload_n 2), 1), (29, (.invokevirtual 170), 3), (32, (.iconst 3), 1), (33, (.if_icmp .lt 19), 3), (36, (.aload_n 0), 1), (37, (.iload_n 1), 1), (38, (.iload_n 2), 1), (39, (.invokevirtual 170), 3), (42, (.aload_n 0), 1), (43, (.iload_n 3), 1), (44, (.iload 4), 2), (46, (.invokevirtual 170), 3), (49, (.if_icmp .eq 6), 3), (52, (.bipush (-14)), 2), (54, .ireturn, 1), (55, (.aload_n 0), 1), (56, (.invokevirtual 182), 3), (59, (.ifCond .eq 6), 3), (62, (.bipush (-4)), 2), (64, .ireturn, 1), (65, (.aload_n 0), 1), (66, (.iload_n 1), 1), (67, (.iload_n 2), 1), (68, (.aload_n 0), 1), (69, (.getfield 48), 3), (72, (.iconst 5), 1), (73, (.iload_n 3), 1), (74, .imul, 1), (75, (.iload 4), 2), (77, .iadd, 1), (78, .laload, 1), (79, (.invokevirtual 186), 3), (82, (.iconst 1), 1), (83, .ireturn, 1)]
theorem tbX9_share_n30_ok : ∀ q ∈ tbX9_share_n30, decode cX9_share q.1 = .ok q.2 := by decide +kernel
theorem dX9_share_0 : decode cX9_share 0 = .ok (.aload_n 0, 1) := tb_at tbX9_share_n30_ok 0 rfl
theorem dX9_share_1 : decode cX9_share 1 = .ok (.iconst 0, 1) := tb_at tbX9_share_n30_ok 1 rfl
theorem dX9_share_2 : decode cX9_share 2 = .ok (.putfield 145, 3) := tb_at tbX9_share_n30_ok 2 rfl
theorem dX9_share_5 : decode cX9_share 5 = .ok (.aload_n 0, 1) := tb_at tbX9_share_n30_ok 3 rfl
theorem dX9_share_6 : decode cX9_share 6 = .ok (.iload_n 1, 1) := tb_at tbX9_share_n30_ok 4 rfl
theorem dX9_share_7 : decode cX9_share 7 = .ok (.iload_n 2, 1) := tb_at tbX9_share_n30_ok 5 rfl
theorem dX9_share_8 : decode cX9_share 8 = .ok (.invokevirtual 176, 3) := tb_at tbX9_share_n30_ok 6 rfl
theorem dX9_share_11 : decode cX9_share 11 = .ok (.ifCond .eq 13, 3) := tb_at tbX9_share_n30_ok 7 rfl
theorem dX9_share_14 : decode cX9_share 14 = .ok (.aload_n 0, 1) := tb_at tbX9_share_n30_ok 8 rfl
theorem dX9_share_15 : decode cX9_share 15 = .ok (.iload_n 3, 1) := tb_at tbX9_share_n30_ok 9 rfl
theorem dX9_share_16 : decode cX9_share 16 = .ok (.iload 4, 2) := tb_at tbX9_share_n30_ok 10 rfl
theorem dX9_share_18 : decode cX9_share 18 = .ok (.invokevirtual 176, 3) := tb_at tbX9_share_n30_ok 11 rfl
theorem dX9_share_21 : decode cX9_share 21 = .ok (.ifCond .ne 5, 3) := tb_at tbX9_share_n30_ok 12 rfl
theorem dX9_share_24 : decode cX9_share 24 = .ok (.iconst (-1), 1) := tb_at tbX9_share_n30_ok 13 rfl
theorem dX9_share_25 : decode cX9_share 25 = .ok (.ireturn, 1) := tb_at tbX9_share_n30_ok 14 rfl
theorem dX9_share_26 : decode cX9_share 26 = .ok (.aload_n 0, 1) := tb_at tbX9_share_n30_ok 15 rfl
theorem dX9_share_27 : decode cX9_share 27 = .ok (.iload_n 1, 1) := tb_at tbX9_share_n30_ok 16 rfl
theorem dX9_share_28 : decode cX9_share 28 = .ok (.iload_n 2, 1) := tb_at tbX9_share_n30_ok 17 rfl
theorem dX9_share_29 : decode cX9_share 29 = .ok (.invokevirtual 170, 3) := tb_at tbX9_share_n30_ok 18 rfl
theorem dX9_share_32 : decode cX9_share 32 = .ok (.iconst 3, 1) := tb_at tbX9_share_n30_ok 19 rfl
theorem dX9_share_33 : decode cX9_share 33 = .ok (.if_icmp .lt 19, 3) := tb_at tbX9_share_n30_ok 20 rfl
theorem dX9_share_36 : decode cX9_share 36 = .ok (.aload_n 0, 1) := tb_at tbX9_share_n30_ok 21 rfl
theorem dX9_share_37 : decode cX9_share 37 = .ok (.iload_n 1, 1) := tb_at tbX9_share_n30_ok 22 rfl
theorem dX9_share_38 : decode cX9_share 38 = .ok (.iload_n 2, 1) := tb_at tbX9_share_n30_ok 23 rfl
theorem dX9_share_39 : decode cX9_share 39 = .ok (.invokevirtual 170, 3) := tb_at tbX9_share_n30_ok 24 rfl
theorem dX9_share_42 : decode cX9_share 42 = .ok (.aload_n 0, 1) := tb_at tbX9_share_n30_ok 25 rfl
theorem dX9_share_43 : decode cX9_share 43 = .ok (.iload_n 3, 1) := tb_at tbX9_share_n30_ok 26 rfl
theorem dX9_share_44 : decode cX9_share 44 = .ok (.iload 4, 2) := tb_at tbX9_share_n30_ok 27 rfl
theorem dX9_share_46 : decode cX9_share 46 = .ok (.invokevirtual 170, 3) := tb_at tbX9_share_n30_ok 28 rfl
theorem dX9_share_49 : decode cX9_share 49 = .ok (.if_icmp .eq 6, 3) := tb_at tbX9_share_n30_ok 29 rfl
theorem dX9_share_52 : decode cX9_share 52 = .ok (.bipush (-14), 2) := tb_at tbX9_share_n30_ok 30 rfl
theorem dX9_share_54 : decode cX9_share 54 = .ok (.ireturn, 1) := tb_at tbX9_share_n30_ok 31 rfl
theorem dX9_share_55 : decode cX9_share 55 = .ok (.aload_n 0, 1) := tb_at tbX9_share_n30_ok 32 rfl
theorem dX9_share_56 : decode cX9_share 56 = .ok (.invokevirtual 182, 3) := tb_at tbX9_share_n30_ok 33 rfl
theorem dX9_share_59 : decode cX9_share 59 = .ok (.ifCond .eq 6, 3) := tb_at tbX9_share_n30_ok 34 rfl
theorem dX9_share_62 : decode cX9_share 62 = .ok (.bipush (-4), 2) := tb_at tbX9_share_n30_ok 35 rfl
theorem dX9_share_64 : decode cX9_share 64 = .ok (.ireturn, 1) := tb_at tbX9_share_n30_ok 36 rfl
theorem dX9_share_65 : decode cX9_share 65 = .ok (.aload_n 0, 1) := tb_at tbX9_share_n30_ok 37 rfl
theorem dX9_share_66 : decode cX9_share 66 = .ok (.iload_n 1, 1) := tb_at tbX9_share_n30_ok 38 rfl
theorem dX9_share_67 : decode cX9_share 67 = .ok (.iload_n 2, 1) := tb_at tbX9_share_n30_ok 39 rfl
theorem dX9_share_68 : decode cX9_share 68 = .ok (.aload_n 0, 1) := tb_at tbX9_share_n30_ok 40 rfl
theorem dX9_share_69 : decode cX9_share 69 = .ok (.getfield 48, 3) := tb_at tbX9_share_n30_ok 41 rfl
theorem dX9_share_72 : decode cX9_share 72 = .ok (.iconst 5, 1) := tb_at tbX9_share_n30_ok 42 rfl
theorem dX9_share_73 : decode cX9_share 73 = .ok (.iload_n 3, 1) := tb_at tbX9_share_n30_ok 43 rfl
theorem dX9_share_74 : decode cX9_share 74 = .ok (.imul, 1) := tb_at tbX9_share_n30_ok 44 rfl
theorem dX9_share_75 : decode cX9_share 75 = .ok (.iload 4, 2) := tb_at tbX9_share_n30_ok 45 rfl
theorem dX9_share_77 : decode cX9_share 77 = .ok (.iadd, 1) := tb_at tbX9_share_n30_ok 46 rfl
theorem dX9_share_78 : decode cX9_share 78 = .ok (.laload, 1) := tb_at tbX9_share_n30_ok 47 rfl
theorem dX9_share_79 : decode cX9_share 79 = .ok (.invokevirtual 186, 3) := tb_at tbX9_share_n30_ok 48 rfl
theorem dX9_share_82 : decode cX9_share 82 = .ok (.iconst 1, 1) := tb_at tbX9_share_n30_ok 49 rfl
theorem dX9_share_83 : decode cX9_share 83 = .ok (.ireturn, 1) := tb_at tbX9_share_n30_ok 50 rfl
set_option maxRecDepth 20000 in
theorem ggX9_item_X9_isField : GoodIn wsX9_item wsX9_isField := goodIn_r _ [15, 16, 17, 18, 19, 20, 14, 21, 22, 35, 36, 37, 38, 39, 40, 41, 42, 43, 44, 45, 46, 47, 48, 49, 50, 51, 52, 53, 54, 55, 56, 57, 58, 59, 60, 61, 62, 63, 64, 65, 66, 67, 68, 69, 70, 71, 72, 73, 74, 75, 76, 77, 78, 79, 80, 81, 82, 83, 84, 85] (by decide +kernel) (by decide +kernel)
set_option maxRecDepth 20000 in
theorem gX9_item_X9_isField : GoodIn wsX9_item (wsV RX9 176 RX9 yX9_isField wsX9_isField) := goodIn_app (goodIn_of _ (by decide +kernel)) ggX9_item_X9_isField
set_option maxRecDepth 20000 in
theorem ggX9_item_X9_lane : GoodIn wsX9_item wsX9_lane := goodIn_r _ [26, 27, 17, 35, 36, 37, 38, 39, 40, 41, 42, 43, 44, 45, 46, 47, 48, 49, 50, 51, 52, 53, 54, 55, 56, 57, 58, 59, 60, 61, 62, 63, 64, 65, 66, 67, 68, 69, 70, 71, 72, 73, 74, 75, 76, 77, 78, 79, 80, 81, 82, 83, 84, 85] (by decide +kernel) (by decide +kernel)
set_option maxRecDepth 20000 in
theorem gX9_item_X9_lane : GoodIn wsX9_item (wsV RX9 170 RX9 yX9_lane wsX9_lane) := goodIn_app (goodIn_of _ (by decide +kernel)) ggX9_item_X9_lane
set_option maxRecDepth 20000 in
theorem ggX9_item_X9_isFull : GoodIn wsX9_item wsX9_isFull := goodIn_r _ [31, 4, 6, 35, 36, 37, 38, 39, 40, 41, 42, 43, 44, 45, 46, 47, 48, 49, 50, 51, 52, 53, 54, 55, 56, 57, 58, 59, 60, 61, 62, 63, 64, 65, 66, 67, 68, 69, 70, 71, 72, 73, 74, 75, 76, 77, 78, 79, 80, 81, 82, 83, 84, 85] (by decide +kernel) (by decide +kernel)
set_option maxRecDepth 20000 in
theorem gX9_item_X9_isFull : GoodIn wsX9_item (wsV RX9 182 RX9 yX9_isFull wsX9_isFull) := goodIn_app (goodIn_of _ (by decide +kernel)) ggX9_item_X9_isFull
set_option maxRecDepth 20000 in
theorem ggX9_item_X9_cut : GoodIn wsX9_item wsX9_cut := goodIn_r _ [34] (by decide +kernel) (by decide +kernel)
set_option maxRecDepth 20000 in
theorem gX9_item_X9_cut : GoodIn wsX9_item (va_wsS RX9 193 yX9_cut wsX9_cut) := goodIn_app (goodIn_of _ (by decide +kernel)) ggX9_item_X9_cut
noncomputable def tbX9_item_n30 : List (Nat × Instr × Nat) := [(0, (.aload_n 0), 1), (1, (.iconst 0), 1), (2, (.putfield 145), 3), (5, (.aload_n 0), 1), (6, (.iload_n 1), 1), (7, (.iload_n 2), 1), (8, (.invokevirtual 176), 3), (11, (.ifCond .ne 5), 3), (14, (.iconst (-1)), 1), (15, .ireturn, 1), (16, (.aload_n 0), 1), (17, (.iload_n 1), 1), (18, (.iload_n 2), 1), (19, (.invokevirtual 170), 3), (22, (.iconst 3), 1), (23, (.if_icmp .ge 6), 3), (26, (.bipush (-14)), 2), (28, .ireturn, 1), (29, (.aload_n 0), 1), (30, (.getfield 48), 3), (33, (.iconst 5), 1), (34, (.iload_n 1), 1), (35, .imul, 1), (36, (.iload_n 2), 1), (37, .iadd, 1), (38, .laload, 1), (39, .l2i, 1), (40, (.istore 6), 2), (42, (.iload 6), 2), (44, (.ifCond .ge 6), 3), (47, (.bipush (-11)), 2), (49, .ireturn, 1), (50, (.iload_n 3), 1), (51, (.ifCond .lt 14), 3), (54, (.iload_n 3), 1), (55, (.aload_n 0), 1), (56, (.getfield 54), 3), (59, (.iload 6), 2), (61, .iaload, 1), (62, (.if_icmp .lt 6), 3), (65, (.bipush (-12)), 2), (67, .ireturn, 1), (68, (.aload_n 0), 1), (69, (.invokevirtual 182), 3), (72, (.ifCond .eq 6), 3), (75, (.bipush (-4)), 2), (77, .ireturn, 1), (78, (.aload_n 0), 1), (79, (.getfield 165), 3), (82, (.ifCond .le 55), 3), (85, (.aload_n 0), 1), (86, (.getfield 72), 3), (89, (.aload_n 0), 1), (90, (.getfield 173), 3), (93, (.iload 6), 2), (95, .iastore, 1), (96, (.aload_n 0), 1), (97, (.getfield 75), 3), (100, (.aload_n 0), 1), (101, (.getfield 173), 3), (104, (.iload_n 3), 1), (105, .iastore, 1), (106, (.aload_n 0), 1), (107, (.getfield 78), 3), (110, (.aload_n 0), 1), (111, (.getfield 173), 3), (114, (.aload_n 0), 1), (115, (.getfield 57), 3), (118, (.bipush 12), 2), (120, (.iload 6), 2), (122, .imul, 1), (123, (.iload_n 3), 1), (124, .iadd, 1), (125, .laload, 1), (126, .lastore, 1), (127, (.aload_n 0), 1), (128, .dup, 1), (129, (.getfield 173), 3), (132, (.iconst 1), 1), (133, .iadd, 1), (134, (.putfield 173), 3), (137, (.aload_n 0), 1), (138, (.getfield 57), 3), (141, (.bipush 12), 2), (143, (.iload 6), 2), (145, .imul, 1), (146, (.iload_n 3), 1), (147, .iadd, 1), (148, (.aload_n 0), 1), (149, (.getfield 51), 3), (152, (.iload 6), 2), (154, .iaload, 1), (155, (.lload 4), 2), (157, (.invokestatic 193), 3), (160, .lastore, 1), (161, (.iconst 1), 1), (162, .ireturn, 1)]
theorem tbX9_item_n30_ok : ∀ q ∈ tbX9_item_n30, decode cX9_item q.1 = .ok q.2 := by decide +kernel
theorem dX9_item_0 : decode cX9_item 0 = .ok (.aload_n 0, 1) := tb_at tbX9_item_n30_ok 0 rfl
theorem dX9_item_1 : decode cX9_item 1 = .ok (.iconst 0, 1) := tb_at tbX9_item_n30_ok 1 rfl
theorem dX9_item_2 : decode cX9_item 2 = .ok (.putfield 145, 3) := tb_at tbX9_item_n30_ok 2 rfl
theorem dX9_item_5 : decode cX9_item 5 = .ok (.aload_n 0, 1) := tb_at tbX9_item_n30_ok 3 rfl
theorem dX9_item_6 : decode cX9_item 6 = .ok (.iload_n 1, 1) := tb_at tbX9_item_n30_ok 4 rfl
theorem dX9_item_7 : decode cX9_item 7 = .ok (.iload_n 2, 1) := tb_at tbX9_item_n30_ok 5 rfl
theorem dX9_item_8 : decode cX9_item 8 = .ok (.invokevirtual 176, 3) := tb_at tbX9_item_n30_ok 6 rfl
theorem dX9_item_11 : decode cX9_item 11 = .ok (.ifCond .ne 5, 3) := tb_at tbX9_item_n30_ok 7 rfl
theorem dX9_item_14 : decode cX9_item 14 = .ok (.iconst (-1), 1) := tb_at tbX9_item_n30_ok 8 rfl
theorem dX9_item_15 : decode cX9_item 15 = .ok (.ireturn, 1) := tb_at tbX9_item_n30_ok 9 rfl
theorem dX9_item_16 : decode cX9_item 16 = .ok (.aload_n 0, 1) := tb_at tbX9_item_n30_ok 10 rfl
theorem dX9_item_17 : decode cX9_item 17 = .ok (.iload_n 1, 1) := tb_at tbX9_item_n30_ok 11 rfl
theorem dX9_item_18 : decode cX9_item 18 = .ok (.iload_n 2, 1) := tb_at tbX9_item_n30_ok 12 rfl
theorem dX9_item_19 : decode cX9_item 19 = .ok (.invokevirtual 170, 3) := tb_at tbX9_item_n30_ok 13 rfl
theorem dX9_item_22 : decode cX9_item 22 = .ok (.iconst 3, 1) := tb_at tbX9_item_n30_ok 14 rfl
theorem dX9_item_23 : decode cX9_item 23 = .ok (.if_icmp .ge 6, 3) := tb_at tbX9_item_n30_ok 15 rfl
theorem dX9_item_26 : decode cX9_item 26 = .ok (.bipush (-14), 2) := tb_at tbX9_item_n30_ok 16 rfl
theorem dX9_item_28 : decode cX9_item 28 = .ok (.ireturn, 1) := tb_at tbX9_item_n30_ok 17 rfl
theorem dX9_item_29 : decode cX9_item 29 = .ok (.aload_n 0, 1) := tb_at tbX9_item_n30_ok 18 rfl
theorem dX9_item_30 : decode cX9_item 30 = .ok (.getfield 48, 3) := tb_at tbX9_item_n30_ok 19 rfl
theorem dX9_item_33 : decode cX9_item 33 = .ok (.iconst 5, 1) := tb_at tbX9_item_n30_ok 20 rfl
theorem dX9_item_34 : decode cX9_item 34 = .ok (.iload_n 1, 1) := tb_at tbX9_item_n30_ok 21 rfl
theorem dX9_item_35 : decode cX9_item 35 = .ok (.imul, 1) := tb_at tbX9_item_n30_ok 22 rfl
theorem dX9_item_36 : decode cX9_item 36 = .ok (.iload_n 2, 1) := tb_at tbX9_item_n30_ok 23 rfl
theorem dX9_item_37 : decode cX9_item 37 = .ok (.iadd, 1) := tb_at tbX9_item_n30_ok 24 rfl
theorem dX9_item_38 : decode cX9_item 38 = .ok (.laload, 1) := tb_at tbX9_item_n30_ok 25 rfl
theorem dX9_item_39 : decode cX9_item 39 = .ok (.l2i, 1) := tb_at tbX9_item_n30_ok 26 rfl
theorem dX9_item_40 : decode cX9_item 40 = .ok (.istore 6, 2) := tb_at tbX9_item_n30_ok 27 rfl
theorem dX9_item_42 : decode cX9_item 42 = .ok (.iload 6, 2) := tb_at tbX9_item_n30_ok 28 rfl
theorem dX9_item_44 : decode cX9_item 44 = .ok (.ifCond .ge 6, 3) := tb_at tbX9_item_n30_ok 29 rfl
theorem dX9_item_47 : decode cX9_item 47 = .ok (.bipush (-11), 2) := tb_at tbX9_item_n30_ok 30 rfl
theorem dX9_item_49 : decode cX9_item 49 = .ok (.ireturn, 1) := tb_at tbX9_item_n30_ok 31 rfl
theorem dX9_item_50 : decode cX9_item 50 = .ok (.iload_n 3, 1) := tb_at tbX9_item_n30_ok 32 rfl
theorem dX9_item_51 : decode cX9_item 51 = .ok (.ifCond .lt 14, 3) := tb_at tbX9_item_n30_ok 33 rfl
theorem dX9_item_54 : decode cX9_item 54 = .ok (.iload_n 3, 1) := tb_at tbX9_item_n30_ok 34 rfl
theorem dX9_item_55 : decode cX9_item 55 = .ok (.aload_n 0, 1) := tb_at tbX9_item_n30_ok 35 rfl
theorem dX9_item_56 : decode cX9_item 56 = .ok (.getfield 54, 3) := tb_at tbX9_item_n30_ok 36 rfl
theorem dX9_item_59 : decode cX9_item 59 = .ok (.iload 6, 2) := tb_at tbX9_item_n30_ok 37 rfl
theorem dX9_item_61 : decode cX9_item 61 = .ok (.iaload, 1) := tb_at tbX9_item_n30_ok 38 rfl
theorem dX9_item_62 : decode cX9_item 62 = .ok (.if_icmp .lt 6, 3) := tb_at tbX9_item_n30_ok 39 rfl
theorem dX9_item_65 : decode cX9_item 65 = .ok (.bipush (-12), 2) := tb_at tbX9_item_n30_ok 40 rfl
theorem dX9_item_67 : decode cX9_item 67 = .ok (.ireturn, 1) := tb_at tbX9_item_n30_ok 41 rfl
theorem dX9_item_68 : decode cX9_item 68 = .ok (.aload_n 0, 1) := tb_at tbX9_item_n30_ok 42 rfl
theorem dX9_item_69 : decode cX9_item 69 = .ok (.invokevirtual 182, 3) := tb_at tbX9_item_n30_ok 43 rfl
theorem dX9_item_72 : decode cX9_item 72 = .ok (.ifCond .eq 6, 3) := tb_at tbX9_item_n30_ok 44 rfl
theorem dX9_item_75 : decode cX9_item 75 = .ok (.bipush (-4), 2) := tb_at tbX9_item_n30_ok 45 rfl
theorem dX9_item_77 : decode cX9_item 77 = .ok (.ireturn, 1) := tb_at tbX9_item_n30_ok 46 rfl
theorem dX9_item_78 : decode cX9_item 78 = .ok (.aload_n 0, 1) := tb_at tbX9_item_n30_ok 47 rfl
theorem dX9_item_79 : decode cX9_item 79 = .ok (.getfield 165, 3) := tb_at tbX9_item_n30_ok 48 rfl
theorem dX9_item_82 : decode cX9_item 82 = .ok (.ifCond .le 55, 3) := tb_at tbX9_item_n30_ok 49 rfl
theorem dX9_item_85 : decode cX9_item 85 = .ok (.aload_n 0, 1) := tb_at tbX9_item_n30_ok 50 rfl
theorem dX9_item_86 : decode cX9_item 86 = .ok (.getfield 72, 3) := tb_at tbX9_item_n30_ok 51 rfl
theorem dX9_item_89 : decode cX9_item 89 = .ok (.aload_n 0, 1) := tb_at tbX9_item_n30_ok 52 rfl
theorem dX9_item_90 : decode cX9_item 90 = .ok (.getfield 173, 3) := tb_at tbX9_item_n30_ok 53 rfl
theorem dX9_item_93 : decode cX9_item 93 = .ok (.iload 6, 2) := tb_at tbX9_item_n30_ok 54 rfl
theorem dX9_item_95 : decode cX9_item 95 = .ok (.iastore, 1) := tb_at tbX9_item_n30_ok 55 rfl
theorem dX9_item_96 : decode cX9_item 96 = .ok (.aload_n 0, 1) := tb_at tbX9_item_n30_ok 56 rfl
theorem dX9_item_97 : decode cX9_item 97 = .ok (.getfield 75, 3) := tb_at tbX9_item_n30_ok 57 rfl
theorem dX9_item_100 : decode cX9_item 100 = .ok (.aload_n 0, 1) := tb_at tbX9_item_n30_ok 58 rfl
theorem dX9_item_101 : decode cX9_item 101 = .ok (.getfield 173, 3) := tb_at tbX9_item_n30_ok 59 rfl
theorem dX9_item_104 : decode cX9_item 104 = .ok (.iload_n 3, 1) := tb_at tbX9_item_n30_ok 60 rfl
theorem dX9_item_105 : decode cX9_item 105 = .ok (.iastore, 1) := tb_at tbX9_item_n30_ok 61 rfl
theorem dX9_item_106 : decode cX9_item 106 = .ok (.aload_n 0, 1) := tb_at tbX9_item_n30_ok 62 rfl
theorem dX9_item_107 : decode cX9_item 107 = .ok (.getfield 78, 3) := tb_at tbX9_item_n30_ok 63 rfl
theorem dX9_item_110 : decode cX9_item 110 = .ok (.aload_n 0, 1) := tb_at tbX9_item_n30_ok 64 rfl
theorem dX9_item_111 : decode cX9_item 111 = .ok (.getfield 173, 3) := tb_at tbX9_item_n30_ok 65 rfl
theorem dX9_item_114 : decode cX9_item 114 = .ok (.aload_n 0, 1) := tb_at tbX9_item_n30_ok 66 rfl
theorem dX9_item_115 : decode cX9_item 115 = .ok (.getfield 57, 3) := tb_at tbX9_item_n30_ok 67 rfl
theorem dX9_item_118 : decode cX9_item 118 = .ok (.bipush 12, 2) := tb_at tbX9_item_n30_ok 68 rfl
theorem dX9_item_120 : decode cX9_item 120 = .ok (.iload 6, 2) := tb_at tbX9_item_n30_ok 69 rfl
theorem dX9_item_122 : decode cX9_item 122 = .ok (.imul, 1) := tb_at tbX9_item_n30_ok 70 rfl
theorem dX9_item_123 : decode cX9_item 123 = .ok (.iload_n 3, 1) := tb_at tbX9_item_n30_ok 71 rfl
theorem dX9_item_124 : decode cX9_item 124 = .ok (.iadd, 1) := tb_at tbX9_item_n30_ok 72 rfl
theorem dX9_item_125 : decode cX9_item 125 = .ok (.laload, 1) := tb_at tbX9_item_n30_ok 73 rfl
theorem dX9_item_126 : decode cX9_item 126 = .ok (.lastore, 1) := tb_at tbX9_item_n30_ok 74 rfl
theorem dX9_item_127 : decode cX9_item 127 = .ok (.aload_n 0, 1) := tb_at tbX9_item_n30_ok 75 rfl
theorem dX9_item_128 : decode cX9_item 128 = .ok (.dup, 1) := tb_at tbX9_item_n30_ok 76 rfl
theorem dX9_item_129 : decode cX9_item 129 = .ok (.getfield 173, 3) := tb_at tbX9_item_n30_ok 77 rfl
theorem dX9_item_132 : decode cX9_item 132 = .ok (.iconst 1, 1) := tb_at tbX9_item_n30_ok 78 rfl
theorem dX9_item_133 : decode cX9_item 133 = .ok (.iadd, 1) := tb_at tbX9_item_n30_ok 79 rfl
theorem dX9_item_134 : decode cX9_item 134 = .ok (.putfield 173, 3) := tb_at tbX9_item_n30_ok 80 rfl
theorem dX9_item_137 : decode cX9_item 137 = .ok (.aload_n 0, 1) := tb_at tbX9_item_n30_ok 81 rfl
theorem dX9_item_138 : decode cX9_item 138 = .ok (.getfield 57, 3) := tb_at tbX9_item_n30_ok 82 rfl
theorem dX9_item_141 : decode cX9_item 141 = .ok (.bipush 12, 2) := tb_at tbX9_item_n30_ok 83 rfl
theorem dX9_item_143 : decode cX9_item 143 = .ok (.iload 6, 2) := tb_at tbX9_item_n30_ok 84 rfl
theorem dX9_item_145 : decode cX9_item 145 = .ok (.imul, 1) := tb_at tbX9_item_n30_ok 85 rfl
theorem dX9_item_146 : decode cX9_item 146 = .ok (.iload_n 3, 1) := tb_at tbX9_item_n30_ok 86 rfl
theorem dX9_item_147 : decode cX9_item 147 = .ok (.iadd, 1) := tb_at tbX9_item_n30_ok 87 rfl
theorem dX9_item_148 : decode cX9_item 148 = .ok (.aload_n 0, 1) := tb_at tbX9_item_n30_ok 88 rfl
theorem dX9_item_149 : decode cX9_item 149 = .ok (.getfield 51, 3) := tb_at tbX9_item_n30_ok 89 rfl
theorem dX9_item_152 : decode cX9_item 152 = .ok (.iload 6, 2) := tb_at tbX9_item_n30_ok 90 rfl
theorem dX9_item_154 : decode cX9_item 154 = .ok (.iaload, 1) := tb_at tbX9_item_n30_ok 91 rfl
theorem dX9_item_155 : decode cX9_item 155 = .ok (.lload 4, 2) := tb_at tbX9_item_n30_ok 92 rfl
theorem dX9_item_157 : decode cX9_item 157 = .ok (.invokestatic 193, 3) := tb_at tbX9_item_n30_ok 93 rfl
theorem dX9_item_160 : decode cX9_item 160 = .ok (.lastore, 1) := tb_at tbX9_item_n30_ok 94 rfl
theorem dX9_item_161 : decode cX9_item 161 = .ok (.iconst 1, 1) := tb_at tbX9_item_n30_ok 95 rfl
theorem dX9_item_162 : decode cX9_item 162 = .ok (.ireturn, 1) := tb_at tbX9_item_n30_ok 96 rfl
set_option maxRecDepth 20000 in
theorem ggX9_at_X9_isThing : GoodIn wsX9_at wsX9_isThing := goodIn_r _ [8, 9, 21, 22, 23, 24, 25, 26, 27, 28, 29, 30, 31, 32, 33, 34, 35, 36, 37, 38, 39, 40, 41, 42, 43, 44, 45, 46, 47, 48, 49, 50, 51, 52, 53, 54, 55, 56, 57, 58, 59, 60, 61, 62, 63, 64, 65, 66, 67, 68, 69, 70, 71] (by decide +kernel) (by decide +kernel)
set_option maxRecDepth 20000 in
theorem gX9_at_X9_isThing : GoodIn wsX9_at (wsV RX9 154 RX9 yX9_isThing wsX9_isThing) := goodIn_app (goodIn_of _ (by decide +kernel)) ggX9_at_X9_isThing
set_option maxRecDepth 20000 in
theorem ggX9_at_X9_isField : GoodIn wsX9_at wsX9_isField := goodIn_r _ [13, 14, 15, 4, 5, 6, 7, 8, 9, 21, 22, 23, 24, 25, 26, 27, 28, 29, 30, 31, 32, 33, 34, 35, 36, 37, 38, 39, 40, 41, 42, 43, 44, 45, 46, 47, 48, 49, 50, 51, 52, 53, 54, 55, 56, 57, 58, 59, 60, 61, 62, 63, 64, 65, 66, 67, 68, 69, 70, 71] (by decide +kernel) (by decide +kernel)
set_option maxRecDepth 20000 in
theorem gX9_at_X9_isField : GoodIn wsX9_at (wsV RX9 176 RX9 yX9_isField wsX9_isField) := goodIn_app (goodIn_of _ (by decide +kernel)) ggX9_at_X9_isField
set_option maxRecDepth 20000 in
theorem ggX9_at_X9_lane : GoodIn wsX9_at wsX9_lane := goodIn_r _ [19, 20, 15, 21, 22, 23, 24, 25, 26, 27, 28, 29, 30, 31, 32, 33, 34, 35, 36, 37, 38, 39, 40, 41, 42, 43, 44, 45, 46, 47, 48, 49, 50, 51, 52, 53, 54, 55, 56, 57, 58, 59, 60, 61, 62, 63, 64, 65, 66, 67, 68, 69, 70, 71] (by decide +kernel) (by decide +kernel)
set_option maxRecDepth 20000 in
theorem gX9_at_X9_lane : GoodIn wsX9_at (wsV RX9 170 RX9 yX9_lane wsX9_lane) := goodIn_app (goodIn_of _ (by decide +kernel)) ggX9_at_X9_lane
noncomputable def tbX9_at_n30 : List (Nat × Instr × Nat) := [(0, (.aload_n 0), 1), (1, (.iconst 0), 1), (2, (.putfield 145), 3), (5, (.aload_n 0), 1), (6, (.iload_n 1), 1), (7, (.invokevirtual 154), 3), (10, (.ifCond .ne 10), 3), (13, (.aload_n 0), 1), (14, (.iconst 1), 1), (15, (.putfield 145), 3), (18, (.lconst 0), 1), (19, .lreturn, 1), (20, (.aload_n 0), 1), (21, (.iload_n 1), 1), (22, (.iload_n 2), 1), (23, (.invokevirtual 176), 3), (26, (.ifCond .ne 10), 3), (29, (.aload_n 0), 1), (30, (.iconst 2), 1), (31, (.putfield 145), 3), (34, (.lconst 0), 1), (35, .lreturn, 1), (36, (.aload_n 0), 1), (37, (.getfield 48), 3), (40, (.iconst 5), 1), (41, (.iload_n 1), 1), (42, .imul, 1), (43, (.iload_n 2), 1), (44, .iadd, 1), (45, .laload, 1), (46, (.lstore_n 3), 1), (47, (.aload_n 0), 1), (48, (.iload_n 1), 1), (49, (.iload_n 2), 1), (50, (.invokevirtual 170), 3), (53, (.iconst 3), 1), (54, (.if_icmp .lt 9), 3), (57, (.lload_n 3), 1), (58, (.lconst 0), 1), (59, .lcmp, 1), (60, (.ifCond .ge 7), 3), (63, (.lload_n 3), 1), (64, (.goto 11), 3), (67, (.aload_n 0), 1), (68, (.getfield 54), 3), (71, (.lload_n 3), 1), (72, .l2i, 1), (73, .iaload, 1), (74, .i2l, 1), (75, .lreturn, 1)]
theorem tbX9_at_n30_ok : ∀ q ∈ tbX9_at_n30, decode cX9_at q.1 = .ok q.2 := by decide +kernel
theorem dX9_at_0 : decode cX9_at 0 = .ok (.aload_n 0, 1) := tb_at tbX9_at_n30_ok 0 rfl
theorem dX9_at_1 : decode cX9_at 1 = .ok (.iconst 0, 1) := tb_at tbX9_at_n30_ok 1 rfl
theorem dX9_at_2 : decode cX9_at 2 = .ok (.putfield 145, 3) := tb_at tbX9_at_n30_ok 2 rfl
theorem dX9_at_5 : decode cX9_at 5 = .ok (.aload_n 0, 1) := tb_at tbX9_at_n30_ok 3 rfl
theorem dX9_at_6 : decode cX9_at 6 = .ok (.iload_n 1, 1) := tb_at tbX9_at_n30_ok 4 rfl
theorem dX9_at_7 : decode cX9_at 7 = .ok (.invokevirtual 154, 3) := tb_at tbX9_at_n30_ok 5 rfl
theorem dX9_at_10 : decode cX9_at 10 = .ok (.ifCond .ne 10, 3) := tb_at tbX9_at_n30_ok 6 rfl
theorem dX9_at_13 : decode cX9_at 13 = .ok (.aload_n 0, 1) := tb_at tbX9_at_n30_ok 7 rfl
theorem dX9_at_14 : decode cX9_at 14 = .ok (.iconst 1, 1) := tb_at tbX9_at_n30_ok 8 rfl
theorem dX9_at_15 : decode cX9_at 15 = .ok (.putfield 145, 3) := tb_at tbX9_at_n30_ok 9 rfl
theorem dX9_at_18 : decode cX9_at 18 = .ok (.lconst 0, 1) := tb_at tbX9_at_n30_ok 10 rfl
theorem dX9_at_19 : decode cX9_at 19 = .ok (.lreturn, 1) := tb_at tbX9_at_n30_ok 11 rfl
theorem dX9_at_20 : decode cX9_at 20 = .ok (.aload_n 0, 1) := tb_at tbX9_at_n30_ok 12 rfl
theorem dX9_at_21 : decode cX9_at 21 = .ok (.iload_n 1, 1) := tb_at tbX9_at_n30_ok 13 rfl
theorem dX9_at_22 : decode cX9_at 22 = .ok (.iload_n 2, 1) := tb_at tbX9_at_n30_ok 14 rfl
theorem dX9_at_23 : decode cX9_at 23 = .ok (.invokevirtual 176, 3) := tb_at tbX9_at_n30_ok 15 rfl
theorem dX9_at_26 : decode cX9_at 26 = .ok (.ifCond .ne 10, 3) := tb_at tbX9_at_n30_ok 16 rfl
theorem dX9_at_29 : decode cX9_at 29 = .ok (.aload_n 0, 1) := tb_at tbX9_at_n30_ok 17 rfl
theorem dX9_at_30 : decode cX9_at 30 = .ok (.iconst 2, 1) := tb_at tbX9_at_n30_ok 18 rfl
theorem dX9_at_31 : decode cX9_at 31 = .ok (.putfield 145, 3) := tb_at tbX9_at_n30_ok 19 rfl
theorem dX9_at_34 : decode cX9_at 34 = .ok (.lconst 0, 1) := tb_at tbX9_at_n30_ok 20 rfl
theorem dX9_at_35 : decode cX9_at 35 = .ok (.lreturn, 1) := tb_at tbX9_at_n30_ok 21 rfl
theorem dX9_at_36 : decode cX9_at 36 = .ok (.aload_n 0, 1) := tb_at tbX9_at_n30_ok 22 rfl
theorem dX9_at_37 : decode cX9_at 37 = .ok (.getfield 48, 3) := tb_at tbX9_at_n30_ok 23 rfl
theorem dX9_at_40 : decode cX9_at 40 = .ok (.iconst 5, 1) := tb_at tbX9_at_n30_ok 24 rfl
theorem dX9_at_41 : decode cX9_at 41 = .ok (.iload_n 1, 1) := tb_at tbX9_at_n30_ok 25 rfl
theorem dX9_at_42 : decode cX9_at 42 = .ok (.imul, 1) := tb_at tbX9_at_n30_ok 26 rfl
theorem dX9_at_43 : decode cX9_at 43 = .ok (.iload_n 2, 1) := tb_at tbX9_at_n30_ok 27 rfl
theorem dX9_at_44 : decode cX9_at 44 = .ok (.iadd, 1) := tb_at tbX9_at_n30_ok 28 rfl
theorem dX9_at_45 : decode cX9_at 45 = .ok (.laload, 1) := tb_at tbX9_at_n30_ok 29 rfl
theorem dX9_at_46 : decode cX9_at 46 = .ok (.lstore_n 3, 1) := tb_at tbX9_at_n30_ok 30 rfl
theorem dX9_at_47 : decode cX9_at 47 = .ok (.aload_n 0, 1) := tb_at tbX9_at_n30_ok 31 rfl
theorem dX9_at_48 : decode cX9_at 48 = .ok (.iload_n 1, 1) := tb_at tbX9_at_n30_ok 32 rfl
theorem dX9_at_49 : decode cX9_at 49 = .ok (.iload_n 2, 1) := tb_at tbX9_at_n30_ok 33 rfl
theorem dX9_at_50 : decode cX9_at 50 = .ok (.invokevirtual 170, 3) := tb_at tbX9_at_n30_ok 34 rfl
theorem dX9_at_53 : decode cX9_at 53 = .ok (.iconst 3, 1) := tb_at tbX9_at_n30_ok 35 rfl
theorem dX9_at_54 : decode cX9_at 54 = .ok (.if_icmp .lt 9, 3) := tb_at tbX9_at_n30_ok 36 rfl
theorem dX9_at_57 : decode cX9_at 57 = .ok (.lload_n 3, 1) := tb_at tbX9_at_n30_ok 37 rfl
theorem dX9_at_58 : decode cX9_at 58 = .ok (.lconst 0, 1) := tb_at tbX9_at_n30_ok 38 rfl
theorem dX9_at_59 : decode cX9_at 59 = .ok (.lcmp, 1) := tb_at tbX9_at_n30_ok 39 rfl
theorem dX9_at_60 : decode cX9_at 60 = .ok (.ifCond .ge 7, 3) := tb_at tbX9_at_n30_ok 40 rfl
theorem dX9_at_63 : decode cX9_at 63 = .ok (.lload_n 3, 1) := tb_at tbX9_at_n30_ok 41 rfl
theorem dX9_at_64 : decode cX9_at 64 = .ok (.goto 11, 3) := tb_at tbX9_at_n30_ok 42 rfl
theorem dX9_at_67 : decode cX9_at 67 = .ok (.aload_n 0, 1) := tb_at tbX9_at_n30_ok 43 rfl
theorem dX9_at_68 : decode cX9_at 68 = .ok (.getfield 54, 3) := tb_at tbX9_at_n30_ok 44 rfl
theorem dX9_at_71 : decode cX9_at 71 = .ok (.lload_n 3, 1) := tb_at tbX9_at_n30_ok 45 rfl
theorem dX9_at_72 : decode cX9_at 72 = .ok (.l2i, 1) := tb_at tbX9_at_n30_ok 46 rfl
theorem dX9_at_73 : decode cX9_at 73 = .ok (.iaload, 1) := tb_at tbX9_at_n30_ok 47 rfl
theorem dX9_at_74 : decode cX9_at 74 = .ok (.i2l, 1) := tb_at tbX9_at_n30_ok 48 rfl
theorem dX9_at_75 : decode cX9_at 75 = .ok (.lreturn, 1) := tb_at tbX9_at_n30_ok 49 rfl
set_option maxRecDepth 20000 in
theorem ggX9_itemAt_X9_isThing : GoodIn wsX9_itemAt wsX9_isThing := goodIn_r _ [9, 10, 22, 23, 24, 25, 26, 27, 28, 29, 30, 31, 32, 33, 34, 35, 36, 37, 38, 39, 40, 41, 42, 43, 44, 45, 46, 47, 48, 49, 50, 51, 52, 53, 54, 55, 56, 57, 58, 59, 60, 61, 62, 63, 64, 65, 66, 67, 68, 69, 70, 71, 72] (by decide +kernel) (by decide +kernel)
set_option maxRecDepth 20000 in
theorem gX9_itemAt_X9_isThing : GoodIn wsX9_itemAt (wsV RX9 154 RX9 yX9_isThing wsX9_isThing) := goodIn_app (goodIn_of _ (by decide +kernel)) ggX9_itemAt_X9_isThing
set_option maxRecDepth 20000 in
theorem ggX9_itemAt_X9_isField : GoodIn wsX9_itemAt wsX9_isField := goodIn_r _ [14, 15, 16, 5, 6, 7, 8, 9, 10, 22, 23, 24, 25, 26, 27, 28, 29, 30, 31, 32, 33, 34, 35, 36, 37, 38, 39, 40, 41, 42, 43, 44, 45, 46, 47, 48, 49, 50, 51, 52, 53, 54, 55, 56, 57, 58, 59, 60, 61, 62, 63, 64, 65, 66, 67, 68, 69, 70, 71, 72] (by decide +kernel) (by decide +kernel)
set_option maxRecDepth 20000 in
theorem gX9_itemAt_X9_isField : GoodIn wsX9_itemAt (wsV RX9 176 RX9 yX9_isField wsX9_isField) := goodIn_app (goodIn_of _ (by decide +kernel)) ggX9_itemAt_X9_isField
set_option maxRecDepth 20000 in
theorem ggX9_itemAt_X9_lane : GoodIn wsX9_itemAt wsX9_lane := goodIn_r _ [20, 21, 16, 22, 23, 24, 25, 26, 27, 28, 29, 30, 31, 32, 33, 34, 35, 36, 37, 38, 39, 40, 41, 42, 43, 44, 45, 46, 47, 48, 49, 50, 51, 52, 53, 54, 55, 56, 57, 58, 59, 60, 61, 62, 63, 64, 65, 66, 67, 68, 69, 70, 71, 72] (by decide +kernel) (by decide +kernel)
set_option maxRecDepth 20000 in
theorem gX9_itemAt_X9_lane : GoodIn wsX9_itemAt (wsV RX9 170 RX9 yX9_lane wsX9_lane) := goodIn_app (goodIn_of _ (by decide +kernel)) ggX9_itemAt_X9_lane
noncomputable def tbX9_itemAt_n30 : List (Nat × Instr × Nat) := [(0, (.aload_n 0), 1), (1, (.iconst 0), 1), (2, (.putfield 145), 3), (5, (.aload_n 0), 1), (6, (.iload_n 1), 1), (7, (.invokevirtual 154), 3), (10, (.ifCond .ne 10), 3), (13, (.aload_n 0), 1), (14, (.iconst 1), 1), (15, (.putfield 145), 3), (18, (.lconst 0), 1), (19, .lreturn, 1), (20, (.aload_n 0), 1), (21, (.iload_n 1), 1), (22, (.iload_n 2), 1), (23, (.invokevirtual 176), 3), (26, (.ifCond .ne 10), 3), (29, (.aload_n 0), 1), (30, (.iconst 3), 1), (31, (.putfield 145), 3), (34, (.lconst 0), 1), (35, .lreturn, 1), (36, (.aload_n 0), 1), (37, (.iload_n 1), 1), (38, (.iload_n 2), 1), (39, (.invokevirtual 170), 3), (42, (.iconst 3), 1), (43, (.if_icmp .ge 7), 3), (46, (.iconst (-1)), 1), (47, (.goto 14), 3), (50, (.aload_n 0), 1), (51, (.getfield 48), 3), (54, (.iconst 5), 1), (55, (.iload_n 1), 1), (56, .imul, 1), (57, (.iload_n 2), 1), (58, .iadd, 1), (59, .laload, 1), (60, .l2i, 1), (61, (.istore 4), 2), (63, (.iload 4), 2), (65, (.ifCond .ge 10), 3), (68, (.aload_n 0), 1), (69, (.iconst 2), 1), (70, (.putfield 145), 3), (73, (.lconst 0), 1), (74, .lreturn, 1), (75, (.iload_n 3), 1), (76, (.ifCond .lt 14), 3), (79, (.iload_n 3), 1), (80, (.aload_n 0), 1), (81, (.getfield 54), 3), (84, (.iload 4), 2), (86, .iaload, 1), (87, (.if_icmp .lt 10), 3), (90, (.aload_n 0), 1), (91, (.iconst 3), 1), (92, (.putfield 145), 3), (95, (.lconst 0), 1), (96, .lreturn, 1), (97, (.aload_n 0), 1), (98, (.getfield 57), 3), (101, (.bipush 12), 2), (103, (.iload 4), 2), (105, .imul, 1), (106, (.iload_n 3), 1), (107, .iadd, 1), (108, .laload, 1), (109, .lreturn, 1)]
theorem tbX9_itemAt_n30_ok : ∀ q ∈ tbX9_itemAt_n30, decode cX9_itemAt q.1 = .ok q.2 := by decide +kernel
theorem dX9_itemAt_0 : decode cX9_itemAt 0 = .ok (.aload_n 0, 1) := tb_at tbX9_itemAt_n30_ok 0 rfl
theorem dX9_itemAt_1 : decode cX9_itemAt 1 = .ok (.iconst 0, 1) := tb_at tbX9_itemAt_n30_ok 1 rfl
theorem dX9_itemAt_2 : decode cX9_itemAt 2 = .ok (.putfield 145, 3) := tb_at tbX9_itemAt_n30_ok 2 rfl
theorem dX9_itemAt_5 : decode cX9_itemAt 5 = .ok (.aload_n 0, 1) := tb_at tbX9_itemAt_n30_ok 3 rfl
theorem dX9_itemAt_6 : decode cX9_itemAt 6 = .ok (.iload_n 1, 1) := tb_at tbX9_itemAt_n30_ok 4 rfl
theorem dX9_itemAt_7 : decode cX9_itemAt 7 = .ok (.invokevirtual 154, 3) := tb_at tbX9_itemAt_n30_ok 5 rfl
theorem dX9_itemAt_10 : decode cX9_itemAt 10 = .ok (.ifCond .ne 10, 3) := tb_at tbX9_itemAt_n30_ok 6 rfl
theorem dX9_itemAt_13 : decode cX9_itemAt 13 = .ok (.aload_n 0, 1) := tb_at tbX9_itemAt_n30_ok 7 rfl
theorem dX9_itemAt_14 : decode cX9_itemAt 14 = .ok (.iconst 1, 1) := tb_at tbX9_itemAt_n30_ok 8 rfl
theorem dX9_itemAt_15 : decode cX9_itemAt 15 = .ok (.putfield 145, 3) := tb_at tbX9_itemAt_n30_ok 9 rfl
theorem dX9_itemAt_18 : decode cX9_itemAt 18 = .ok (.lconst 0, 1) := tb_at tbX9_itemAt_n30_ok 10 rfl
theorem dX9_itemAt_19 : decode cX9_itemAt 19 = .ok (.lreturn, 1) := tb_at tbX9_itemAt_n30_ok 11 rfl
theorem dX9_itemAt_20 : decode cX9_itemAt 20 = .ok (.aload_n 0, 1) := tb_at tbX9_itemAt_n30_ok 12 rfl
theorem dX9_itemAt_21 : decode cX9_itemAt 21 = .ok (.iload_n 1, 1) := tb_at tbX9_itemAt_n30_ok 13 rfl
theorem dX9_itemAt_22 : decode cX9_itemAt 22 = .ok (.iload_n 2, 1) := tb_at tbX9_itemAt_n30_ok 14 rfl
theorem dX9_itemAt_23 : decode cX9_itemAt 23 = .ok (.invokevirtual 176, 3) := tb_at tbX9_itemAt_n30_ok 15 rfl
theorem dX9_itemAt_26 : decode cX9_itemAt 26 = .ok (.ifCond .ne 10, 3) := tb_at tbX9_itemAt_n30_ok 16 rfl
theorem dX9_itemAt_29 : decode cX9_itemAt 29 = .ok (.aload_n 0, 1) := tb_at tbX9_itemAt_n30_ok 17 rfl
theorem dX9_itemAt_30 : decode cX9_itemAt 30 = .ok (.iconst 3, 1) := tb_at tbX9_itemAt_n30_ok 18 rfl
theorem dX9_itemAt_31 : decode cX9_itemAt 31 = .ok (.putfield 145, 3) := tb_at tbX9_itemAt_n30_ok 19 rfl
theorem dX9_itemAt_34 : decode cX9_itemAt 34 = .ok (.lconst 0, 1) := tb_at tbX9_itemAt_n30_ok 20 rfl
theorem dX9_itemAt_35 : decode cX9_itemAt 35 = .ok (.lreturn, 1) := tb_at tbX9_itemAt_n30_ok 21 rfl
theorem dX9_itemAt_36 : decode cX9_itemAt 36 = .ok (.aload_n 0, 1) := tb_at tbX9_itemAt_n30_ok 22 rfl
theorem dX9_itemAt_37 : decode cX9_itemAt 37 = .ok (.iload_n 1, 1) := tb_at tbX9_itemAt_n30_ok 23 rfl
theorem dX9_itemAt_38 : decode cX9_itemAt 38 = .ok (.iload_n 2, 1) := tb_at tbX9_itemAt_n30_ok 24 rfl
theorem dX9_itemAt_39 : decode cX9_itemAt 39 = .ok (.invokevirtual 170, 3) := tb_at tbX9_itemAt_n30_ok 25 rfl
theorem dX9_itemAt_42 : decode cX9_itemAt 42 = .ok (.iconst 3, 1) := tb_at tbX9_itemAt_n30_ok 26 rfl
theorem dX9_itemAt_43 : decode cX9_itemAt 43 = .ok (.if_icmp .ge 7, 3) := tb_at tbX9_itemAt_n30_ok 27 rfl
theorem dX9_itemAt_46 : decode cX9_itemAt 46 = .ok (.iconst (-1), 1) := tb_at tbX9_itemAt_n30_ok 28 rfl
theorem dX9_itemAt_47 : decode cX9_itemAt 47 = .ok (.goto 14, 3) := tb_at tbX9_itemAt_n30_ok 29 rfl
theorem dX9_itemAt_50 : decode cX9_itemAt 50 = .ok (.aload_n 0, 1) := tb_at tbX9_itemAt_n30_ok 30 rfl
theorem dX9_itemAt_51 : decode cX9_itemAt 51 = .ok (.getfield 48, 3) := tb_at tbX9_itemAt_n30_ok 31 rfl
theorem dX9_itemAt_54 : decode cX9_itemAt 54 = .ok (.iconst 5, 1) := tb_at tbX9_itemAt_n30_ok 32 rfl
theorem dX9_itemAt_55 : decode cX9_itemAt 55 = .ok (.iload_n 1, 1) := tb_at tbX9_itemAt_n30_ok 33 rfl
theorem dX9_itemAt_56 : decode cX9_itemAt 56 = .ok (.imul, 1) := tb_at tbX9_itemAt_n30_ok 34 rfl
theorem dX9_itemAt_57 : decode cX9_itemAt 57 = .ok (.iload_n 2, 1) := tb_at tbX9_itemAt_n30_ok 35 rfl
theorem dX9_itemAt_58 : decode cX9_itemAt 58 = .ok (.iadd, 1) := tb_at tbX9_itemAt_n30_ok 36 rfl
theorem dX9_itemAt_59 : decode cX9_itemAt 59 = .ok (.laload, 1) := tb_at tbX9_itemAt_n30_ok 37 rfl
theorem dX9_itemAt_60 : decode cX9_itemAt 60 = .ok (.l2i, 1) := tb_at tbX9_itemAt_n30_ok 38 rfl
theorem dX9_itemAt_61 : decode cX9_itemAt 61 = .ok (.istore 4, 2) := tb_at tbX9_itemAt_n30_ok 39 rfl
theorem dX9_itemAt_63 : decode cX9_itemAt 63 = .ok (.iload 4, 2) := tb_at tbX9_itemAt_n30_ok 40 rfl
theorem dX9_itemAt_65 : decode cX9_itemAt 65 = .ok (.ifCond .ge 10, 3) := tb_at tbX9_itemAt_n30_ok 41 rfl
theorem dX9_itemAt_68 : decode cX9_itemAt 68 = .ok (.aload_n 0, 1) := tb_at tbX9_itemAt_n30_ok 42 rfl
theorem dX9_itemAt_69 : decode cX9_itemAt 69 = .ok (.iconst 2, 1) := tb_at tbX9_itemAt_n30_ok 43 rfl
theorem dX9_itemAt_70 : decode cX9_itemAt 70 = .ok (.putfield 145, 3) := tb_at tbX9_itemAt_n30_ok 44 rfl
theorem dX9_itemAt_73 : decode cX9_itemAt 73 = .ok (.lconst 0, 1) := tb_at tbX9_itemAt_n30_ok 45 rfl
theorem dX9_itemAt_74 : decode cX9_itemAt 74 = .ok (.lreturn, 1) := tb_at tbX9_itemAt_n30_ok 46 rfl
theorem dX9_itemAt_75 : decode cX9_itemAt 75 = .ok (.iload_n 3, 1) := tb_at tbX9_itemAt_n30_ok 47 rfl
theorem dX9_itemAt_76 : decode cX9_itemAt 76 = .ok (.ifCond .lt 14, 3) := tb_at tbX9_itemAt_n30_ok 48 rfl
theorem dX9_itemAt_79 : decode cX9_itemAt 79 = .ok (.iload_n 3, 1) := tb_at tbX9_itemAt_n30_ok 49 rfl
theorem dX9_itemAt_80 : decode cX9_itemAt 80 = .ok (.aload_n 0, 1) := tb_at tbX9_itemAt_n30_ok 50 rfl
theorem dX9_itemAt_81 : decode cX9_itemAt 81 = .ok (.getfield 54, 3) := tb_at tbX9_itemAt_n30_ok 51 rfl
theorem dX9_itemAt_84 : decode cX9_itemAt 84 = .ok (.iload 4, 2) := tb_at tbX9_itemAt_n30_ok 52 rfl
theorem dX9_itemAt_86 : decode cX9_itemAt 86 = .ok (.iaload, 1) := tb_at tbX9_itemAt_n30_ok 53 rfl
theorem dX9_itemAt_87 : decode cX9_itemAt 87 = .ok (.if_icmp .lt 10, 3) := tb_at tbX9_itemAt_n30_ok 54 rfl
theorem dX9_itemAt_90 : decode cX9_itemAt 90 = .ok (.aload_n 0, 1) := tb_at tbX9_itemAt_n30_ok 55 rfl
theorem dX9_itemAt_91 : decode cX9_itemAt 91 = .ok (.iconst 3, 1) := tb_at tbX9_itemAt_n30_ok 56 rfl
theorem dX9_itemAt_92 : decode cX9_itemAt 92 = .ok (.putfield 145, 3) := tb_at tbX9_itemAt_n30_ok 57 rfl
theorem dX9_itemAt_95 : decode cX9_itemAt 95 = .ok (.lconst 0, 1) := tb_at tbX9_itemAt_n30_ok 58 rfl
theorem dX9_itemAt_96 : decode cX9_itemAt 96 = .ok (.lreturn, 1) := tb_at tbX9_itemAt_n30_ok 59 rfl
theorem dX9_itemAt_97 : decode cX9_itemAt 97 = .ok (.aload_n 0, 1) := tb_at tbX9_itemAt_n30_ok 60 rfl
theorem dX9_itemAt_98 : decode cX9_itemAt 98 = .ok (.getfield 57, 3) := tb_at tbX9_itemAt_n30_ok 61 rfl
theorem dX9_itemAt_101 : decode cX9_itemAt 101 = .ok (.bipush 12, 2) := tb_at tbX9_itemAt_n30_ok 62 rfl
theorem dX9_itemAt_103 : decode cX9_itemAt 103 = .ok (.iload 4, 2) := tb_at tbX9_itemAt_n30_ok 63 rfl
theorem dX9_itemAt_105 : decode cX9_itemAt 105 = .ok (.imul, 1) := tb_at tbX9_itemAt_n30_ok 64 rfl
theorem dX9_itemAt_106 : decode cX9_itemAt 106 = .ok (.iload_n 3, 1) := tb_at tbX9_itemAt_n30_ok 65 rfl
theorem dX9_itemAt_107 : decode cX9_itemAt 107 = .ok (.iadd, 1) := tb_at tbX9_itemAt_n30_ok 66 rfl
theorem dX9_itemAt_108 : decode cX9_itemAt 108 = .ok (.laload, 1) := tb_at tbX9_itemAt_n30_ok 67 rfl
theorem dX9_itemAt_109 : decode cX9_itemAt 109 = .ok (.lreturn, 1) := tb_at tbX9_itemAt_n30_ok 68 rfl
noncomputable def tbX9_forget_n30 : List (Nat × Instr × Nat) := [(0, (.aload_n 0), 1), (1, (.iconst 0), 1), (2, (.putfield 145), 3), (5, (.aload_n 0), 1), (6, (.getfield 165), 3), (9, (.ifCond .le 6), 3), (12, (.bipush (-3)), 2), (14, .ireturn, 1), (15, (.aload_n 0), 1), (16, (.getfield 151), 3), (19, (.istore_n 1), 1), (20, (.aload_n 0), 1), (21, (.iconst 0), 1), (22, (.putfield 151), 3), (25, (.iload_n 1), 1), (26, .ireturn, 1)]
theorem tbX9_forget_n30_ok : ∀ q ∈ tbX9_forget_n30, decode cX9_forget q.1 = .ok q.2 := by decide +kernel
theorem dX9_forget_0 : decode cX9_forget 0 = .ok (.aload_n 0, 1) := tb_at tbX9_forget_n30_ok 0 rfl
theorem dX9_forget_1 : decode cX9_forget 1 = .ok (.iconst 0, 1) := tb_at tbX9_forget_n30_ok 1 rfl
theorem dX9_forget_2 : decode cX9_forget 2 = .ok (.putfield 145, 3) := tb_at tbX9_forget_n30_ok 2 rfl
theorem dX9_forget_5 : decode cX9_forget 5 = .ok (.aload_n 0, 1) := tb_at tbX9_forget_n30_ok 3 rfl
theorem dX9_forget_6 : decode cX9_forget 6 = .ok (.getfield 165, 3) := tb_at tbX9_forget_n30_ok 4 rfl
theorem dX9_forget_9 : decode cX9_forget 9 = .ok (.ifCond .le 6, 3) := tb_at tbX9_forget_n30_ok 5 rfl
theorem dX9_forget_12 : decode cX9_forget 12 = .ok (.bipush (-3), 2) := tb_at tbX9_forget_n30_ok 6 rfl
theorem dX9_forget_14 : decode cX9_forget 14 = .ok (.ireturn, 1) := tb_at tbX9_forget_n30_ok 7 rfl
theorem dX9_forget_15 : decode cX9_forget 15 = .ok (.aload_n 0, 1) := tb_at tbX9_forget_n30_ok 8 rfl
theorem dX9_forget_16 : decode cX9_forget 16 = .ok (.getfield 151, 3) := tb_at tbX9_forget_n30_ok 9 rfl
theorem dX9_forget_19 : decode cX9_forget 19 = .ok (.istore_n 1, 1) := tb_at tbX9_forget_n30_ok 10 rfl
theorem dX9_forget_20 : decode cX9_forget 20 = .ok (.aload_n 0, 1) := tb_at tbX9_forget_n30_ok 11 rfl
theorem dX9_forget_21 : decode cX9_forget 21 = .ok (.iconst 0, 1) := tb_at tbX9_forget_n30_ok 12 rfl
theorem dX9_forget_22 : decode cX9_forget 22 = .ok (.putfield 151, 3) := tb_at tbX9_forget_n30_ok 13 rfl
theorem dX9_forget_25 : decode cX9_forget 25 = .ok (.iload_n 1, 1) := tb_at tbX9_forget_n30_ok 14 rfl
theorem dX9_forget_26 : decode cX9_forget 26 = .ok (.ireturn, 1) := tb_at tbX9_forget_n30_ok 15 rfl
set_option maxRecDepth 20000 in
theorem ggX9_told_X9_isThing : GoodIn wsX9_told wsX9_isThing := goodIn_r _ [8, 9, 10, 11, 12, 13, 14, 15, 16, 17, 18, 19, 20, 21, 22, 23, 24, 25, 26, 27, 28, 29, 30, 31, 32, 33, 34, 35, 36, 37, 38, 39, 40, 41, 42, 43, 44, 45, 46, 47, 48, 49, 50, 51, 52, 53, 54, 55, 56, 57, 58, 59, 60] (by decide +kernel) (by decide +kernel)
set_option maxRecDepth 20000 in
theorem gX9_told_X9_isThing : GoodIn wsX9_told (wsV RX9 154 RX9 yX9_isThing wsX9_isThing) := goodIn_app (goodIn_of _ (by decide +kernel)) ggX9_told_X9_isThing
noncomputable def tbX9_told_n30 : List (Nat × Instr × Nat) := [(0, (.aload_n 0), 1), (1, (.iconst 0), 1), (2, (.putfield 145), 3), (5, (.aload_n 0), 1), (6, (.iload_n 1), 1), (7, (.invokevirtual 154), 3), (10, (.ifCond .ne 5), 3), (13, (.iconst (-1)), 1), (14, .ireturn, 1), (15, (.iload_n 2), 1), (16, (.ifCond .ne 12), 3), (19, (.aload_n 0), 1), (20, (.getfield 45), 3), (23, (.iload_n 1), 1), (24, .iaload, 1), (25, (.goto 24), 3), (28, (.iload_n 2), 1), (29, (.iconst 1), 1), (30, (.if_icmp .ne 17), 3), (33, (.aload_n 0), 1), (34, (.getfield 13), 3), (37, (.aload_n 0), 1), (38, (.getfield 45), 3), (41, (.iload_n 1), 1), (42, .iaload, 1), (43, .iaload, 1), (44, (.goto 5), 3), (47, (.bipush (-2)), 2), (49, .ireturn, 1)]
theorem tbX9_told_n30_ok : ∀ q ∈ tbX9_told_n30, decode cX9_told q.1 = .ok q.2 := by decide +kernel
theorem dX9_told_0 : decode cX9_told 0 = .ok (.aload_n 0, 1) := tb_at tbX9_told_n30_ok 0 rfl
theorem dX9_told_1 : decode cX9_told 1 = .ok (.iconst 0, 1) := tb_at tbX9_told_n30_ok 1 rfl
theorem dX9_told_2 : decode cX9_told 2 = .ok (.putfield 145, 3) := tb_at tbX9_told_n30_ok 2 rfl
theorem dX9_told_5 : decode cX9_told 5 = .ok (.aload_n 0, 1) := tb_at tbX9_told_n30_ok 3 rfl
theorem dX9_told_6 : decode cX9_told 6 = .ok (.iload_n 1, 1) := tb_at tbX9_told_n30_ok 4 rfl
theorem dX9_told_7 : decode cX9_told 7 = .ok (.invokevirtual 154, 3) := tb_at tbX9_told_n30_ok 5 rfl
theorem dX9_told_10 : decode cX9_told 10 = .ok (.ifCond .ne 5, 3) := tb_at tbX9_told_n30_ok 6 rfl
theorem dX9_told_13 : decode cX9_told 13 = .ok (.iconst (-1), 1) := tb_at tbX9_told_n30_ok 7 rfl
theorem dX9_told_14 : decode cX9_told 14 = .ok (.ireturn, 1) := tb_at tbX9_told_n30_ok 8 rfl
theorem dX9_told_15 : decode cX9_told 15 = .ok (.iload_n 2, 1) := tb_at tbX9_told_n30_ok 9 rfl
theorem dX9_told_16 : decode cX9_told 16 = .ok (.ifCond .ne 12, 3) := tb_at tbX9_told_n30_ok 10 rfl
theorem dX9_told_19 : decode cX9_told 19 = .ok (.aload_n 0, 1) := tb_at tbX9_told_n30_ok 11 rfl
theorem dX9_told_20 : decode cX9_told 20 = .ok (.getfield 45, 3) := tb_at tbX9_told_n30_ok 12 rfl
theorem dX9_told_23 : decode cX9_told 23 = .ok (.iload_n 1, 1) := tb_at tbX9_told_n30_ok 13 rfl
theorem dX9_told_24 : decode cX9_told 24 = .ok (.iaload, 1) := tb_at tbX9_told_n30_ok 14 rfl
theorem dX9_told_25 : decode cX9_told 25 = .ok (.goto 24, 3) := tb_at tbX9_told_n30_ok 15 rfl
theorem dX9_told_28 : decode cX9_told 28 = .ok (.iload_n 2, 1) := tb_at tbX9_told_n30_ok 16 rfl
theorem dX9_told_29 : decode cX9_told 29 = .ok (.iconst 1, 1) := tb_at tbX9_told_n30_ok 17 rfl
theorem dX9_told_30 : decode cX9_told 30 = .ok (.if_icmp .ne 17, 3) := tb_at tbX9_told_n30_ok 18 rfl
theorem dX9_told_33 : decode cX9_told 33 = .ok (.aload_n 0, 1) := tb_at tbX9_told_n30_ok 19 rfl
theorem dX9_told_34 : decode cX9_told 34 = .ok (.getfield 13, 3) := tb_at tbX9_told_n30_ok 20 rfl
theorem dX9_told_37 : decode cX9_told 37 = .ok (.aload_n 0, 1) := tb_at tbX9_told_n30_ok 21 rfl
theorem dX9_told_38 : decode cX9_told 38 = .ok (.getfield 45, 3) := tb_at tbX9_told_n30_ok 22 rfl
theorem dX9_told_41 : decode cX9_told 41 = .ok (.iload_n 1, 1) := tb_at tbX9_told_n30_ok 23 rfl
theorem dX9_told_42 : decode cX9_told 42 = .ok (.iaload, 1) := tb_at tbX9_told_n30_ok 24 rfl
theorem dX9_told_43 : decode cX9_told 43 = .ok (.iaload, 1) := tb_at tbX9_told_n30_ok 25 rfl
theorem dX9_told_44 : decode cX9_told 44 = .ok (.goto 5, 3) := tb_at tbX9_told_n30_ok 26 rfl
theorem dX9_told_47 : decode cX9_told 47 = .ok (.bipush (-2), 2) := tb_at tbX9_told_n30_ok 27 rfl
theorem dX9_told_49 : decode cX9_told 49 = .ok (.ireturn, 1) := tb_at tbX9_told_n30_ok 28 rfl
set_option maxRecDepth 20000 in
theorem ggX9_isLane_X9_lane : GoodIn wsX9_isLane wsX9_lane := goodIn_r _ [7, 8, 2, 9, 10, 11, 12, 13, 14, 15, 16, 17, 18, 19, 20, 21, 22, 23, 24, 25, 26, 27, 28, 29, 30, 31, 32, 33, 34, 35, 36, 37, 38, 39, 40, 41, 42, 43, 44, 45, 46, 47, 48, 49, 50, 51, 52, 53, 54, 55, 56, 57, 58, 59] (by decide +kernel) (by decide +kernel)
set_option maxRecDepth 20000 in
theorem gX9_isLane_X9_lane : GoodIn wsX9_isLane (wsV RX9 170 RX9 yX9_lane wsX9_lane) := goodIn_app (goodIn_of _ (by decide +kernel)) ggX9_isLane_X9_lane
noncomputable def tbX9_isLane_n30 : List (Nat × Instr × Nat) := [(0, (.iload_n 2), 1), (1, (.aload_n 0), 1), (2, (.getfield 13), 3), (5, (.aload_n 0), 1), (6, (.getfield 45), 3), (9, (.iload_n 1), 1), (10, .iaload, 1), (11, .iaload, 1), (12, (.if_icmp .ge 28), 3), (15, (.aload_n 0), 1), (16, (.iload_n 1), 1), (17, (.iload_n 2), 1), (18, (.invokevirtual 170), 3), (21, (.iload_n 3), 1), (22, (.if_icmp .lt 18), 3), (25, (.aload_n 0), 1), (26, (.iload_n 1), 1), (27, (.iload_n 2), 1), (28, (.invokevirtual 170), 3), (31, (.iload 4), 2), (33, (.if_icmp .gt 7), 3), (36, (.iconst 1), 1), (37, (.goto 4), 3), (40, (.iconst 0), 1), (41, .ireturn, 1)]
theorem tbX9_isLane_n30_ok : ∀ q ∈ tbX9_isLane_n30, decode cX9_isLane q.1 = .ok q.2 := by decide +kernel
theorem dX9_isLane_0 : decode cX9_isLane 0 = .ok (.iload_n 2, 1) := tb_at tbX9_isLane_n30_ok 0 rfl
theorem dX9_isLane_1 : decode cX9_isLane 1 = .ok (.aload_n 0, 1) := tb_at tbX9_isLane_n30_ok 1 rfl
theorem dX9_isLane_2 : decode cX9_isLane 2 = .ok (.getfield 13, 3) := tb_at tbX9_isLane_n30_ok 2 rfl
theorem dX9_isLane_5 : decode cX9_isLane 5 = .ok (.aload_n 0, 1) := tb_at tbX9_isLane_n30_ok 3 rfl
theorem dX9_isLane_6 : decode cX9_isLane 6 = .ok (.getfield 45, 3) := tb_at tbX9_isLane_n30_ok 4 rfl
theorem dX9_isLane_9 : decode cX9_isLane 9 = .ok (.iload_n 1, 1) := tb_at tbX9_isLane_n30_ok 5 rfl
theorem dX9_isLane_10 : decode cX9_isLane 10 = .ok (.iaload, 1) := tb_at tbX9_isLane_n30_ok 6 rfl
theorem dX9_isLane_11 : decode cX9_isLane 11 = .ok (.iaload, 1) := tb_at tbX9_isLane_n30_ok 7 rfl
theorem dX9_isLane_12 : decode cX9_isLane 12 = .ok (.if_icmp .ge 28, 3) := tb_at tbX9_isLane_n30_ok 8 rfl
theorem dX9_isLane_15 : decode cX9_isLane 15 = .ok (.aload_n 0, 1) := tb_at tbX9_isLane_n30_ok 9 rfl
theorem dX9_isLane_16 : decode cX9_isLane 16 = .ok (.iload_n 1, 1) := tb_at tbX9_isLane_n30_ok 10 rfl
theorem dX9_isLane_17 : decode cX9_isLane 17 = .ok (.iload_n 2, 1) := tb_at tbX9_isLane_n30_ok 11 rfl
theorem dX9_isLane_18 : decode cX9_isLane 18 = .ok (.invokevirtual 170, 3) := tb_at tbX9_isLane_n30_ok 12 rfl
theorem dX9_isLane_21 : decode cX9_isLane 21 = .ok (.iload_n 3, 1) := tb_at tbX9_isLane_n30_ok 13 rfl
theorem dX9_isLane_22 : decode cX9_isLane 22 = .ok (.if_icmp .lt 18, 3) := tb_at tbX9_isLane_n30_ok 14 rfl
theorem dX9_isLane_25 : decode cX9_isLane 25 = .ok (.aload_n 0, 1) := tb_at tbX9_isLane_n30_ok 15 rfl
theorem dX9_isLane_26 : decode cX9_isLane 26 = .ok (.iload_n 1, 1) := tb_at tbX9_isLane_n30_ok 16 rfl
theorem dX9_isLane_27 : decode cX9_isLane 27 = .ok (.iload_n 2, 1) := tb_at tbX9_isLane_n30_ok 17 rfl
theorem dX9_isLane_28 : decode cX9_isLane 28 = .ok (.invokevirtual 170, 3) := tb_at tbX9_isLane_n30_ok 18 rfl
theorem dX9_isLane_31 : decode cX9_isLane 31 = .ok (.iload 4, 2) := tb_at tbX9_isLane_n30_ok 19 rfl
theorem dX9_isLane_33 : decode cX9_isLane 33 = .ok (.if_icmp .gt 7, 3) := tb_at tbX9_isLane_n30_ok 20 rfl
theorem dX9_isLane_36 : decode cX9_isLane 36 = .ok (.iconst 1, 1) := tb_at tbX9_isLane_n30_ok 21 rfl
theorem dX9_isLane_37 : decode cX9_isLane 37 = .ok (.goto 4, 3) := tb_at tbX9_isLane_n30_ok 22 rfl
theorem dX9_isLane_40 : decode cX9_isLane 40 = .ok (.iconst 0, 1) := tb_at tbX9_isLane_n30_ok 23 rfl
theorem dX9_isLane_41 : decode cX9_isLane 41 = .ok (.ireturn, 1) := tb_at tbX9_isLane_n30_ok 24 rfl
set_option maxRecDepth 20000 in
theorem ggX9_checked_X9_isLane : GoodIn wsX9_checked wsX9_isLane := goodIn_r _ [16, 5, 6, 17, 18, 19, 15, 20, 21, 26, 27, 28, 29, 30, 31, 32, 33, 34, 35, 36, 37, 38, 39, 40, 41, 42, 43, 44, 45, 46, 47, 48, 49, 50, 51, 52, 53, 54, 55, 56, 57, 58, 59, 60, 61, 62, 63, 64, 65, 66, 67, 68, 69, 70, 71, 72, 73, 74, 75, 76] (by decide +kernel) (by decide +kernel)
set_option maxRecDepth 20000 in
theorem gX9_checked_X9_isLane : GoodIn wsX9_checked (wsV RX9 197 RX9 yX9_isLane wsX9_isLane) := goodIn_app (goodIn_of _ (by decide +kernel)) ggX9_checked_X9_isLane
set_option maxRecDepth 20000 in
theorem ggX9_checked_X9_named : GoodIn wsX9_checked wsX9_named := goodIn_r _ [25, 5, 11, 26, 27, 28, 29, 30, 31, 32, 33, 34, 35, 36, 37, 38, 39, 40, 41, 42, 43, 44, 45, 46, 47, 48, 49, 50, 51, 52, 53, 54, 55, 56, 57, 58, 59, 60, 61, 62, 63, 64, 65, 66, 67, 68, 69, 70, 71, 72, 73, 74, 75, 76] (by decide +kernel) (by decide +kernel)
set_option maxRecDepth 20000 in
theorem gX9_checked_X9_named : GoodIn wsX9_checked (wsV RX9 161 RX9 yX9_named wsX9_named) := goodIn_app (goodIn_of _ (by decide +kernel)) ggX9_checked_X9_named
set_option maxRecDepth 20000 in
theorem ggX9_checked_X9_lane : GoodIn wsX9_checked wsX9_lane := goodIn_r _ [20, 21, 6, 26, 27, 28, 29, 30, 31, 32, 33, 34, 35, 36, 37, 38, 39, 40, 41, 42, 43, 44, 45, 46, 47, 48, 49, 50, 51, 52, 53, 54, 55, 56, 57, 58, 59, 60, 61, 62, 63, 64, 65, 66, 67, 68, 69, 70, 71, 72, 73, 74, 75, 76] (by decide +kernel) (by decide +kernel)
set_option maxRecDepth 20000 in
theorem gX9_checked_X9_lane : GoodIn wsX9_checked (wsV RX9 170 RX9 yX9_lane wsX9_lane) := goodIn_app (goodIn_of _ (by decide +kernel)) ggX9_checked_X9_lane
noncomputable def tbX9_checked_n30 : List (Nat × Instr × Nat) := [(0, (.aload_n 0), 1), (1, (.getfield 33), 3), (4, (.iload_n 2), 1), (5, .iaload, 1), (6, (.istore_n 3), 1), (7, (.aload_n 0), 1), (8, (.getfield 36), 3), (11, (.iload_n 2), 1), (12, .iaload, 1), (13, (.istore 4), 2), (15, (.aload_n 0), 1), (16, (.getfield 39), 3), (19, (.iload_n 2), 1), (20, .iaload, 1), (21, (.istore 5), 2), (23, (.iload_n 3), 1), (24, (.iconst 2), 1), (25, (.if_icmp .ne 15), 3), (28, (.aload_n 0), 1), (29, (.iload_n 1), 1), (30, (.iload 4), 2), (32, (.iconst 3), 1), (33, (.iconst 5), 1), (34, (.invokevirtual 197), 3), (37, (.goto 34), 3), (40, (.iload_n 3), 1), (41, (.iconst 1), 1), (42, (.if_icmp .eq 8), 3), (45, (.iload_n 3), 1), (46, (.iconst 5), 1), (47, (.if_icmp .ne 15), 3), (50, (.aload_n 0), 1), (51, (.iload_n 1), 1), (52, (.iload 4), 2), (54, (.iconst 2), 1), (55, (.iconst 2), 1), (56, (.invokevirtual 197), 3), (59, (.goto 12), 3), (62, (.aload_n 0), 1), (63, (.iload_n 1), 1), (64, (.iload 4), 2), (66, (.iconst 0), 1), (67, (.iconst 0), 1), (68, (.invokevirtual 197), 3), (71, (.istore 6), 2), (73, (.iload 6), 2), (75, (.ifCond .eq 24), 3), (78, (.iload_n 3), 1), (79, (.ifCond .eq 8), 3), (82, (.iload_n 3), 1), (83, (.iconst 2), 1), (84, (.if_icmp .ne 17), 3), (87, (.aload_n 0), 1), (88, (.iload_n 1), 1), (89, (.iload 5), 2), (91, (.iconst 0), 1), (92, (.iconst 0), 1), (93, (.invokevirtual 197), 3), (96, (.ifCond .ne 5), 3), (99, (.iconst 4), 1), (100, .ireturn, 1), (101, (.aload_n 0), 1), (102, (.getfield 48), 3), (105, (.iconst 5), 1), (106, (.iload_n 1), 1), (107, .imul, 1), (108, (.iload 4), 2), (110, .iadd, 1), (111, .laload, 1), (112, (.lstore 7), 2), (114, (.iload 5), 2), (116, (.aload_n 0), 1), (117, (.getfield 13), 3), (120, (.aload_n 0), 1), (121, (.getfield 45), 3), (124, (.iload_n 1), 1), (125, .iaload, 1), (126, .iaload, 1), (127, (.if_icmp .ge 17), 3), (130, (.aload_n 0), 1), (131, (.getfield 48), 3), (134, (.iconst 5), 1), (135, (.iload_n 1), 1), (136, .imul, 1), (137, (.iload 5), 2), (139, .iadd, 1), (140, .laload, 1), (141, (.goto 4), 3), (144, (.lconst 0), 1), (145, (.lstore 9), 2), (147, (.iload_n 3), 1), (148, (.tableswitch 196 0 4 #[36, 49, 85, 150, 177]), 36), (184, (.lload 9), 2), (186, (.lconst 0), 1), (187, .lcmp, 1), (188, (.ifCond .ne 7), 3), (191, (.iconst 5), 1), (192, (.goto 4), 3), (195, (.iconst 0), 1), (196, .ireturn, 1), (197, (.lload 7), 2), (199, (.lconst 0), 1), (200, .lcmp, 1), (201, (.ifCond .ge 7), 3), (204, (.iconst 1), 1), (205, (.goto 27), 3), (208, (.aload_n 0), 1), (209, (.getfield 45), 3), (212, (.lload 7), 2), (214, .l2i, 1), (215, .iaload, 1), (216, .i2l, 1), (217, (.aload_n 0), 1), (218, (.getfield 42), 3), (221, (.iload_n 2), 1), (222, .laload, 1), (223, .lcmp, 1), (224, (.ifCond .eq 7), 3), (227, (.iconst 4), 1), (228, (.goto 4), 3)]
theorem tbX9_checked_n30_ok : ∀ q ∈ tbX9_checked_n30, decode cX9_checked q.1 = .ok q.2 := by decide +kernel
theorem dX9_checked_0 : decode cX9_checked 0 = .ok (.aload_n 0, 1) := tb_at tbX9_checked_n30_ok 0 rfl
theorem dX9_checked_1 : decode cX9_checked 1 = .ok (.getfield 33, 3) := tb_at tbX9_checked_n30_ok 1 rfl
theorem dX9_checked_4 : decode cX9_checked 4 = .ok (.iload_n 2, 1) := tb_at tbX9_checked_n30_ok 2 rfl
theorem dX9_checked_5 : decode cX9_checked 5 = .ok (.iaload, 1) := tb_at tbX9_checked_n30_ok 3 rfl
theorem dX9_checked_6 : decode cX9_checked 6 = .ok (.istore_n 3, 1) := tb_at tbX9_checked_n30_ok 4 rfl
theorem dX9_checked_7 : decode cX9_checked 7 = .ok (.aload_n 0, 1) := tb_at tbX9_checked_n30_ok 5 rfl
theorem dX9_checked_8 : decode cX9_checked 8 = .ok (.getfield 36, 3) := tb_at tbX9_checked_n30_ok 6 rfl
theorem dX9_checked_11 : decode cX9_checked 11 = .ok (.iload_n 2, 1) := tb_at tbX9_checked_n30_ok 7 rfl
theorem dX9_checked_12 : decode cX9_checked 12 = .ok (.iaload, 1) := tb_at tbX9_checked_n30_ok 8 rfl
theorem dX9_checked_13 : decode cX9_checked 13 = .ok (.istore 4, 2) := tb_at tbX9_checked_n30_ok 9 rfl
theorem dX9_checked_15 : decode cX9_checked 15 = .ok (.aload_n 0, 1) := tb_at tbX9_checked_n30_ok 10 rfl
theorem dX9_checked_16 : decode cX9_checked 16 = .ok (.getfield 39, 3) := tb_at tbX9_checked_n30_ok 11 rfl
theorem dX9_checked_19 : decode cX9_checked 19 = .ok (.iload_n 2, 1) := tb_at tbX9_checked_n30_ok 12 rfl
theorem dX9_checked_20 : decode cX9_checked 20 = .ok (.iaload, 1) := tb_at tbX9_checked_n30_ok 13 rfl
theorem dX9_checked_21 : decode cX9_checked 21 = .ok (.istore 5, 2) := tb_at tbX9_checked_n30_ok 14 rfl
theorem dX9_checked_23 : decode cX9_checked 23 = .ok (.iload_n 3, 1) := tb_at tbX9_checked_n30_ok 15 rfl
theorem dX9_checked_24 : decode cX9_checked 24 = .ok (.iconst 2, 1) := tb_at tbX9_checked_n30_ok 16 rfl
theorem dX9_checked_25 : decode cX9_checked 25 = .ok (.if_icmp .ne 15, 3) := tb_at tbX9_checked_n30_ok 17 rfl
theorem dX9_checked_28 : decode cX9_checked 28 = .ok (.aload_n 0, 1) := tb_at tbX9_checked_n30_ok 18 rfl
theorem dX9_checked_29 : decode cX9_checked 29 = .ok (.iload_n 1, 1) := tb_at tbX9_checked_n30_ok 19 rfl
theorem dX9_checked_30 : decode cX9_checked 30 = .ok (.iload 4, 2) := tb_at tbX9_checked_n30_ok 20 rfl
theorem dX9_checked_32 : decode cX9_checked 32 = .ok (.iconst 3, 1) := tb_at tbX9_checked_n30_ok 21 rfl
theorem dX9_checked_33 : decode cX9_checked 33 = .ok (.iconst 5, 1) := tb_at tbX9_checked_n30_ok 22 rfl
theorem dX9_checked_34 : decode cX9_checked 34 = .ok (.invokevirtual 197, 3) := tb_at tbX9_checked_n30_ok 23 rfl
theorem dX9_checked_37 : decode cX9_checked 37 = .ok (.goto 34, 3) := tb_at tbX9_checked_n30_ok 24 rfl
theorem dX9_checked_40 : decode cX9_checked 40 = .ok (.iload_n 3, 1) := tb_at tbX9_checked_n30_ok 25 rfl
theorem dX9_checked_41 : decode cX9_checked 41 = .ok (.iconst 1, 1) := tb_at tbX9_checked_n30_ok 26 rfl
theorem dX9_checked_42 : decode cX9_checked 42 = .ok (.if_icmp .eq 8, 3) := tb_at tbX9_checked_n30_ok 27 rfl
theorem dX9_checked_45 : decode cX9_checked 45 = .ok (.iload_n 3, 1) := tb_at tbX9_checked_n30_ok 28 rfl
theorem dX9_checked_46 : decode cX9_checked 46 = .ok (.iconst 5, 1) := tb_at tbX9_checked_n30_ok 29 rfl
theorem dX9_checked_47 : decode cX9_checked 47 = .ok (.if_icmp .ne 15, 3) := tb_at tbX9_checked_n30_ok 30 rfl
theorem dX9_checked_50 : decode cX9_checked 50 = .ok (.aload_n 0, 1) := tb_at tbX9_checked_n30_ok 31 rfl
theorem dX9_checked_51 : decode cX9_checked 51 = .ok (.iload_n 1, 1) := tb_at tbX9_checked_n30_ok 32 rfl
theorem dX9_checked_52 : decode cX9_checked 52 = .ok (.iload 4, 2) := tb_at tbX9_checked_n30_ok 33 rfl
theorem dX9_checked_54 : decode cX9_checked 54 = .ok (.iconst 2, 1) := tb_at tbX9_checked_n30_ok 34 rfl
theorem dX9_checked_55 : decode cX9_checked 55 = .ok (.iconst 2, 1) := tb_at tbX9_checked_n30_ok 35 rfl
theorem dX9_checked_56 : decode cX9_checked 56 = .ok (.invokevirtual 197, 3) := tb_at tbX9_checked_n30_ok 36 rfl
theorem dX9_checked_59 : decode cX9_checked 59 = .ok (.goto 12, 3) := tb_at tbX9_checked_n30_ok 37 rfl
theorem dX9_checked_62 : decode cX9_checked 62 = .ok (.aload_n 0, 1) := tb_at tbX9_checked_n30_ok 38 rfl
theorem dX9_checked_63 : decode cX9_checked 63 = .ok (.iload_n 1, 1) := tb_at tbX9_checked_n30_ok 39 rfl
theorem dX9_checked_64 : decode cX9_checked 64 = .ok (.iload 4, 2) := tb_at tbX9_checked_n30_ok 40 rfl
theorem dX9_checked_66 : decode cX9_checked 66 = .ok (.iconst 0, 1) := tb_at tbX9_checked_n30_ok 41 rfl
theorem dX9_checked_67 : decode cX9_checked 67 = .ok (.iconst 0, 1) := tb_at tbX9_checked_n30_ok 42 rfl
theorem dX9_checked_68 : decode cX9_checked 68 = .ok (.invokevirtual 197, 3) := tb_at tbX9_checked_n30_ok 43 rfl
theorem dX9_checked_71 : decode cX9_checked 71 = .ok (.istore 6, 2) := tb_at tbX9_checked_n30_ok 44 rfl
theorem dX9_checked_73 : decode cX9_checked 73 = .ok (.iload 6, 2) := tb_at tbX9_checked_n30_ok 45 rfl
theorem dX9_checked_75 : decode cX9_checked 75 = .ok (.ifCond .eq 24, 3) := tb_at tbX9_checked_n30_ok 46 rfl
theorem dX9_checked_78 : decode cX9_checked 78 = .ok (.iload_n 3, 1) := tb_at tbX9_checked_n30_ok 47 rfl
theorem dX9_checked_79 : decode cX9_checked 79 = .ok (.ifCond .eq 8, 3) := tb_at tbX9_checked_n30_ok 48 rfl
theorem dX9_checked_82 : decode cX9_checked 82 = .ok (.iload_n 3, 1) := tb_at tbX9_checked_n30_ok 49 rfl
theorem dX9_checked_83 : decode cX9_checked 83 = .ok (.iconst 2, 1) := tb_at tbX9_checked_n30_ok 50 rfl
theorem dX9_checked_84 : decode cX9_checked 84 = .ok (.if_icmp .ne 17, 3) := tb_at tbX9_checked_n30_ok 51 rfl
theorem dX9_checked_87 : decode cX9_checked 87 = .ok (.aload_n 0, 1) := tb_at tbX9_checked_n30_ok 52 rfl
theorem dX9_checked_88 : decode cX9_checked 88 = .ok (.iload_n 1, 1) := tb_at tbX9_checked_n30_ok 53 rfl
theorem dX9_checked_89 : decode cX9_checked 89 = .ok (.iload 5, 2) := tb_at tbX9_checked_n30_ok 54 rfl
theorem dX9_checked_91 : decode cX9_checked 91 = .ok (.iconst 0, 1) := tb_at tbX9_checked_n30_ok 55 rfl
theorem dX9_checked_92 : decode cX9_checked 92 = .ok (.iconst 0, 1) := tb_at tbX9_checked_n30_ok 56 rfl
theorem dX9_checked_93 : decode cX9_checked 93 = .ok (.invokevirtual 197, 3) := tb_at tbX9_checked_n30_ok 57 rfl
theorem dX9_checked_96 : decode cX9_checked 96 = .ok (.ifCond .ne 5, 3) := tb_at tbX9_checked_n30_ok 58 rfl
theorem dX9_checked_99 : decode cX9_checked 99 = .ok (.iconst 4, 1) := tb_at tbX9_checked_n30_ok 59 rfl
theorem dX9_checked_100 : decode cX9_checked 100 = .ok (.ireturn, 1) := tb_at tbX9_checked_n30_ok 60 rfl
theorem dX9_checked_101 : decode cX9_checked 101 = .ok (.aload_n 0, 1) := tb_at tbX9_checked_n30_ok 61 rfl
theorem dX9_checked_102 : decode cX9_checked 102 = .ok (.getfield 48, 3) := tb_at tbX9_checked_n30_ok 62 rfl
theorem dX9_checked_105 : decode cX9_checked 105 = .ok (.iconst 5, 1) := tb_at tbX9_checked_n30_ok 63 rfl
theorem dX9_checked_106 : decode cX9_checked 106 = .ok (.iload_n 1, 1) := tb_at tbX9_checked_n30_ok 64 rfl
theorem dX9_checked_107 : decode cX9_checked 107 = .ok (.imul, 1) := tb_at tbX9_checked_n30_ok 65 rfl
theorem dX9_checked_108 : decode cX9_checked 108 = .ok (.iload 4, 2) := tb_at tbX9_checked_n30_ok 66 rfl
theorem dX9_checked_110 : decode cX9_checked 110 = .ok (.iadd, 1) := tb_at tbX9_checked_n30_ok 67 rfl
theorem dX9_checked_111 : decode cX9_checked 111 = .ok (.laload, 1) := tb_at tbX9_checked_n30_ok 68 rfl
theorem dX9_checked_112 : decode cX9_checked 112 = .ok (.lstore 7, 2) := tb_at tbX9_checked_n30_ok 69 rfl
theorem dX9_checked_114 : decode cX9_checked 114 = .ok (.iload 5, 2) := tb_at tbX9_checked_n30_ok 70 rfl
theorem dX9_checked_116 : decode cX9_checked 116 = .ok (.aload_n 0, 1) := tb_at tbX9_checked_n30_ok 71 rfl
theorem dX9_checked_117 : decode cX9_checked 117 = .ok (.getfield 13, 3) := tb_at tbX9_checked_n30_ok 72 rfl
theorem dX9_checked_120 : decode cX9_checked 120 = .ok (.aload_n 0, 1) := tb_at tbX9_checked_n30_ok 73 rfl
theorem dX9_checked_121 : decode cX9_checked 121 = .ok (.getfield 45, 3) := tb_at tbX9_checked_n30_ok 74 rfl
theorem dX9_checked_124 : decode cX9_checked 124 = .ok (.iload_n 1, 1) := tb_at tbX9_checked_n30_ok 75 rfl
theorem dX9_checked_125 : decode cX9_checked 125 = .ok (.iaload, 1) := tb_at tbX9_checked_n30_ok 76 rfl
theorem dX9_checked_126 : decode cX9_checked 126 = .ok (.iaload, 1) := tb_at tbX9_checked_n30_ok 77 rfl
theorem dX9_checked_127 : decode cX9_checked 127 = .ok (.if_icmp .ge 17, 3) := tb_at tbX9_checked_n30_ok 78 rfl
theorem dX9_checked_130 : decode cX9_checked 130 = .ok (.aload_n 0, 1) := tb_at tbX9_checked_n30_ok 79 rfl
theorem dX9_checked_131 : decode cX9_checked 131 = .ok (.getfield 48, 3) := tb_at tbX9_checked_n30_ok 80 rfl
theorem dX9_checked_134 : decode cX9_checked 134 = .ok (.iconst 5, 1) := tb_at tbX9_checked_n30_ok 81 rfl
theorem dX9_checked_135 : decode cX9_checked 135 = .ok (.iload_n 1, 1) := tb_at tbX9_checked_n30_ok 82 rfl
theorem dX9_checked_136 : decode cX9_checked 136 = .ok (.imul, 1) := tb_at tbX9_checked_n30_ok 83 rfl
theorem dX9_checked_137 : decode cX9_checked 137 = .ok (.iload 5, 2) := tb_at tbX9_checked_n30_ok 84 rfl
theorem dX9_checked_139 : decode cX9_checked 139 = .ok (.iadd, 1) := tb_at tbX9_checked_n30_ok 85 rfl
theorem dX9_checked_140 : decode cX9_checked 140 = .ok (.laload, 1) := tb_at tbX9_checked_n30_ok 86 rfl
theorem dX9_checked_141 : decode cX9_checked 141 = .ok (.goto 4, 3) := tb_at tbX9_checked_n30_ok 87 rfl
theorem dX9_checked_144 : decode cX9_checked 144 = .ok (.lconst 0, 1) := tb_at tbX9_checked_n30_ok 88 rfl
theorem dX9_checked_145 : decode cX9_checked 145 = .ok (.lstore 9, 2) := tb_at tbX9_checked_n30_ok 89 rfl
theorem dX9_checked_147 : decode cX9_checked 147 = .ok (.iload_n 3, 1) := tb_at tbX9_checked_n30_ok 90 rfl
theorem dX9_checked_148 : decode cX9_checked 148 = .ok (.tableswitch 196 0 4 #[36, 49, 85, 150, 177], 36) := tb_at tbX9_checked_n30_ok 91 rfl
theorem dX9_checked_184 : decode cX9_checked 184 = .ok (.lload 9, 2) := tb_at tbX9_checked_n30_ok 92 rfl
theorem dX9_checked_186 : decode cX9_checked 186 = .ok (.lconst 0, 1) := tb_at tbX9_checked_n30_ok 93 rfl
theorem dX9_checked_187 : decode cX9_checked 187 = .ok (.lcmp, 1) := tb_at tbX9_checked_n30_ok 94 rfl
theorem dX9_checked_188 : decode cX9_checked 188 = .ok (.ifCond .ne 7, 3) := tb_at tbX9_checked_n30_ok 95 rfl
theorem dX9_checked_191 : decode cX9_checked 191 = .ok (.iconst 5, 1) := tb_at tbX9_checked_n30_ok 96 rfl
theorem dX9_checked_192 : decode cX9_checked 192 = .ok (.goto 4, 3) := tb_at tbX9_checked_n30_ok 97 rfl
theorem dX9_checked_195 : decode cX9_checked 195 = .ok (.iconst 0, 1) := tb_at tbX9_checked_n30_ok 98 rfl
theorem dX9_checked_196 : decode cX9_checked 196 = .ok (.ireturn, 1) := tb_at tbX9_checked_n30_ok 99 rfl
theorem dX9_checked_197 : decode cX9_checked 197 = .ok (.lload 7, 2) := tb_at tbX9_checked_n30_ok 100 rfl
theorem dX9_checked_199 : decode cX9_checked 199 = .ok (.lconst 0, 1) := tb_at tbX9_checked_n30_ok 101 rfl
theorem dX9_checked_200 : decode cX9_checked 200 = .ok (.lcmp, 1) := tb_at tbX9_checked_n30_ok 102 rfl
theorem dX9_checked_201 : decode cX9_checked 201 = .ok (.ifCond .ge 7, 3) := tb_at tbX9_checked_n30_ok 103 rfl
theorem dX9_checked_204 : decode cX9_checked 204 = .ok (.iconst 1, 1) := tb_at tbX9_checked_n30_ok 104 rfl
theorem dX9_checked_205 : decode cX9_checked 205 = .ok (.goto 27, 3) := tb_at tbX9_checked_n30_ok 105 rfl
theorem dX9_checked_208 : decode cX9_checked 208 = .ok (.aload_n 0, 1) := tb_at tbX9_checked_n30_ok 106 rfl
theorem dX9_checked_209 : decode cX9_checked 209 = .ok (.getfield 45, 3) := tb_at tbX9_checked_n30_ok 107 rfl
theorem dX9_checked_212 : decode cX9_checked 212 = .ok (.lload 7, 2) := tb_at tbX9_checked_n30_ok 108 rfl
theorem dX9_checked_214 : decode cX9_checked 214 = .ok (.l2i, 1) := tb_at tbX9_checked_n30_ok 109 rfl
theorem dX9_checked_215 : decode cX9_checked 215 = .ok (.iaload, 1) := tb_at tbX9_checked_n30_ok 110 rfl
theorem dX9_checked_216 : decode cX9_checked 216 = .ok (.i2l, 1) := tb_at tbX9_checked_n30_ok 111 rfl
theorem dX9_checked_217 : decode cX9_checked 217 = .ok (.aload_n 0, 1) := tb_at tbX9_checked_n30_ok 112 rfl
theorem dX9_checked_218 : decode cX9_checked 218 = .ok (.getfield 42, 3) := tb_at tbX9_checked_n30_ok 113 rfl
theorem dX9_checked_221 : decode cX9_checked 221 = .ok (.iload_n 2, 1) := tb_at tbX9_checked_n30_ok 114 rfl
theorem dX9_checked_222 : decode cX9_checked 222 = .ok (.laload, 1) := tb_at tbX9_checked_n30_ok 115 rfl
theorem dX9_checked_223 : decode cX9_checked 223 = .ok (.lcmp, 1) := tb_at tbX9_checked_n30_ok 116 rfl
theorem dX9_checked_224 : decode cX9_checked 224 = .ok (.ifCond .eq 7, 3) := tb_at tbX9_checked_n30_ok 117 rfl
theorem dX9_checked_227 : decode cX9_checked 227 = .ok (.iconst 4, 1) := tb_at tbX9_checked_n30_ok 118 rfl
theorem dX9_checked_228 : decode cX9_checked 228 = .ok (.goto 4, 3) := tb_at tbX9_checked_n30_ok 119 rfl
noncomputable def tbX9_checked_n31 : List (Nat × Instr × Nat) := [(231, (.iconst 0), 1), (232, .ireturn, 1), (233, (.lload 7), 2), (235, (.lconst 0), 1), (236, .lcmp, 1), (237, (.ifCond .ge 5), 3), (240, (.iconst 1), 1), (241, .ireturn, 1), (242, (.lload 9), 2), (244, (.lconst 0), 1), (245, .lcmp, 1), (246, (.ifCond .lt 18), 3), (249, (.lload 9), 2), (251, (.aload_n 0), 1), (252, (.getfield 54), 3), (255, (.lload 7), 2), (257, .l2i, 1), (258, .iaload, 1), (259, .i2l, 1), (260, .lcmp, 1), (261, (.ifCond .lt 5), 3), (264, (.iconst 2), 1), (265, .ireturn, 1), (266, (.aload_n 0), 1), (267, (.getfield 57), 3), (270, (.bipush 12), 2), (272, (.lload 7), 2), (274, .l2i, 1), (275, .imul, 1), (276, (.lload 9), 2), (278, .l2i, 1), (279, .iadd, 1), (280, .laload, 1), (281, (.aload_n 0), 1), (282, (.getfield 42), 3), (285, (.iload_n 2), 1), (286, .laload, 1), (287, .lcmp, 1), (288, (.ifCond .le 7), 3), (291, (.iconst 0), 1), (292, (.goto 5), 3), (295, (.bipush 6), 2), (297, .ireturn, 1), (298, (.lload 7), 2), (300, (.ldc2_w 201), 3), (303, .lcmp, 1), (304, (.ifCond .le 8), 3), (307, (.bipush 6), 2), (309, (.goto 15), 3), (312, (.lload 7), 2), (314, (.lconst 0), 1), (315, .lcmp, 1), (316, (.ifCond .ge 7), 3), (319, (.iconst 3), 1), (320, (.goto 4), 3), (323, (.iconst 0), 1), (324, .ireturn, 1), (325, (.lload 7), 2), (327, (.aload_n 0), 1), (328, (.getfield 42), 3), (331, (.iload_n 2), 1)]
theorem tbX9_checked_n31_ok : ∀ q ∈ tbX9_checked_n31, decode cX9_checked q.1 = .ok q.2 := by decide +kernel
theorem dX9_checked_231 : decode cX9_checked 231 = .ok (.iconst 0, 1) := tb_at tbX9_checked_n31_ok 0 rfl
theorem dX9_checked_232 : decode cX9_checked 232 = .ok (.ireturn, 1) := tb_at tbX9_checked_n31_ok 1 rfl
theorem dX9_checked_233 : decode cX9_checked 233 = .ok (.lload 7, 2) := tb_at tbX9_checked_n31_ok 2 rfl
theorem dX9_checked_235 : decode cX9_checked 235 = .ok (.lconst 0, 1) := tb_at tbX9_checked_n31_ok 3 rfl
theorem dX9_checked_236 : decode cX9_checked 236 = .ok (.lcmp, 1) := tb_at tbX9_checked_n31_ok 4 rfl
theorem dX9_checked_237 : decode cX9_checked 237 = .ok (.ifCond .ge 5, 3) := tb_at tbX9_checked_n31_ok 5 rfl
theorem dX9_checked_240 : decode cX9_checked 240 = .ok (.iconst 1, 1) := tb_at tbX9_checked_n31_ok 6 rfl
theorem dX9_checked_241 : decode cX9_checked 241 = .ok (.ireturn, 1) := tb_at tbX9_checked_n31_ok 7 rfl
theorem dX9_checked_242 : decode cX9_checked 242 = .ok (.lload 9, 2) := tb_at tbX9_checked_n31_ok 8 rfl
theorem dX9_checked_244 : decode cX9_checked 244 = .ok (.lconst 0, 1) := tb_at tbX9_checked_n31_ok 9 rfl
theorem dX9_checked_245 : decode cX9_checked 245 = .ok (.lcmp, 1) := tb_at tbX9_checked_n31_ok 10 rfl
theorem dX9_checked_246 : decode cX9_checked 246 = .ok (.ifCond .lt 18, 3) := tb_at tbX9_checked_n31_ok 11 rfl
theorem dX9_checked_249 : decode cX9_checked 249 = .ok (.lload 9, 2) := tb_at tbX9_checked_n31_ok 12 rfl
theorem dX9_checked_251 : decode cX9_checked 251 = .ok (.aload_n 0, 1) := tb_at tbX9_checked_n31_ok 13 rfl
theorem dX9_checked_252 : decode cX9_checked 252 = .ok (.getfield 54, 3) := tb_at tbX9_checked_n31_ok 14 rfl
theorem dX9_checked_255 : decode cX9_checked 255 = .ok (.lload 7, 2) := tb_at tbX9_checked_n31_ok 15 rfl
theorem dX9_checked_257 : decode cX9_checked 257 = .ok (.l2i, 1) := tb_at tbX9_checked_n31_ok 16 rfl
theorem dX9_checked_258 : decode cX9_checked 258 = .ok (.iaload, 1) := tb_at tbX9_checked_n31_ok 17 rfl
theorem dX9_checked_259 : decode cX9_checked 259 = .ok (.i2l, 1) := tb_at tbX9_checked_n31_ok 18 rfl
theorem dX9_checked_260 : decode cX9_checked 260 = .ok (.lcmp, 1) := tb_at tbX9_checked_n31_ok 19 rfl
theorem dX9_checked_261 : decode cX9_checked 261 = .ok (.ifCond .lt 5, 3) := tb_at tbX9_checked_n31_ok 20 rfl
theorem dX9_checked_264 : decode cX9_checked 264 = .ok (.iconst 2, 1) := tb_at tbX9_checked_n31_ok 21 rfl
theorem dX9_checked_265 : decode cX9_checked 265 = .ok (.ireturn, 1) := tb_at tbX9_checked_n31_ok 22 rfl
theorem dX9_checked_266 : decode cX9_checked 266 = .ok (.aload_n 0, 1) := tb_at tbX9_checked_n31_ok 23 rfl
theorem dX9_checked_267 : decode cX9_checked 267 = .ok (.getfield 57, 3) := tb_at tbX9_checked_n31_ok 24 rfl
theorem dX9_checked_270 : decode cX9_checked 270 = .ok (.bipush 12, 2) := tb_at tbX9_checked_n31_ok 25 rfl
theorem dX9_checked_272 : decode cX9_checked 272 = .ok (.lload 7, 2) := tb_at tbX9_checked_n31_ok 26 rfl
theorem dX9_checked_274 : decode cX9_checked 274 = .ok (.l2i, 1) := tb_at tbX9_checked_n31_ok 27 rfl
theorem dX9_checked_275 : decode cX9_checked 275 = .ok (.imul, 1) := tb_at tbX9_checked_n31_ok 28 rfl
theorem dX9_checked_276 : decode cX9_checked 276 = .ok (.lload 9, 2) := tb_at tbX9_checked_n31_ok 29 rfl
theorem dX9_checked_278 : decode cX9_checked 278 = .ok (.l2i, 1) := tb_at tbX9_checked_n31_ok 30 rfl
theorem dX9_checked_279 : decode cX9_checked 279 = .ok (.iadd, 1) := tb_at tbX9_checked_n31_ok 31 rfl
theorem dX9_checked_280 : decode cX9_checked 280 = .ok (.laload, 1) := tb_at tbX9_checked_n31_ok 32 rfl
theorem dX9_checked_281 : decode cX9_checked 281 = .ok (.aload_n 0, 1) := tb_at tbX9_checked_n31_ok 33 rfl
theorem dX9_checked_282 : decode cX9_checked 282 = .ok (.getfield 42, 3) := tb_at tbX9_checked_n31_ok 34 rfl
theorem dX9_checked_285 : decode cX9_checked 285 = .ok (.iload_n 2, 1) := tb_at tbX9_checked_n31_ok 35 rfl
theorem dX9_checked_286 : decode cX9_checked 286 = .ok (.laload, 1) := tb_at tbX9_checked_n31_ok 36 rfl
theorem dX9_checked_287 : decode cX9_checked 287 = .ok (.lcmp, 1) := tb_at tbX9_checked_n31_ok 37 rfl
theorem dX9_checked_288 : decode cX9_checked 288 = .ok (.ifCond .le 7, 3) := tb_at tbX9_checked_n31_ok 38 rfl
theorem dX9_checked_291 : decode cX9_checked 291 = .ok (.iconst 0, 1) := tb_at tbX9_checked_n31_ok 39 rfl
theorem dX9_checked_292 : decode cX9_checked 292 = .ok (.goto 5, 3) := tb_at tbX9_checked_n31_ok 40 rfl
theorem dX9_checked_295 : decode cX9_checked 295 = .ok (.bipush 6, 2) := tb_at tbX9_checked_n31_ok 41 rfl
theorem dX9_checked_297 : decode cX9_checked 297 = .ok (.ireturn, 1) := tb_at tbX9_checked_n31_ok 42 rfl
theorem dX9_checked_298 : decode cX9_checked 298 = .ok (.lload 7, 2) := tb_at tbX9_checked_n31_ok 43 rfl
theorem dX9_checked_300 : decode cX9_checked 300 = .ok (.ldc2_w 201, 3) := tb_at tbX9_checked_n31_ok 44 rfl
theorem dX9_checked_303 : decode cX9_checked 303 = .ok (.lcmp, 1) := tb_at tbX9_checked_n31_ok 45 rfl
theorem dX9_checked_304 : decode cX9_checked 304 = .ok (.ifCond .le 8, 3) := tb_at tbX9_checked_n31_ok 46 rfl
theorem dX9_checked_307 : decode cX9_checked 307 = .ok (.bipush 6, 2) := tb_at tbX9_checked_n31_ok 47 rfl
theorem dX9_checked_309 : decode cX9_checked 309 = .ok (.goto 15, 3) := tb_at tbX9_checked_n31_ok 48 rfl
theorem dX9_checked_312 : decode cX9_checked 312 = .ok (.lload 7, 2) := tb_at tbX9_checked_n31_ok 49 rfl
theorem dX9_checked_314 : decode cX9_checked 314 = .ok (.lconst 0, 1) := tb_at tbX9_checked_n31_ok 50 rfl
theorem dX9_checked_315 : decode cX9_checked 315 = .ok (.lcmp, 1) := tb_at tbX9_checked_n31_ok 51 rfl
theorem dX9_checked_316 : decode cX9_checked 316 = .ok (.ifCond .ge 7, 3) := tb_at tbX9_checked_n31_ok 52 rfl
theorem dX9_checked_319 : decode cX9_checked 319 = .ok (.iconst 3, 1) := tb_at tbX9_checked_n31_ok 53 rfl
theorem dX9_checked_320 : decode cX9_checked 320 = .ok (.goto 4, 3) := tb_at tbX9_checked_n31_ok 54 rfl
theorem dX9_checked_323 : decode cX9_checked 323 = .ok (.iconst 0, 1) := tb_at tbX9_checked_n31_ok 55 rfl
theorem dX9_checked_324 : decode cX9_checked 324 = .ok (.ireturn, 1) := tb_at tbX9_checked_n31_ok 56 rfl
theorem dX9_checked_325 : decode cX9_checked 325 = .ok (.lload 7, 2) := tb_at tbX9_checked_n31_ok 57 rfl
theorem dX9_checked_327 : decode cX9_checked 327 = .ok (.aload_n 0, 1) := tb_at tbX9_checked_n31_ok 58 rfl
theorem dX9_checked_328 : decode cX9_checked 328 = .ok (.getfield 42, 3) := tb_at tbX9_checked_n31_ok 59 rfl
theorem dX9_checked_331 : decode cX9_checked 331 = .ok (.iload_n 2, 1) := tb_at tbX9_checked_n31_ok 60 rfl
