noncomputable def tbX8_unchecked_n20 : List (Nat × Instr × Nat) := [(0, (.aload_n 0), 1), (1, (.iload_n 1), 1), (2, (.invokevirtual 70), 3), (5, (.astore_n 2), 1), (6, (.aload_n 2), 1), (7, (.ifnonnull 5), 3), (10, (.iconst (-1)), 1), (11, .ireturn, 1), (12, (.aload_n 2), 1), (13, (.getfield 115), 3), (16, (.istore_n 3), 1), (17, (.aload_n 2), 1), (18, (.iconst 0), 1), (19, (.putfield 115), 3), (22, (.iload_n 3), 1), (23, .ireturn, 1)]
theorem tbX8_unchecked_n20_ok : ∀ q ∈ tbX8_unchecked_n20, decode cX8_unchecked q.1 = .ok q.2 := by decide +kernel
theorem dX8_unchecked_0 : decode cX8_unchecked 0 = .ok (.aload_n 0, 1) := tb_at tbX8_unchecked_n20_ok 0 rfl
theorem dX8_unchecked_1 : decode cX8_unchecked 1 = .ok (.iload_n 1, 1) := tb_at tbX8_unchecked_n20_ok 1 rfl
theorem dX8_unchecked_2 : decode cX8_unchecked 2 = .ok (.invokevirtual 70, 3) := tb_at tbX8_unchecked_n20_ok 2 rfl
theorem dX8_unchecked_5 : decode cX8_unchecked 5 = .ok (.astore_n 2, 1) := tb_at tbX8_unchecked_n20_ok 3 rfl
theorem dX8_unchecked_6 : decode cX8_unchecked 6 = .ok (.aload_n 2, 1) := tb_at tbX8_unchecked_n20_ok 4 rfl
theorem dX8_unchecked_7 : decode cX8_unchecked 7 = .ok (.ifnonnull 5, 3) := tb_at tbX8_unchecked_n20_ok 5 rfl
theorem dX8_unchecked_10 : decode cX8_unchecked 10 = .ok (.iconst (-1), 1) := tb_at tbX8_unchecked_n20_ok 6 rfl
theorem dX8_unchecked_11 : decode cX8_unchecked 11 = .ok (.ireturn, 1) := tb_at tbX8_unchecked_n20_ok 7 rfl
theorem dX8_unchecked_12 : decode cX8_unchecked 12 = .ok (.aload_n 2, 1) := tb_at tbX8_unchecked_n20_ok 8 rfl
theorem dX8_unchecked_13 : decode cX8_unchecked 13 = .ok (.getfield 115, 3) := tb_at tbX8_unchecked_n20_ok 9 rfl
theorem dX8_unchecked_16 : decode cX8_unchecked 16 = .ok (.istore_n 3, 1) := tb_at tbX8_unchecked_n20_ok 10 rfl
theorem dX8_unchecked_17 : decode cX8_unchecked 17 = .ok (.aload_n 2, 1) := tb_at tbX8_unchecked_n20_ok 11 rfl
theorem dX8_unchecked_18 : decode cX8_unchecked 18 = .ok (.iconst 0, 1) := tb_at tbX8_unchecked_n20_ok 12 rfl
theorem dX8_unchecked_19 : decode cX8_unchecked 19 = .ok (.putfield 115, 3) := tb_at tbX8_unchecked_n20_ok 13 rfl
theorem dX8_unchecked_22 : decode cX8_unchecked 22 = .ok (.iload_n 3, 1) := tb_at tbX8_unchecked_n20_ok 14 rfl
theorem dX8_unchecked_23 : decode cX8_unchecked 23 = .ok (.ireturn, 1) := tb_at tbX8_unchecked_n20_ok 15 rfl
set_option maxRecDepth 20000 in
theorem ggX8_word_X8_isBelow : GoodIn wsX8_word wsX8_isBelow := goodIn_r _ [5] (by decide +kernel) (by decide +kernel)
set_option maxRecDepth 20000 in
theorem gX8_word_X8_isBelow : GoodIn wsX8_word (va_wsS RX8 74 yX8_isBelow wsX8_isBelow) := goodIn_app (goodIn_of _ (by decide +kernel)) ggX8_word_X8_isBelow
noncomputable def tbX8_word_n20 : List (Nat × Instr × Nat) := [(0, (.iload_n 1), 1), (1, (.bipush 16), 2), (3, (.invokestatic 74), 3), (6, (.ifCond .ne 5), 3), (9, (.iconst (-1)), 1), (10, .ireturn, 1), (11, (.aload_n 0), 1), (12, (.getfield 21), 3), (15, (.iload_n 1), 1), (16, .baload, 1), (17, (.ifCond .eq 7), 3), (20, (.iconst 1), 1), (21, (.goto 4), 3), (24, (.iconst 0), 1), (25, (.istore_n 3), 1), (26, (.aload_n 0), 1), (27, (.getfield 21), 3), (30, (.iload_n 1), 1), (31, (.iload_n 2), 1), (32, .bastore, 1), (33, (.iload_n 3), 1), (34, .ireturn, 1)]
theorem tbX8_word_n20_ok : ∀ q ∈ tbX8_word_n20, decode cX8_word q.1 = .ok q.2 := by decide +kernel
theorem dX8_word_0 : decode cX8_word 0 = .ok (.iload_n 1, 1) := tb_at tbX8_word_n20_ok 0 rfl
theorem dX8_word_1 : decode cX8_word 1 = .ok (.bipush 16, 2) := tb_at tbX8_word_n20_ok 1 rfl
theorem dX8_word_3 : decode cX8_word 3 = .ok (.invokestatic 74, 3) := tb_at tbX8_word_n20_ok 2 rfl
theorem dX8_word_6 : decode cX8_word 6 = .ok (.ifCond .ne 5, 3) := tb_at tbX8_word_n20_ok 3 rfl
theorem dX8_word_9 : decode cX8_word 9 = .ok (.iconst (-1), 1) := tb_at tbX8_word_n20_ok 4 rfl
theorem dX8_word_10 : decode cX8_word 10 = .ok (.ireturn, 1) := tb_at tbX8_word_n20_ok 5 rfl
theorem dX8_word_11 : decode cX8_word 11 = .ok (.aload_n 0, 1) := tb_at tbX8_word_n20_ok 6 rfl
theorem dX8_word_12 : decode cX8_word 12 = .ok (.getfield 21, 3) := tb_at tbX8_word_n20_ok 7 rfl
theorem dX8_word_15 : decode cX8_word 15 = .ok (.iload_n 1, 1) := tb_at tbX8_word_n20_ok 8 rfl
theorem dX8_word_16 : decode cX8_word 16 = .ok (.baload, 1) := tb_at tbX8_word_n20_ok 9 rfl
theorem dX8_word_17 : decode cX8_word 17 = .ok (.ifCond .eq 7, 3) := tb_at tbX8_word_n20_ok 10 rfl
theorem dX8_word_20 : decode cX8_word 20 = .ok (.iconst 1, 1) := tb_at tbX8_word_n20_ok 11 rfl
theorem dX8_word_21 : decode cX8_word 21 = .ok (.goto 4, 3) := tb_at tbX8_word_n20_ok 12 rfl
theorem dX8_word_24 : decode cX8_word 24 = .ok (.iconst 0, 1) := tb_at tbX8_word_n20_ok 13 rfl
theorem dX8_word_25 : decode cX8_word 25 = .ok (.istore_n 3, 1) := tb_at tbX8_word_n20_ok 14 rfl
theorem dX8_word_26 : decode cX8_word 26 = .ok (.aload_n 0, 1) := tb_at tbX8_word_n20_ok 15 rfl
theorem dX8_word_27 : decode cX8_word 27 = .ok (.getfield 21, 3) := tb_at tbX8_word_n20_ok 16 rfl
theorem dX8_word_30 : decode cX8_word 30 = .ok (.iload_n 1, 1) := tb_at tbX8_word_n20_ok 17 rfl
theorem dX8_word_31 : decode cX8_word 31 = .ok (.iload_n 2, 1) := tb_at tbX8_word_n20_ok 18 rfl
theorem dX8_word_32 : decode cX8_word 32 = .ok (.bastore, 1) := tb_at tbX8_word_n20_ok 19 rfl
theorem dX8_word_33 : decode cX8_word 33 = .ok (.iload_n 3, 1) := tb_at tbX8_word_n20_ok 20 rfl
theorem dX8_word_34 : decode cX8_word 34 = .ok (.ireturn, 1) := tb_at tbX8_word_n20_ok 21 rfl
set_option maxRecDepth 20000 in
theorem ggX8_thing_X8_typeNumbered : GoodIn wsX8_thing wsX8_typeNumbered := goodIn_r _ [7, 8, 9, 10, 11, 6, 12, 27, 28, 29, 30, 31, 32, 33, 34, 35, 36, 37, 38] (by decide +kernel) (by decide +kernel)
set_option maxRecDepth 20000 in
theorem gX8_thing_X8_typeNumbered : GoodIn wsX8_thing (wsV RX8 70 RX8 yX8_typeNumbered wsX8_typeNumbered) := goodIn_app (goodIn_of _ (by decide +kernel)) ggX8_thing_X8_typeNumbered
set_option maxRecDepth 20000 in
theorem ggX8_thing_X6_become : GoodIn wsX8_thing wsX6_become := goodIn_r _ [17, 18, 19, 20, 21, 22, 16, 23, 24, 25, 26, 39, 40, 41, 42, 43, 44, 45, 46, 47, 48, 49, 50] (by decide +kernel) (by decide +kernel)
set_option maxRecDepth 20000 in
theorem gX8_thing_X6_become : GoodIn wsX8_thing (wsV RX8 127 RX6 yX6_become wsX6_become) := goodIn_app (goodIn_of _ (by decide +kernel)) ggX8_thing_X6_become
noncomputable def tbX8_thing_n20 : List (Nat × Instr × Nat) := [(0, (.aload_n 0), 1), (1, (.iload_n 1), 1), (2, (.invokevirtual 70), 3), (5, (.astore_n 2), 1), (6, (.aload_n 2), 1), (7, (.ifnonnull 5), 3), (10, (.iconst (-1)), 1), (11, .ireturn, 1), (12, (.aload_n 0), 1), (13, (.getfield 94), 3), (16, (.bipush 30), 2), (18, (.if_icmp .lt 6), 3), (21, (.bipush (-4)), 2), (23, .ireturn, 1), (24, (.aload_n 0), 1), (25, (.getfield 17), 3), (28, (.aload_n 0), 1), (29, (.getfield 94), 3), (32, .aaload, 1), (33, (.aload_n 2), 1), (34, (.invokevirtual 127), 3), (37, (.aload_n 0), 1), (38, .dup, 1), (39, (.getfield 94), 3), (42, (.iconst 1), 1), (43, .iadd, 1), (44, (.putfield 94), 3), (47, (.aload_n 0), 1), (48, (.getfield 94), 3), (51, (.iconst 1), 1), (52, .isub, 1), (53, .ireturn, 1)]
theorem tbX8_thing_n20_ok : ∀ q ∈ tbX8_thing_n20, decode cX8_thing q.1 = .ok q.2 := by decide +kernel
theorem dX8_thing_0 : decode cX8_thing 0 = .ok (.aload_n 0, 1) := tb_at tbX8_thing_n20_ok 0 rfl
theorem dX8_thing_1 : decode cX8_thing 1 = .ok (.iload_n 1, 1) := tb_at tbX8_thing_n20_ok 1 rfl
theorem dX8_thing_2 : decode cX8_thing 2 = .ok (.invokevirtual 70, 3) := tb_at tbX8_thing_n20_ok 2 rfl
theorem dX8_thing_5 : decode cX8_thing 5 = .ok (.astore_n 2, 1) := tb_at tbX8_thing_n20_ok 3 rfl
theorem dX8_thing_6 : decode cX8_thing 6 = .ok (.aload_n 2, 1) := tb_at tbX8_thing_n20_ok 4 rfl
theorem dX8_thing_7 : decode cX8_thing 7 = .ok (.ifnonnull 5, 3) := tb_at tbX8_thing_n20_ok 5 rfl
theorem dX8_thing_10 : decode cX8_thing 10 = .ok (.iconst (-1), 1) := tb_at tbX8_thing_n20_ok 6 rfl
theorem dX8_thing_11 : decode cX8_thing 11 = .ok (.ireturn, 1) := tb_at tbX8_thing_n20_ok 7 rfl
theorem dX8_thing_12 : decode cX8_thing 12 = .ok (.aload_n 0, 1) := tb_at tbX8_thing_n20_ok 8 rfl
theorem dX8_thing_13 : decode cX8_thing 13 = .ok (.getfield 94, 3) := tb_at tbX8_thing_n20_ok 9 rfl
theorem dX8_thing_16 : decode cX8_thing 16 = .ok (.bipush 30, 2) := tb_at tbX8_thing_n20_ok 10 rfl
theorem dX8_thing_18 : decode cX8_thing 18 = .ok (.if_icmp .lt 6, 3) := tb_at tbX8_thing_n20_ok 11 rfl
theorem dX8_thing_21 : decode cX8_thing 21 = .ok (.bipush (-4), 2) := tb_at tbX8_thing_n20_ok 12 rfl
theorem dX8_thing_23 : decode cX8_thing 23 = .ok (.ireturn, 1) := tb_at tbX8_thing_n20_ok 13 rfl
theorem dX8_thing_24 : decode cX8_thing 24 = .ok (.aload_n 0, 1) := tb_at tbX8_thing_n20_ok 14 rfl
theorem dX8_thing_25 : decode cX8_thing 25 = .ok (.getfield 17, 3) := tb_at tbX8_thing_n20_ok 15 rfl
theorem dX8_thing_28 : decode cX8_thing 28 = .ok (.aload_n 0, 1) := tb_at tbX8_thing_n20_ok 16 rfl
theorem dX8_thing_29 : decode cX8_thing 29 = .ok (.getfield 94, 3) := tb_at tbX8_thing_n20_ok 17 rfl
theorem dX8_thing_32 : decode cX8_thing 32 = .ok (.aaload, 1) := tb_at tbX8_thing_n20_ok 18 rfl
theorem dX8_thing_33 : decode cX8_thing 33 = .ok (.aload_n 2, 1) := tb_at tbX8_thing_n20_ok 19 rfl
theorem dX8_thing_34 : decode cX8_thing 34 = .ok (.invokevirtual 127, 3) := tb_at tbX8_thing_n20_ok 20 rfl
theorem dX8_thing_37 : decode cX8_thing 37 = .ok (.aload_n 0, 1) := tb_at tbX8_thing_n20_ok 21 rfl
theorem dX8_thing_38 : decode cX8_thing 38 = .ok (.dup, 1) := tb_at tbX8_thing_n20_ok 22 rfl
theorem dX8_thing_39 : decode cX8_thing 39 = .ok (.getfield 94, 3) := tb_at tbX8_thing_n20_ok 23 rfl
theorem dX8_thing_42 : decode cX8_thing 42 = .ok (.iconst 1, 1) := tb_at tbX8_thing_n20_ok 24 rfl
theorem dX8_thing_43 : decode cX8_thing 43 = .ok (.iadd, 1) := tb_at tbX8_thing_n20_ok 25 rfl
theorem dX8_thing_44 : decode cX8_thing 44 = .ok (.putfield 94, 3) := tb_at tbX8_thing_n20_ok 26 rfl
theorem dX8_thing_47 : decode cX8_thing 47 = .ok (.aload_n 0, 1) := tb_at tbX8_thing_n20_ok 27 rfl
theorem dX8_thing_48 : decode cX8_thing 48 = .ok (.getfield 94, 3) := tb_at tbX8_thing_n20_ok 28 rfl
theorem dX8_thing_51 : decode cX8_thing 51 = .ok (.iconst 1, 1) := tb_at tbX8_thing_n20_ok 29 rfl
theorem dX8_thing_52 : decode cX8_thing 52 = .ok (.isub, 1) := tb_at tbX8_thing_n20_ok 30 rfl
theorem dX8_thing_53 : decode cX8_thing 53 = .ok (.ireturn, 1) := tb_at tbX8_thing_n20_ok 31 rfl
set_option maxRecDepth 20000 in
theorem ggX8_put_X8_thingWithField : GoodIn wsX8_put wsX8_thingWithField := goodIn_r _ [8, 1, 9, 10, 11, 7, 12, 13, 14, 15, 16, 17, 18, 19, 20, 21, 22, 61, 62, 63, 64, 73, 74, 75, 76, 77, 78, 79, 80, 81, 82, 83, 84, 65, 66, 67, 68, 69, 70, 71, 72] (by decide +kernel) (by decide +kernel)
set_option maxRecDepth 20000 in
theorem gX8_put_X8_thingWithField : GoodIn wsX8_put (wsV RX8 131 RX8 yX8_thingWithField wsX8_thingWithField) := goodIn_app (goodIn_of _ (by decide +kernel)) ggX8_put_X8_thingWithField
set_option maxRecDepth 20000 in
theorem ggX8_put_X8_failed : GoodIn wsX8_put wsX8_failed := goodIn_r _ [25] (by decide +kernel) (by decide +kernel)
set_option maxRecDepth 20000 in
theorem gX8_put_X8_failed : GoodIn wsX8_put (va_wsS RX8 139 yX8_failed wsX8_failed) := goodIn_app (goodIn_of _ (by decide +kernel)) ggX8_put_X8_failed
set_option maxRecDepth 20000 in
theorem ggX8_put_X8_isWordInUse : GoodIn wsX8_put wsX8_isWordInUse := goodIn_r _ [29, 30, 31, 73, 74, 75, 76, 77, 78, 79, 80, 81, 82, 83, 84] (by decide +kernel) (by decide +kernel)
set_option maxRecDepth 20000 in
theorem gX8_put_X8_isWordInUse : GoodIn wsX8_put (wsV RX8 142 RX8 yX8_isWordInUse wsX8_isWordInUse) := goodIn_app (goodIn_of _ (by decide +kernel)) ggX8_put_X8_isWordInUse
set_option maxRecDepth 20000 in
theorem ggX8_put_X8_changeValue : GoodIn wsX8_put wsX8_changeValue := goodIn_r _ [35, 36, 37, 38, 39, 40, 41, 42, 43, 44, 45, 46, 47, 48, 49, 50, 51, 52, 53, 54, 55, 56, 57, 58, 59, 60, 73, 74, 75, 76, 77, 78, 79, 80, 81, 82, 83, 84, 61, 62, 63, 64, 85, 86, 87, 88, 89, 90, 91, 92] (by decide +kernel) (by decide +kernel)
set_option maxRecDepth 20000 in
theorem gX8_put_X8_changeValue : GoodIn wsX8_put (wsV RX8 146 RX8 yX8_changeValue wsX8_changeValue) := goodIn_app (goodIn_of _ (by decide +kernel)) ggX8_put_X8_changeValue
noncomputable def tbX8_put_n20 : List (Nat × Instr × Nat) := [(0, (.aload_n 0), 1), (1, (.iload_n 1), 1), (2, (.iload_n 2), 1), (3, (.invokevirtual 131), 3), (6, (.astore 5), 2), (8, (.aload 5), 2), (10, (.ifnonnull 5), 3), (13, (.iconst (-1)), 1), (14, .ireturn, 1), (15, (.aload 5), 2), (17, (.getfield 97), 3), (20, (.getfield 135), 3), (23, (.iload_n 2), 1), (24, .iaload, 1), (25, (.istore 6), 2), (27, (.iload 6), 2), (29, (.ifCond .eq 14), 3), (32, (.iload 6), 2), (34, (.iconst 1), 1), (35, (.if_icmp .eq 8), 3), (38, (.iconst 4), 1), (39, (.invokestatic 139), 3), (42, .ireturn, 1), (43, (.iload 6), 2), (45, (.iconst 1), 1), (46, (.if_icmp .ne 25), 3), (49, (.lload_n 3), 1), (50, (.ldc2_w 88), 3), (53, .lcmp, 1), (54, (.ifCond .eq 17), 3), (57, (.aload_n 0), 1), (58, (.lload_n 3), 1), (59, (.invokevirtual 142), 3), (62, (.ifCond .ne 9), 3), (65, (.bipush 7), 2), (67, (.invokestatic 139), 3), (70, .ireturn, 1), (71, (.aload_n 0), 1), (72, (.aload 5), 2), (74, (.iload_n 2), 1), (75, (.lload_n 3), 1), (76, (.invokevirtual 146), 3), (79, .ireturn, 1)]
theorem tbX8_put_n20_ok : ∀ q ∈ tbX8_put_n20, decode cX8_put q.1 = .ok q.2 := by decide +kernel
theorem dX8_put_0 : decode cX8_put 0 = .ok (.aload_n 0, 1) := tb_at tbX8_put_n20_ok 0 rfl
theorem dX8_put_1 : decode cX8_put 1 = .ok (.iload_n 1, 1) := tb_at tbX8_put_n20_ok 1 rfl
theorem dX8_put_2 : decode cX8_put 2 = .ok (.iload_n 2, 1) := tb_at tbX8_put_n20_ok 2 rfl
theorem dX8_put_3 : decode cX8_put 3 = .ok (.invokevirtual 131, 3) := tb_at tbX8_put_n20_ok 3 rfl
theorem dX8_put_6 : decode cX8_put 6 = .ok (.astore 5, 2) := tb_at tbX8_put_n20_ok 4 rfl
theorem dX8_put_8 : decode cX8_put 8 = .ok (.aload 5, 2) := tb_at tbX8_put_n20_ok 5 rfl
theorem dX8_put_10 : decode cX8_put 10 = .ok (.ifnonnull 5, 3) := tb_at tbX8_put_n20_ok 6 rfl
theorem dX8_put_13 : decode cX8_put 13 = .ok (.iconst (-1), 1) := tb_at tbX8_put_n20_ok 7 rfl
theorem dX8_put_14 : decode cX8_put 14 = .ok (.ireturn, 1) := tb_at tbX8_put_n20_ok 8 rfl
theorem dX8_put_15 : decode cX8_put 15 = .ok (.aload 5, 2) := tb_at tbX8_put_n20_ok 9 rfl
theorem dX8_put_17 : decode cX8_put 17 = .ok (.getfield 97, 3) := tb_at tbX8_put_n20_ok 10 rfl
theorem dX8_put_20 : decode cX8_put 20 = .ok (.getfield 135, 3) := tb_at tbX8_put_n20_ok 11 rfl
theorem dX8_put_23 : decode cX8_put 23 = .ok (.iload_n 2, 1) := tb_at tbX8_put_n20_ok 12 rfl
theorem dX8_put_24 : decode cX8_put 24 = .ok (.iaload, 1) := tb_at tbX8_put_n20_ok 13 rfl
theorem dX8_put_25 : decode cX8_put 25 = .ok (.istore 6, 2) := tb_at tbX8_put_n20_ok 14 rfl
theorem dX8_put_27 : decode cX8_put 27 = .ok (.iload 6, 2) := tb_at tbX8_put_n20_ok 15 rfl
theorem dX8_put_29 : decode cX8_put 29 = .ok (.ifCond .eq 14, 3) := tb_at tbX8_put_n20_ok 16 rfl
theorem dX8_put_32 : decode cX8_put 32 = .ok (.iload 6, 2) := tb_at tbX8_put_n20_ok 17 rfl
theorem dX8_put_34 : decode cX8_put 34 = .ok (.iconst 1, 1) := tb_at tbX8_put_n20_ok 18 rfl
theorem dX8_put_35 : decode cX8_put 35 = .ok (.if_icmp .eq 8, 3) := tb_at tbX8_put_n20_ok 19 rfl
theorem dX8_put_38 : decode cX8_put 38 = .ok (.iconst 4, 1) := tb_at tbX8_put_n20_ok 20 rfl
theorem dX8_put_39 : decode cX8_put 39 = .ok (.invokestatic 139, 3) := tb_at tbX8_put_n20_ok 21 rfl
theorem dX8_put_42 : decode cX8_put 42 = .ok (.ireturn, 1) := tb_at tbX8_put_n20_ok 22 rfl
theorem dX8_put_43 : decode cX8_put 43 = .ok (.iload 6, 2) := tb_at tbX8_put_n20_ok 23 rfl
theorem dX8_put_45 : decode cX8_put 45 = .ok (.iconst 1, 1) := tb_at tbX8_put_n20_ok 24 rfl
theorem dX8_put_46 : decode cX8_put 46 = .ok (.if_icmp .ne 25, 3) := tb_at tbX8_put_n20_ok 25 rfl
theorem dX8_put_49 : decode cX8_put 49 = .ok (.lload_n 3, 1) := tb_at tbX8_put_n20_ok 26 rfl
theorem dX8_put_50 : decode cX8_put 50 = .ok (.ldc2_w 88, 3) := tb_at tbX8_put_n20_ok 27 rfl
theorem dX8_put_53 : decode cX8_put 53 = .ok (.lcmp, 1) := tb_at tbX8_put_n20_ok 28 rfl
theorem dX8_put_54 : decode cX8_put 54 = .ok (.ifCond .eq 17, 3) := tb_at tbX8_put_n20_ok 29 rfl
theorem dX8_put_57 : decode cX8_put 57 = .ok (.aload_n 0, 1) := tb_at tbX8_put_n20_ok 30 rfl
theorem dX8_put_58 : decode cX8_put 58 = .ok (.lload_n 3, 1) := tb_at tbX8_put_n20_ok 31 rfl
theorem dX8_put_59 : decode cX8_put 59 = .ok (.invokevirtual 142, 3) := tb_at tbX8_put_n20_ok 32 rfl
theorem dX8_put_62 : decode cX8_put 62 = .ok (.ifCond .ne 9, 3) := tb_at tbX8_put_n20_ok 33 rfl
theorem dX8_put_65 : decode cX8_put 65 = .ok (.bipush 7, 2) := tb_at tbX8_put_n20_ok 34 rfl
theorem dX8_put_67 : decode cX8_put 67 = .ok (.invokestatic 139, 3) := tb_at tbX8_put_n20_ok 35 rfl
theorem dX8_put_70 : decode cX8_put 70 = .ok (.ireturn, 1) := tb_at tbX8_put_n20_ok 36 rfl
theorem dX8_put_71 : decode cX8_put 71 = .ok (.aload_n 0, 1) := tb_at tbX8_put_n20_ok 37 rfl
theorem dX8_put_72 : decode cX8_put 72 = .ok (.aload 5, 2) := tb_at tbX8_put_n20_ok 38 rfl
theorem dX8_put_74 : decode cX8_put 74 = .ok (.iload_n 2, 1) := tb_at tbX8_put_n20_ok 39 rfl
theorem dX8_put_75 : decode cX8_put 75 = .ok (.lload_n 3, 1) := tb_at tbX8_put_n20_ok 40 rfl
theorem dX8_put_76 : decode cX8_put 76 = .ok (.invokevirtual 146, 3) := tb_at tbX8_put_n20_ok 41 rfl
theorem dX8_put_79 : decode cX8_put 79 = .ok (.ireturn, 1) := tb_at tbX8_put_n20_ok 42 rfl
set_option maxRecDepth 20000 in
theorem ggX8_refer_X8_thingWithField : GoodIn wsX8_refer wsX8_thingWithField := goodIn_r _ [8, 2, 9, 10, 11, 7, 12, 1, 13, 14, 15, 16, 17, 18, 19, 20, 21, 67, 68, 69, 70, 55, 56, 57, 58, 59, 60, 61, 62, 63, 64, 65, 66, 71, 72, 73, 74, 75, 76, 77, 78] (by decide +kernel) (by decide +kernel)
set_option maxRecDepth 20000 in
theorem gX8_refer_X8_thingWithField : GoodIn wsX8_refer (wsV RX8 131 RX8 yX8_thingWithField wsX8_thingWithField) := goodIn_app (goodIn_of _ (by decide +kernel)) ggX8_refer_X8_thingWithField
set_option maxRecDepth 20000 in
theorem ggX8_refer_X8_isBelow : GoodIn wsX8_refer wsX8_isBelow := goodIn_r _ [21] (by decide +kernel) (by decide +kernel)
set_option maxRecDepth 20000 in
theorem gX8_refer_X8_isBelow : GoodIn wsX8_refer (va_wsS RX8 74 yX8_isBelow wsX8_isBelow) := goodIn_app (goodIn_of _ (by decide +kernel)) ggX8_refer_X8_isBelow
set_option maxRecDepth 20000 in
theorem ggX8_refer_X8_failed : GoodIn wsX8_refer wsX8_failed := goodIn_r _ [25] (by decide +kernel) (by decide +kernel)
set_option maxRecDepth 20000 in
theorem gX8_refer_X8_failed : GoodIn wsX8_refer (va_wsS RX8 139 yX8_failed wsX8_failed) := goodIn_app (goodIn_of _ (by decide +kernel)) ggX8_refer_X8_failed
set_option maxRecDepth 20000 in
theorem ggX8_refer_X8_changeValue : GoodIn wsX8_refer wsX8_changeValue := goodIn_r _ [29, 30, 31, 32, 33, 34, 35, 36, 37, 38, 39, 40, 41, 42, 43, 44, 45, 46, 47, 48, 49, 50, 51, 52, 53, 54, 55, 56, 57, 58, 59, 60, 61, 62, 63, 64, 65, 66, 67, 68, 69, 70, 79, 80, 81, 82, 83, 84, 85, 86] (by decide +kernel) (by decide +kernel)
set_option maxRecDepth 20000 in
theorem gX8_refer_X8_changeValue : GoodIn wsX8_refer (wsV RX8 146 RX8 yX8_changeValue wsX8_changeValue) := goodIn_app (goodIn_of _ (by decide +kernel)) ggX8_refer_X8_changeValue
noncomputable def tbX8_refer_n20 : List (Nat × Instr × Nat) := [(0, (.aload_n 0), 1), (1, (.iload_n 1), 1), (2, (.iload_n 2), 1), (3, (.invokevirtual 131), 3), (6, (.astore 4), 2), (8, (.aload 4), 2), (10, (.ifnull 19), 3), (13, (.iload_n 3), 1), (14, (.iconst (-1)), 1), (15, (.if_icmp .eq 16), 3), (18, (.iload_n 3), 1), (19, (.aload_n 0), 1), (20, (.getfield 94), 3), (23, (.invokestatic 74), 3), (26, (.ifCond .ne 5), 3), (29, (.iconst (-1)), 1), (30, .ireturn, 1), (31, (.aload 4), 2), (33, (.getfield 97), 3), (36, (.getfield 135), 3), (39, (.iload_n 2), 1), (40, .iaload, 1), (41, (.iconst 2), 1), (42, (.if_icmp .eq 8), 3), (45, (.iconst 4), 1), (46, (.invokestatic 139), 3), (49, .ireturn, 1), (50, (.aload_n 0), 1), (51, (.aload 4), 2), (53, (.iload_n 2), 1), (54, (.iload_n 3), 1), (55, .i2l, 1), (56, (.invokevirtual 146), 3), (59, .ireturn, 1)]
theorem tbX8_refer_n20_ok : ∀ q ∈ tbX8_refer_n20, decode cX8_refer q.1 = .ok q.2 := by decide +kernel
theorem dX8_refer_0 : decode cX8_refer 0 = .ok (.aload_n 0, 1) := tb_at tbX8_refer_n20_ok 0 rfl
theorem dX8_refer_1 : decode cX8_refer 1 = .ok (.iload_n 1, 1) := tb_at tbX8_refer_n20_ok 1 rfl
theorem dX8_refer_2 : decode cX8_refer 2 = .ok (.iload_n 2, 1) := tb_at tbX8_refer_n20_ok 2 rfl
theorem dX8_refer_3 : decode cX8_refer 3 = .ok (.invokevirtual 131, 3) := tb_at tbX8_refer_n20_ok 3 rfl
theorem dX8_refer_6 : decode cX8_refer 6 = .ok (.astore 4, 2) := tb_at tbX8_refer_n20_ok 4 rfl
theorem dX8_refer_8 : decode cX8_refer 8 = .ok (.aload 4, 2) := tb_at tbX8_refer_n20_ok 5 rfl
theorem dX8_refer_10 : decode cX8_refer 10 = .ok (.ifnull 19, 3) := tb_at tbX8_refer_n20_ok 6 rfl
theorem dX8_refer_13 : decode cX8_refer 13 = .ok (.iload_n 3, 1) := tb_at tbX8_refer_n20_ok 7 rfl
theorem dX8_refer_14 : decode cX8_refer 14 = .ok (.iconst (-1), 1) := tb_at tbX8_refer_n20_ok 8 rfl
theorem dX8_refer_15 : decode cX8_refer 15 = .ok (.if_icmp .eq 16, 3) := tb_at tbX8_refer_n20_ok 9 rfl
theorem dX8_refer_18 : decode cX8_refer 18 = .ok (.iload_n 3, 1) := tb_at tbX8_refer_n20_ok 10 rfl
theorem dX8_refer_19 : decode cX8_refer 19 = .ok (.aload_n 0, 1) := tb_at tbX8_refer_n20_ok 11 rfl
theorem dX8_refer_20 : decode cX8_refer 20 = .ok (.getfield 94, 3) := tb_at tbX8_refer_n20_ok 12 rfl
theorem dX8_refer_23 : decode cX8_refer 23 = .ok (.invokestatic 74, 3) := tb_at tbX8_refer_n20_ok 13 rfl
theorem dX8_refer_26 : decode cX8_refer 26 = .ok (.ifCond .ne 5, 3) := tb_at tbX8_refer_n20_ok 14 rfl
theorem dX8_refer_29 : decode cX8_refer 29 = .ok (.iconst (-1), 1) := tb_at tbX8_refer_n20_ok 15 rfl
theorem dX8_refer_30 : decode cX8_refer 30 = .ok (.ireturn, 1) := tb_at tbX8_refer_n20_ok 16 rfl
theorem dX8_refer_31 : decode cX8_refer 31 = .ok (.aload 4, 2) := tb_at tbX8_refer_n20_ok 17 rfl
theorem dX8_refer_33 : decode cX8_refer 33 = .ok (.getfield 97, 3) := tb_at tbX8_refer_n20_ok 18 rfl
theorem dX8_refer_36 : decode cX8_refer 36 = .ok (.getfield 135, 3) := tb_at tbX8_refer_n20_ok 19 rfl
theorem dX8_refer_39 : decode cX8_refer 39 = .ok (.iload_n 2, 1) := tb_at tbX8_refer_n20_ok 20 rfl
theorem dX8_refer_40 : decode cX8_refer 40 = .ok (.iaload, 1) := tb_at tbX8_refer_n20_ok 21 rfl
theorem dX8_refer_41 : decode cX8_refer 41 = .ok (.iconst 2, 1) := tb_at tbX8_refer_n20_ok 22 rfl
theorem dX8_refer_42 : decode cX8_refer 42 = .ok (.if_icmp .eq 8, 3) := tb_at tbX8_refer_n20_ok 23 rfl
theorem dX8_refer_45 : decode cX8_refer 45 = .ok (.iconst 4, 1) := tb_at tbX8_refer_n20_ok 24 rfl
theorem dX8_refer_46 : decode cX8_refer 46 = .ok (.invokestatic 139, 3) := tb_at tbX8_refer_n20_ok 25 rfl
theorem dX8_refer_49 : decode cX8_refer 49 = .ok (.ireturn, 1) := tb_at tbX8_refer_n20_ok 26 rfl
theorem dX8_refer_50 : decode cX8_refer 50 = .ok (.aload_n 0, 1) := tb_at tbX8_refer_n20_ok 27 rfl
theorem dX8_refer_51 : decode cX8_refer 51 = .ok (.aload 4, 2) := tb_at tbX8_refer_n20_ok 28 rfl
theorem dX8_refer_53 : decode cX8_refer 53 = .ok (.iload_n 2, 1) := tb_at tbX8_refer_n20_ok 29 rfl
theorem dX8_refer_54 : decode cX8_refer 54 = .ok (.iload_n 3, 1) := tb_at tbX8_refer_n20_ok 30 rfl
theorem dX8_refer_55 : decode cX8_refer 55 = .ok (.i2l, 1) := tb_at tbX8_refer_n20_ok 31 rfl
theorem dX8_refer_56 : decode cX8_refer 56 = .ok (.invokevirtual 146, 3) := tb_at tbX8_refer_n20_ok 32 rfl
theorem dX8_refer_59 : decode cX8_refer 59 = .ok (.ireturn, 1) := tb_at tbX8_refer_n20_ok 33 rfl
set_option maxRecDepth 20000 in
theorem ggX8_row_X8_thingWithField : GoodIn wsX8_row wsX8_thingWithField := goodIn_r _ [10, 1, 11, 12, 13, 9, 14, 15, 16, 17, 18, 19, 20, 21, 22, 23, 24, 68, 69, 70, 71, 82, 83, 84, 85, 86, 87, 88, 89, 90, 91, 92, 93, 72, 73, 74, 75, 76, 77, 78, 79] (by decide +kernel) (by decide +kernel)
set_option maxRecDepth 20000 in
theorem gX8_row_X8_thingWithField : GoodIn wsX8_row (wsV RX8 131 RX8 yX8_thingWithField wsX8_thingWithField) := goodIn_app (goodIn_of _ (by decide +kernel)) ggX8_row_X8_thingWithField
set_option maxRecDepth 20000 in
theorem ggX8_row_X8_isRowLane : GoodIn wsX8_row wsX8_isRowLane := goodIn_r _ [27] (by decide +kernel) (by decide +kernel)
set_option maxRecDepth 20000 in
theorem gX8_row_X8_isRowLane : GoodIn wsX8_row (va_wsS RX8 150 yX8_isRowLane wsX8_isRowLane) := goodIn_app (goodIn_of _ (by decide +kernel)) ggX8_row_X8_isRowLane
set_option maxRecDepth 20000 in
theorem ggX8_row_X8_failed : GoodIn wsX8_row wsX8_failed := goodIn_r _ [30] (by decide +kernel) (by decide +kernel)
set_option maxRecDepth 20000 in
theorem gX8_row_X8_failed : GoodIn wsX8_row (va_wsS RX8 139 yX8_failed wsX8_failed) := goodIn_app (goodIn_of _ (by decide +kernel)) ggX8_row_X8_failed
set_option maxRecDepth 20000 in
theorem ggX8_row_X5_init : GoodIn wsX8_row wsX5_init := goodIn_r _ [33, 34, 35, 36, 37, 38, 80, 81] (by decide +kernel) (by decide +kernel)
set_option maxRecDepth 20000 in
theorem gX8_row_X5_init : GoodIn wsX8_row (wsX5_init) := ggX8_row_X5_init
set_option maxRecDepth 20000 in
theorem ggX8_row_X8_changeRow : GoodIn wsX8_row wsX8_changeRow := goodIn_r _ [42, 43, 44, 45, 46, 47, 48, 49, 50, 51, 52, 53, 54, 55, 56, 57, 58, 59, 60, 61, 62, 63, 64, 65, 66, 67, 82, 83, 84, 85, 86, 87, 88, 89, 90, 91, 92, 93, 68, 69, 70, 71, 94, 95, 96, 97, 98, 99, 100, 101] (by decide +kernel) (by decide +kernel)
set_option maxRecDepth 20000 in
theorem gX8_row_X8_changeRow : GoodIn wsX8_row (wsV RX8 154 RX8 yX8_changeRow wsX8_changeRow) := goodIn_app (goodIn_of _ (by decide +kernel)) ggX8_row_X8_changeRow
noncomputable def tbX8_row_n20 : List (Nat × Instr × Nat) := [(0, (.aload_n 0), 1), (1, (.iload_n 1), 1), (2, (.iload_n 2), 1), (3, (.invokevirtual 131), 3), (6, (.astore 4), 2), (8, (.aload 4), 2), (10, (.ifnonnull 5), 3), (13, (.iconst (-1)), 1), (14, .ireturn, 1), (15, (.iload_n 3), 1), (16, (.bipush 12), 2), (18, (.if_icmp .le 6), 3), (21, (.bipush (-2)), 2), (23, .ireturn, 1), (24, (.aload 4), 2), (26, (.getfield 97), 3), (29, (.getfield 135), 3), (32, (.iload_n 2), 1), (33, .iaload, 1), (34, (.invokestatic 150), 3), (37, (.ifCond .ne 8), 3), (40, (.iconst 4), 1), (41, (.invokestatic 139), 3), (44, .ireturn, 1), (45, (.iload_n 3), 1), (46, (.iconst (-1)), 1), (47, (.if_icmp .ge 8), 3), (50, (.iconst 3), 1), (51, (.invokestatic 139), 3), (54, .ireturn, 1), (55, (.aload_n 0), 1), (56, (.aload 4), 2), (58, (.iload_n 2), 1), (59, (.iload_n 3), 1), (60, (.iconst (-1)), 1), (61, (.if_icmp .ne 7), 3), (64, .aconst_null, 1), (65, (.goto 11), 3), (68, (.new 42), 3), (71, .dup, 1), (72, (.iload_n 3), 1), (73, (.invokespecial 153), 3), (76, (.invokevirtual 154), 3), (79, .ireturn, 1)]
theorem tbX8_row_n20_ok : ∀ q ∈ tbX8_row_n20, decode cX8_row q.1 = .ok q.2 := by decide +kernel
theorem dX8_row_0 : decode cX8_row 0 = .ok (.aload_n 0, 1) := tb_at tbX8_row_n20_ok 0 rfl
theorem dX8_row_1 : decode cX8_row 1 = .ok (.iload_n 1, 1) := tb_at tbX8_row_n20_ok 1 rfl
theorem dX8_row_2 : decode cX8_row 2 = .ok (.iload_n 2, 1) := tb_at tbX8_row_n20_ok 2 rfl
theorem dX8_row_3 : decode cX8_row 3 = .ok (.invokevirtual 131, 3) := tb_at tbX8_row_n20_ok 3 rfl
theorem dX8_row_6 : decode cX8_row 6 = .ok (.astore 4, 2) := tb_at tbX8_row_n20_ok 4 rfl
theorem dX8_row_8 : decode cX8_row 8 = .ok (.aload 4, 2) := tb_at tbX8_row_n20_ok 5 rfl
theorem dX8_row_10 : decode cX8_row 10 = .ok (.ifnonnull 5, 3) := tb_at tbX8_row_n20_ok 6 rfl
theorem dX8_row_13 : decode cX8_row 13 = .ok (.iconst (-1), 1) := tb_at tbX8_row_n20_ok 7 rfl
theorem dX8_row_14 : decode cX8_row 14 = .ok (.ireturn, 1) := tb_at tbX8_row_n20_ok 8 rfl
theorem dX8_row_15 : decode cX8_row 15 = .ok (.iload_n 3, 1) := tb_at tbX8_row_n20_ok 9 rfl
theorem dX8_row_16 : decode cX8_row 16 = .ok (.bipush 12, 2) := tb_at tbX8_row_n20_ok 10 rfl
theorem dX8_row_18 : decode cX8_row 18 = .ok (.if_icmp .le 6, 3) := tb_at tbX8_row_n20_ok 11 rfl
theorem dX8_row_21 : decode cX8_row 21 = .ok (.bipush (-2), 2) := tb_at tbX8_row_n20_ok 12 rfl
theorem dX8_row_23 : decode cX8_row 23 = .ok (.ireturn, 1) := tb_at tbX8_row_n20_ok 13 rfl
theorem dX8_row_24 : decode cX8_row 24 = .ok (.aload 4, 2) := tb_at tbX8_row_n20_ok 14 rfl
theorem dX8_row_26 : decode cX8_row 26 = .ok (.getfield 97, 3) := tb_at tbX8_row_n20_ok 15 rfl
theorem dX8_row_29 : decode cX8_row 29 = .ok (.getfield 135, 3) := tb_at tbX8_row_n20_ok 16 rfl
theorem dX8_row_32 : decode cX8_row 32 = .ok (.iload_n 2, 1) := tb_at tbX8_row_n20_ok 17 rfl
theorem dX8_row_33 : decode cX8_row 33 = .ok (.iaload, 1) := tb_at tbX8_row_n20_ok 18 rfl
theorem dX8_row_34 : decode cX8_row 34 = .ok (.invokestatic 150, 3) := tb_at tbX8_row_n20_ok 19 rfl
theorem dX8_row_37 : decode cX8_row 37 = .ok (.ifCond .ne 8, 3) := tb_at tbX8_row_n20_ok 20 rfl
theorem dX8_row_40 : decode cX8_row 40 = .ok (.iconst 4, 1) := tb_at tbX8_row_n20_ok 21 rfl
theorem dX8_row_41 : decode cX8_row 41 = .ok (.invokestatic 139, 3) := tb_at tbX8_row_n20_ok 22 rfl
theorem dX8_row_44 : decode cX8_row 44 = .ok (.ireturn, 1) := tb_at tbX8_row_n20_ok 23 rfl
theorem dX8_row_45 : decode cX8_row 45 = .ok (.iload_n 3, 1) := tb_at tbX8_row_n20_ok 24 rfl
theorem dX8_row_46 : decode cX8_row 46 = .ok (.iconst (-1), 1) := tb_at tbX8_row_n20_ok 25 rfl
theorem dX8_row_47 : decode cX8_row 47 = .ok (.if_icmp .ge 8, 3) := tb_at tbX8_row_n20_ok 26 rfl
theorem dX8_row_50 : decode cX8_row 50 = .ok (.iconst 3, 1) := tb_at tbX8_row_n20_ok 27 rfl
theorem dX8_row_51 : decode cX8_row 51 = .ok (.invokestatic 139, 3) := tb_at tbX8_row_n20_ok 28 rfl
theorem dX8_row_54 : decode cX8_row 54 = .ok (.ireturn, 1) := tb_at tbX8_row_n20_ok 29 rfl
theorem dX8_row_55 : decode cX8_row 55 = .ok (.aload_n 0, 1) := tb_at tbX8_row_n20_ok 30 rfl
theorem dX8_row_56 : decode cX8_row 56 = .ok (.aload 4, 2) := tb_at tbX8_row_n20_ok 31 rfl
theorem dX8_row_58 : decode cX8_row 58 = .ok (.iload_n 2, 1) := tb_at tbX8_row_n20_ok 32 rfl
theorem dX8_row_59 : decode cX8_row 59 = .ok (.iload_n 3, 1) := tb_at tbX8_row_n20_ok 33 rfl
theorem dX8_row_60 : decode cX8_row 60 = .ok (.iconst (-1), 1) := tb_at tbX8_row_n20_ok 34 rfl
theorem dX8_row_61 : decode cX8_row 61 = .ok (.if_icmp .ne 7, 3) := tb_at tbX8_row_n20_ok 35 rfl
theorem dX8_row_64 : decode cX8_row 64 = .ok (.aconst_null, 1) := tb_at tbX8_row_n20_ok 36 rfl
theorem dX8_row_65 : decode cX8_row 65 = .ok (.goto 11, 3) := tb_at tbX8_row_n20_ok 37 rfl
theorem dX8_row_68 : decode cX8_row 68 = .ok (.new 42, 3) := tb_at tbX8_row_n20_ok 38 rfl
theorem dX8_row_71 : decode cX8_row 71 = .ok (.dup, 1) := tb_at tbX8_row_n20_ok 39 rfl
theorem dX8_row_72 : decode cX8_row 72 = .ok (.iload_n 3, 1) := tb_at tbX8_row_n20_ok 40 rfl
theorem dX8_row_73 : decode cX8_row 73 = .ok (.invokespecial 153, 3) := tb_at tbX8_row_n20_ok 41 rfl
theorem dX8_row_76 : decode cX8_row 76 = .ok (.invokevirtual 154, 3) := tb_at tbX8_row_n20_ok 42 rfl
theorem dX8_row_79 : decode cX8_row 79 = .ok (.ireturn, 1) := tb_at tbX8_row_n20_ok 43 rfl
set_option maxRecDepth 20000 in
theorem ggX8_share_X8_thingWithField : GoodIn wsX8_share wsX8_thingWithField := goodIn_r _ [8, 1, 9, 10, 11, 7, 12, 13, 14, 15, 16, 17, 18, 19, 20, 21, 22, 57, 58, 59, 60, 69, 70, 71, 72, 73, 74, 75, 76, 77, 78, 79, 80, 61, 62, 63, 64, 65, 66, 67, 68] (by decide +kernel) (by decide +kernel)
set_option maxRecDepth 20000 in
theorem gX8_share_X8_thingWithField : GoodIn wsX8_share (wsV RX8 131 RX8 yX8_thingWithField wsX8_thingWithField) := goodIn_app (goodIn_of _ (by decide +kernel)) ggX8_share_X8_thingWithField
set_option maxRecDepth 20000 in
theorem ggX8_share_X8_isRowLane : GoodIn wsX8_share wsX8_isRowLane := goodIn_r _ [25] (by decide +kernel) (by decide +kernel)
set_option maxRecDepth 20000 in
theorem gX8_share_X8_isRowLane : GoodIn wsX8_share (va_wsS RX8 150 yX8_isRowLane wsX8_isRowLane) := goodIn_app (goodIn_of _ (by decide +kernel)) ggX8_share_X8_isRowLane
set_option maxRecDepth 20000 in
theorem ggX8_share_X8_failed : GoodIn wsX8_share wsX8_failed := goodIn_r _ [28] (by decide +kernel) (by decide +kernel)
set_option maxRecDepth 20000 in
theorem gX8_share_X8_failed : GoodIn wsX8_share (va_wsS RX8 139 yX8_failed wsX8_failed) := goodIn_app (goodIn_of _ (by decide +kernel)) ggX8_share_X8_failed
set_option maxRecDepth 20000 in
theorem ggX8_share_X8_changeRow : GoodIn wsX8_share wsX8_changeRow := goodIn_r _ [32, 33, 3, 34, 35, 36, 37, 38, 39, 40, 41, 42, 43, 44, 45, 46, 47, 48, 49, 50, 51, 52, 53, 54, 55, 56, 69, 70, 71, 72, 73, 74, 75, 76, 77, 78, 79, 80, 57, 58, 59, 60, 81, 82, 83, 84, 85, 86, 87, 88] (by decide +kernel) (by decide +kernel)
set_option maxRecDepth 20000 in
theorem gX8_share_X8_changeRow : GoodIn wsX8_share (wsV RX8 154 RX8 yX8_changeRow wsX8_changeRow) := goodIn_app (goodIn_of _ (by decide +kernel)) ggX8_share_X8_changeRow
noncomputable def tbX8_share_n20 : List (Nat × Instr × Nat) := [(0, (.aload_n 0), 1), (1, (.iload_n 1), 1), (2, (.iload_n 2), 1), (3, (.invokevirtual 131), 3), (6, (.astore 5), 2), (8, (.aload_n 0), 1), (9, (.iload_n 3), 1), (10, (.iload 4), 2), (12, (.invokevirtual 131), 3), (15, (.astore 6), 2), (17, (.aload 5), 2), (19, (.ifnull 8), 3), (22, (.aload 6), 2), (24, (.ifnonnull 5), 3), (27, (.iconst (-1)), 1), (28, .ireturn, 1), (29, (.aload 5), 2), (31, (.getfield 97), 3), (34, (.getfield 135), 3), (37, (.iload_n 2), 1), (38, .iaload, 1), (39, (.istore 7), 2), (41, (.iload 7), 2), (43, (.invokestatic 150), 3), (46, (.ifCond .eq 19), 3), (49, (.aload 6), 2), (51, (.getfield 97), 3), (54, (.getfield 135), 3), (57, (.iload 4), 2), (59, .iaload, 1), (60, (.iload 7), 2), (62, (.if_icmp .eq 8), 3), (65, (.iconst 4), 1), (66, (.invokestatic 139), 3), (69, .ireturn, 1), (70, (.aload_n 0), 1), (71, (.aload 5), 2), (73, (.iload_n 2), 1), (74, (.aload 6), 2), (76, (.getfield 158), 3), (79, (.iload 4), 2), (81, .aaload, 1), (82, (.invokevirtual 154), 3), (85, .ireturn, 1)]
theorem tbX8_share_n20_ok : ∀ q ∈ tbX8_share_n20, decode cX8_share q.1 = .ok q.2 := by decide +kernel
theorem dX8_share_0 : decode cX8_share 0 = .ok (.aload_n 0, 1) := tb_at tbX8_share_n20_ok 0 rfl
theorem dX8_share_1 : decode cX8_share 1 = .ok (.iload_n 1, 1) := tb_at tbX8_share_n20_ok 1 rfl
theorem dX8_share_2 : decode cX8_share 2 = .ok (.iload_n 2, 1) := tb_at tbX8_share_n20_ok 2 rfl
theorem dX8_share_3 : decode cX8_share 3 = .ok (.invokevirtual 131, 3) := tb_at tbX8_share_n20_ok 3 rfl
theorem dX8_share_6 : decode cX8_share 6 = .ok (.astore 5, 2) := tb_at tbX8_share_n20_ok 4 rfl
theorem dX8_share_8 : decode cX8_share 8 = .ok (.aload_n 0, 1) := tb_at tbX8_share_n20_ok 5 rfl
theorem dX8_share_9 : decode cX8_share 9 = .ok (.iload_n 3, 1) := tb_at tbX8_share_n20_ok 6 rfl
theorem dX8_share_10 : decode cX8_share 10 = .ok (.iload 4, 2) := tb_at tbX8_share_n20_ok 7 rfl
theorem dX8_share_12 : decode cX8_share 12 = .ok (.invokevirtual 131, 3) := tb_at tbX8_share_n20_ok 8 rfl
theorem dX8_share_15 : decode cX8_share 15 = .ok (.astore 6, 2) := tb_at tbX8_share_n20_ok 9 rfl
theorem dX8_share_17 : decode cX8_share 17 = .ok (.aload 5, 2) := tb_at tbX8_share_n20_ok 10 rfl
theorem dX8_share_19 : decode cX8_share 19 = .ok (.ifnull 8, 3) := tb_at tbX8_share_n20_ok 11 rfl
theorem dX8_share_22 : decode cX8_share 22 = .ok (.aload 6, 2) := tb_at tbX8_share_n20_ok 12 rfl
theorem dX8_share_24 : decode cX8_share 24 = .ok (.ifnonnull 5, 3) := tb_at tbX8_share_n20_ok 13 rfl
theorem dX8_share_27 : decode cX8_share 27 = .ok (.iconst (-1), 1) := tb_at tbX8_share_n20_ok 14 rfl
theorem dX8_share_28 : decode cX8_share 28 = .ok (.ireturn, 1) := tb_at tbX8_share_n20_ok 15 rfl
theorem dX8_share_29 : decode cX8_share 29 = .ok (.aload 5, 2) := tb_at tbX8_share_n20_ok 16 rfl
theorem dX8_share_31 : decode cX8_share 31 = .ok (.getfield 97, 3) := tb_at tbX8_share_n20_ok 17 rfl
theorem dX8_share_34 : decode cX8_share 34 = .ok (.getfield 135, 3) := tb_at tbX8_share_n20_ok 18 rfl
theorem dX8_share_37 : decode cX8_share 37 = .ok (.iload_n 2, 1) := tb_at tbX8_share_n20_ok 19 rfl
theorem dX8_share_38 : decode cX8_share 38 = .ok (.iaload, 1) := tb_at tbX8_share_n20_ok 20 rfl
theorem dX8_share_39 : decode cX8_share 39 = .ok (.istore 7, 2) := tb_at tbX8_share_n20_ok 21 rfl
theorem dX8_share_41 : decode cX8_share 41 = .ok (.iload 7, 2) := tb_at tbX8_share_n20_ok 22 rfl
theorem dX8_share_43 : decode cX8_share 43 = .ok (.invokestatic 150, 3) := tb_at tbX8_share_n20_ok 23 rfl
theorem dX8_share_46 : decode cX8_share 46 = .ok (.ifCond .eq 19, 3) := tb_at tbX8_share_n20_ok 24 rfl
theorem dX8_share_49 : decode cX8_share 49 = .ok (.aload 6, 2) := tb_at tbX8_share_n20_ok 25 rfl
theorem dX8_share_51 : decode cX8_share 51 = .ok (.getfield 97, 3) := tb_at tbX8_share_n20_ok 26 rfl
theorem dX8_share_54 : decode cX8_share 54 = .ok (.getfield 135, 3) := tb_at tbX8_share_n20_ok 27 rfl
theorem dX8_share_57 : decode cX8_share 57 = .ok (.iload 4, 2) := tb_at tbX8_share_n20_ok 28 rfl
theorem dX8_share_59 : decode cX8_share 59 = .ok (.iaload, 1) := tb_at tbX8_share_n20_ok 29 rfl
theorem dX8_share_60 : decode cX8_share 60 = .ok (.iload 7, 2) := tb_at tbX8_share_n20_ok 30 rfl
theorem dX8_share_62 : decode cX8_share 62 = .ok (.if_icmp .eq 8, 3) := tb_at tbX8_share_n20_ok 31 rfl
theorem dX8_share_65 : decode cX8_share 65 = .ok (.iconst 4, 1) := tb_at tbX8_share_n20_ok 32 rfl
theorem dX8_share_66 : decode cX8_share 66 = .ok (.invokestatic 139, 3) := tb_at tbX8_share_n20_ok 33 rfl
theorem dX8_share_69 : decode cX8_share 69 = .ok (.ireturn, 1) := tb_at tbX8_share_n20_ok 34 rfl
theorem dX8_share_70 : decode cX8_share 70 = .ok (.aload_n 0, 1) := tb_at tbX8_share_n20_ok 35 rfl
theorem dX8_share_71 : decode cX8_share 71 = .ok (.aload 5, 2) := tb_at tbX8_share_n20_ok 36 rfl
theorem dX8_share_73 : decode cX8_share 73 = .ok (.iload_n 2, 1) := tb_at tbX8_share_n20_ok 37 rfl
theorem dX8_share_74 : decode cX8_share 74 = .ok (.aload 6, 2) := tb_at tbX8_share_n20_ok 38 rfl
theorem dX8_share_76 : decode cX8_share 76 = .ok (.getfield 158, 3) := tb_at tbX8_share_n20_ok 39 rfl
theorem dX8_share_79 : decode cX8_share 79 = .ok (.iload 4, 2) := tb_at tbX8_share_n20_ok 40 rfl
theorem dX8_share_81 : decode cX8_share 81 = .ok (.aaload, 1) := tb_at tbX8_share_n20_ok 41 rfl
theorem dX8_share_82 : decode cX8_share 82 = .ok (.invokevirtual 154, 3) := tb_at tbX8_share_n20_ok 42 rfl
theorem dX8_share_85 : decode cX8_share 85 = .ok (.ireturn, 1) := tb_at tbX8_share_n20_ok 43 rfl
set_option maxRecDepth 20000 in
theorem ggX8_item_X8_thingWithField : GoodIn wsX8_item wsX8_thingWithField := goodIn_r _ [10, 1, 11, 12, 13, 9, 14, 15, 16, 17, 18, 19, 20, 21, 22, 23, 24, 57, 58, 59, 60, 71, 72, 73, 74, 75, 76, 77, 78, 79, 80, 81, 82, 61, 62, 63, 64, 65, 66, 67, 68] (by decide +kernel) (by decide +kernel)
set_option maxRecDepth 20000 in
theorem gX8_item_X8_thingWithField : GoodIn wsX8_item (wsV RX8 131 RX8 yX8_thingWithField wsX8_thingWithField) := goodIn_app (goodIn_of _ (by decide +kernel)) ggX8_item_X8_thingWithField
set_option maxRecDepth 20000 in
theorem ggX8_item_X8_isRowLane : GoodIn wsX8_item wsX8_isRowLane := goodIn_r _ [27] (by decide +kernel) (by decide +kernel)
set_option maxRecDepth 20000 in
theorem gX8_item_X8_isRowLane : GoodIn wsX8_item (va_wsS RX8 150 yX8_isRowLane wsX8_isRowLane) := goodIn_app (goodIn_of _ (by decide +kernel)) ggX8_item_X8_isRowLane
set_option maxRecDepth 20000 in
theorem ggX8_item_X8_failed : GoodIn wsX8_item wsX8_failed := goodIn_r _ [30] (by decide +kernel) (by decide +kernel)
set_option maxRecDepth 20000 in
theorem gX8_item_X8_failed : GoodIn wsX8_item (va_wsS RX8 139 yX8_failed wsX8_failed) := goodIn_app (goodIn_of _ (by decide +kernel)) ggX8_item_X8_failed
set_option maxRecDepth 20000 in
theorem ggX8_item_X8_isBelow : GoodIn wsX8_item wsX8_isBelow := goodIn_r _ [24] (by decide +kernel) (by decide +kernel)
set_option maxRecDepth 20000 in
theorem gX8_item_X8_isBelow : GoodIn wsX8_item (va_wsS RX8 74 yX8_isBelow wsX8_isBelow) := goodIn_app (goodIn_of _ (by decide +kernel)) ggX8_item_X8_isBelow
set_option maxRecDepth 20000 in
theorem ggX8_item_X2_isFull : GoodIn wsX8_item wsX2_isFull := goodIn_r _ [36, 37, 83, 84, 85, 86] (by decide +kernel) (by decide +kernel)
set_option maxRecDepth 20000 in
theorem gX8_item_X2_isFull : GoodIn wsX8_item (wsV RX8 165 RX2 yX2_isFull wsX2_isFull) := goodIn_app (goodIn_of _ (by decide +kernel)) ggX8_item_X2_isFull
set_option maxRecDepth 20000 in
theorem ggX8_item_X2_noteItem : GoodIn wsX8_item wsX2_noteItem := goodIn_r _ [41, 42, 43, 44, 45, 35, 46, 47, 48, 37, 49, 50, 51, 52, 53, 33, 34, 36, 69, 70, 83, 84, 85, 86, 87, 88, 89, 90] (by decide +kernel) (by decide +kernel)
set_option maxRecDepth 20000 in
theorem gX8_item_X2_noteItem : GoodIn wsX8_item (wsV RX8 169 RX2 yX2_noteItem wsX2_noteItem) := goodIn_app (goodIn_of _ (by decide +kernel)) ggX8_item_X2_noteItem
set_option maxRecDepth 20000 in
theorem ggX8_item_X8_lowestBits : GoodIn wsX8_item wsX8_lowestBits := goodIn_r _ [56] (by decide +kernel) (by decide +kernel)
set_option maxRecDepth 20000 in
theorem gX8_item_X8_lowestBits : GoodIn wsX8_item (va_wsS RX8 173 yX8_lowestBits wsX8_lowestBits) := goodIn_app (goodIn_of _ (by decide +kernel)) ggX8_item_X8_lowestBits
noncomputable def tbX8_item_n20 : List (Nat × Instr × Nat) := [(0, (.aload_n 0), 1), (1, (.iload_n 1), 1), (2, (.iload_n 2), 1), (3, (.invokevirtual 131), 3), (6, (.astore 6), 2), (8, (.aload 6), 2), (10, (.ifnonnull 5), 3), (13, (.iconst (-1)), 1), (14, .ireturn, 1), (15, (.aload 6), 2), (17, (.getfield 97), 3), (20, (.getfield 135), 3), (23, (.iload_n 2), 1), (24, .iaload, 1), (25, (.istore 7), 2), (27, (.iload 7), 2), (29, (.invokestatic 150), 3), (32, (.ifCond .ne 8), 3), (35, (.iconst 4), 1), (36, (.invokestatic 139), 3), (39, .ireturn, 1), (40, (.aload 6), 2), (42, (.getfield 158), 3), (45, (.iload_n 2), 1), (46, .aaload, 1), (47, (.astore 8), 2), (49, (.aload 8), 2), (51, (.ifnonnull 8), 3), (54, (.iconst 1), 1), (55, (.invokestatic 139), 3), (58, .ireturn, 1), (59, (.iload_n 3), 1), (60, (.aload 8), 2), (62, (.getfield 161), 3), (65, .arraylength, 1), (66, (.invokestatic 74), 3), (69, (.ifCond .ne 8), 3), (72, (.iconst 2), 1), (73, (.invokestatic 139), 3), (76, .ireturn, 1), (77, (.aload_n 0), 1), (78, (.getfield 51), 3), (81, (.invokevirtual 165), 3), (84, (.ifCond .eq 6), 3), (87, (.bipush (-4)), 2), (89, .ireturn, 1), (90, (.aload_n 0), 1), (91, (.getfield 51), 3), (94, (.aload 8), 2), (96, (.iload_n 3), 1), (97, (.invokevirtual 169), 3), (100, (.aload 8), 2), (102, (.getfield 161), 3), (105, (.iload_n 3), 1), (106, (.lload 4), 2), (108, (.iload 7), 2), (110, (.invokestatic 173), 3), (113, .lastore, 1), (114, (.iconst 1), 1), (115, .ireturn, 1)]
theorem tbX8_item_n20_ok : ∀ q ∈ tbX8_item_n20, decode cX8_item q.1 = .ok q.2 := by decide +kernel
theorem dX8_item_0 : decode cX8_item 0 = .ok (.aload_n 0, 1) := tb_at tbX8_item_n20_ok 0 rfl
theorem dX8_item_1 : decode cX8_item 1 = .ok (.iload_n 1, 1) := tb_at tbX8_item_n20_ok 1 rfl
theorem dX8_item_2 : decode cX8_item 2 = .ok (.iload_n 2, 1) := tb_at tbX8_item_n20_ok 2 rfl
theorem dX8_item_3 : decode cX8_item 3 = .ok (.invokevirtual 131, 3) := tb_at tbX8_item_n20_ok 3 rfl
theorem dX8_item_6 : decode cX8_item 6 = .ok (.astore 6, 2) := tb_at tbX8_item_n20_ok 4 rfl
theorem dX8_item_8 : decode cX8_item 8 = .ok (.aload 6, 2) := tb_at tbX8_item_n20_ok 5 rfl
theorem dX8_item_10 : decode cX8_item 10 = .ok (.ifnonnull 5, 3) := tb_at tbX8_item_n20_ok 6 rfl
theorem dX8_item_13 : decode cX8_item 13 = .ok (.iconst (-1), 1) := tb_at tbX8_item_n20_ok 7 rfl
theorem dX8_item_14 : decode cX8_item 14 = .ok (.ireturn, 1) := tb_at tbX8_item_n20_ok 8 rfl
theorem dX8_item_15 : decode cX8_item 15 = .ok (.aload 6, 2) := tb_at tbX8_item_n20_ok 9 rfl
theorem dX8_item_17 : decode cX8_item 17 = .ok (.getfield 97, 3) := tb_at tbX8_item_n20_ok 10 rfl
theorem dX8_item_20 : decode cX8_item 20 = .ok (.getfield 135, 3) := tb_at tbX8_item_n20_ok 11 rfl
theorem dX8_item_23 : decode cX8_item 23 = .ok (.iload_n 2, 1) := tb_at tbX8_item_n20_ok 12 rfl
theorem dX8_item_24 : decode cX8_item 24 = .ok (.iaload, 1) := tb_at tbX8_item_n20_ok 13 rfl
theorem dX8_item_25 : decode cX8_item 25 = .ok (.istore 7, 2) := tb_at tbX8_item_n20_ok 14 rfl
theorem dX8_item_27 : decode cX8_item 27 = .ok (.iload 7, 2) := tb_at tbX8_item_n20_ok 15 rfl
theorem dX8_item_29 : decode cX8_item 29 = .ok (.invokestatic 150, 3) := tb_at tbX8_item_n20_ok 16 rfl
theorem dX8_item_32 : decode cX8_item 32 = .ok (.ifCond .ne 8, 3) := tb_at tbX8_item_n20_ok 17 rfl
theorem dX8_item_35 : decode cX8_item 35 = .ok (.iconst 4, 1) := tb_at tbX8_item_n20_ok 18 rfl
theorem dX8_item_36 : decode cX8_item 36 = .ok (.invokestatic 139, 3) := tb_at tbX8_item_n20_ok 19 rfl
theorem dX8_item_39 : decode cX8_item 39 = .ok (.ireturn, 1) := tb_at tbX8_item_n20_ok 20 rfl
theorem dX8_item_40 : decode cX8_item 40 = .ok (.aload 6, 2) := tb_at tbX8_item_n20_ok 21 rfl
theorem dX8_item_42 : decode cX8_item 42 = .ok (.getfield 158, 3) := tb_at tbX8_item_n20_ok 22 rfl
theorem dX8_item_45 : decode cX8_item 45 = .ok (.iload_n 2, 1) := tb_at tbX8_item_n20_ok 23 rfl
theorem dX8_item_46 : decode cX8_item 46 = .ok (.aaload, 1) := tb_at tbX8_item_n20_ok 24 rfl
theorem dX8_item_47 : decode cX8_item 47 = .ok (.astore 8, 2) := tb_at tbX8_item_n20_ok 25 rfl
theorem dX8_item_49 : decode cX8_item 49 = .ok (.aload 8, 2) := tb_at tbX8_item_n20_ok 26 rfl
theorem dX8_item_51 : decode cX8_item 51 = .ok (.ifnonnull 8, 3) := tb_at tbX8_item_n20_ok 27 rfl
theorem dX8_item_54 : decode cX8_item 54 = .ok (.iconst 1, 1) := tb_at tbX8_item_n20_ok 28 rfl
theorem dX8_item_55 : decode cX8_item 55 = .ok (.invokestatic 139, 3) := tb_at tbX8_item_n20_ok 29 rfl
theorem dX8_item_58 : decode cX8_item 58 = .ok (.ireturn, 1) := tb_at tbX8_item_n20_ok 30 rfl
theorem dX8_item_59 : decode cX8_item 59 = .ok (.iload_n 3, 1) := tb_at tbX8_item_n20_ok 31 rfl
theorem dX8_item_60 : decode cX8_item 60 = .ok (.aload 8, 2) := tb_at tbX8_item_n20_ok 32 rfl
theorem dX8_item_62 : decode cX8_item 62 = .ok (.getfield 161, 3) := tb_at tbX8_item_n20_ok 33 rfl
theorem dX8_item_65 : decode cX8_item 65 = .ok (.arraylength, 1) := tb_at tbX8_item_n20_ok 34 rfl
theorem dX8_item_66 : decode cX8_item 66 = .ok (.invokestatic 74, 3) := tb_at tbX8_item_n20_ok 35 rfl
theorem dX8_item_69 : decode cX8_item 69 = .ok (.ifCond .ne 8, 3) := tb_at tbX8_item_n20_ok 36 rfl
theorem dX8_item_72 : decode cX8_item 72 = .ok (.iconst 2, 1) := tb_at tbX8_item_n20_ok 37 rfl
theorem dX8_item_73 : decode cX8_item 73 = .ok (.invokestatic 139, 3) := tb_at tbX8_item_n20_ok 38 rfl
theorem dX8_item_76 : decode cX8_item 76 = .ok (.ireturn, 1) := tb_at tbX8_item_n20_ok 39 rfl
theorem dX8_item_77 : decode cX8_item 77 = .ok (.aload_n 0, 1) := tb_at tbX8_item_n20_ok 40 rfl
theorem dX8_item_78 : decode cX8_item 78 = .ok (.getfield 51, 3) := tb_at tbX8_item_n20_ok 41 rfl
theorem dX8_item_81 : decode cX8_item 81 = .ok (.invokevirtual 165, 3) := tb_at tbX8_item_n20_ok 42 rfl
theorem dX8_item_84 : decode cX8_item 84 = .ok (.ifCond .eq 6, 3) := tb_at tbX8_item_n20_ok 43 rfl
theorem dX8_item_87 : decode cX8_item 87 = .ok (.bipush (-4), 2) := tb_at tbX8_item_n20_ok 44 rfl
theorem dX8_item_89 : decode cX8_item 89 = .ok (.ireturn, 1) := tb_at tbX8_item_n20_ok 45 rfl
theorem dX8_item_90 : decode cX8_item 90 = .ok (.aload_n 0, 1) := tb_at tbX8_item_n20_ok 46 rfl
theorem dX8_item_91 : decode cX8_item 91 = .ok (.getfield 51, 3) := tb_at tbX8_item_n20_ok 47 rfl
theorem dX8_item_94 : decode cX8_item 94 = .ok (.aload 8, 2) := tb_at tbX8_item_n20_ok 48 rfl
theorem dX8_item_96 : decode cX8_item 96 = .ok (.iload_n 3, 1) := tb_at tbX8_item_n20_ok 49 rfl
theorem dX8_item_97 : decode cX8_item 97 = .ok (.invokevirtual 169, 3) := tb_at tbX8_item_n20_ok 50 rfl
theorem dX8_item_100 : decode cX8_item 100 = .ok (.aload 8, 2) := tb_at tbX8_item_n20_ok 51 rfl
theorem dX8_item_102 : decode cX8_item 102 = .ok (.getfield 161, 3) := tb_at tbX8_item_n20_ok 52 rfl
theorem dX8_item_105 : decode cX8_item 105 = .ok (.iload_n 3, 1) := tb_at tbX8_item_n20_ok 53 rfl
theorem dX8_item_106 : decode cX8_item 106 = .ok (.lload 4, 2) := tb_at tbX8_item_n20_ok 54 rfl
theorem dX8_item_108 : decode cX8_item 108 = .ok (.iload 7, 2) := tb_at tbX8_item_n20_ok 55 rfl
theorem dX8_item_110 : decode cX8_item 110 = .ok (.invokestatic 173, 3) := tb_at tbX8_item_n20_ok 56 rfl
theorem dX8_item_113 : decode cX8_item 113 = .ok (.lastore, 1) := tb_at tbX8_item_n20_ok 57 rfl
theorem dX8_item_114 : decode cX8_item 114 = .ok (.iconst 1, 1) := tb_at tbX8_item_n20_ok 58 rfl
theorem dX8_item_115 : decode cX8_item 115 = .ok (.ireturn, 1) := tb_at tbX8_item_n20_ok 59 rfl
set_option maxRecDepth 20000 in
theorem ggX8_at_X8_thingNumbered : GoodIn wsX8_at wsX8_thingNumbered := goodIn_r _ [15, 16, 17, 43, 44, 45, 46, 47, 48, 49, 50, 51, 52, 53, 54] (by decide +kernel) (by decide +kernel)
set_option maxRecDepth 20000 in
theorem gX8_at_X8_thingNumbered : GoodIn wsX8_at (wsV RX8 177 RX8 yX8_thingNumbered wsX8_thingNumbered) := goodIn_app (goodIn_of _ (by decide +kernel)) ggX8_at_X8_thingNumbered
set_option maxRecDepth 20000 in
theorem ggX8_at_X7_hasField : GoodIn wsX8_at wsX7_hasField := goodIn_r _ [22, 23, 24, 14, 25, 33, 34, 35, 36, 37, 38, 39, 40] (by decide +kernel) (by decide +kernel)
set_option maxRecDepth 20000 in
theorem gX8_at_X7_hasField : GoodIn wsX8_at (wsV RX8 104 RX7 yX7_hasField wsX7_hasField) := goodIn_app (goodIn_of _ (by decide +kernel)) ggX8_at_X7_hasField
set_option maxRecDepth 20000 in
theorem ggX8_at_X8_isRowLane : GoodIn wsX8_at wsX8_isRowLane := goodIn_r _ [28] (by decide +kernel) (by decide +kernel)
set_option maxRecDepth 20000 in
theorem gX8_at_X8_isRowLane : GoodIn wsX8_at (va_wsS RX8 150 yX8_isRowLane wsX8_isRowLane) := goodIn_app (goodIn_of _ (by decide +kernel)) ggX8_at_X8_isRowLane
noncomputable def tbX8_at_n20 : List (Nat × Instr × Nat) := [(0, (.aload_n 0), 1), (1, (.iload_n 1), 1), (2, .i2l, 1), (3, (.invokevirtual 177), 3), (6, (.astore_n 3), 1), (7, (.aload_n 3), 1), (8, (.ifnonnull 13), 3), (11, (.new 181), 3), (14, .dup, 1), (15, (.ldc 183), 2), (17, (.invokespecial 185), 3), (20, .athrow, 1), (21, (.aload_n 3), 1), (22, (.getfield 97), 3), (25, (.iload_n 2), 1), (26, (.invokevirtual 104), 3), (29, (.ifCond .ne 13), 3), (32, (.new 188), 3), (35, .dup, 1), (36, (.ldc 190), 2), (38, (.invokespecial 192), 3), (41, .athrow, 1), (42, (.aload_n 3), 1), (43, (.getfield 97), 3), (46, (.getfield 135), 3), (49, (.iload_n 2), 1), (50, .iaload, 1), (51, (.invokestatic 150), 3), (54, (.ifCond .ne 10), 3), (57, (.aload_n 3), 1), (58, (.getfield 193), 3), (61, (.iload_n 2), 1), (62, .laload, 1), (63, .lreturn, 1), (64, (.aload_n 3), 1), (65, (.getfield 158), 3), (68, (.iload_n 2), 1), (69, .aaload, 1), (70, (.astore 4), 2), (72, (.aload 4), 2), (74, (.ifnonnull 9), 3), (77, (.ldc2_w 88), 3), (80, (.goto 10), 3), (83, (.aload 4), 2), (85, (.getfield 161), 3), (88, .arraylength, 1), (89, .i2l, 1), (90, .lreturn, 1)]
theorem tbX8_at_n20_ok : ∀ q ∈ tbX8_at_n20, decode cX8_at q.1 = .ok q.2 := by decide +kernel
theorem dX8_at_0 : decode cX8_at 0 = .ok (.aload_n 0, 1) := tb_at tbX8_at_n20_ok 0 rfl
theorem dX8_at_1 : decode cX8_at 1 = .ok (.iload_n 1, 1) := tb_at tbX8_at_n20_ok 1 rfl
theorem dX8_at_2 : decode cX8_at 2 = .ok (.i2l, 1) := tb_at tbX8_at_n20_ok 2 rfl
theorem dX8_at_3 : decode cX8_at 3 = .ok (.invokevirtual 177, 3) := tb_at tbX8_at_n20_ok 3 rfl
theorem dX8_at_6 : decode cX8_at 6 = .ok (.astore_n 3, 1) := tb_at tbX8_at_n20_ok 4 rfl
theorem dX8_at_7 : decode cX8_at 7 = .ok (.aload_n 3, 1) := tb_at tbX8_at_n20_ok 5 rfl
theorem dX8_at_8 : decode cX8_at 8 = .ok (.ifnonnull 13, 3) := tb_at tbX8_at_n20_ok 6 rfl
theorem dX8_at_11 : decode cX8_at 11 = .ok (.new 181, 3) := tb_at tbX8_at_n20_ok 7 rfl
theorem dX8_at_14 : decode cX8_at 14 = .ok (.dup, 1) := tb_at tbX8_at_n20_ok 8 rfl
theorem dX8_at_15 : decode cX8_at 15 = .ok (.ldc 183, 2) := tb_at tbX8_at_n20_ok 9 rfl
theorem dX8_at_17 : decode cX8_at 17 = .ok (.invokespecial 185, 3) := tb_at tbX8_at_n20_ok 10 rfl
theorem dX8_at_20 : decode cX8_at 20 = .ok (.athrow, 1) := tb_at tbX8_at_n20_ok 11 rfl
theorem dX8_at_21 : decode cX8_at 21 = .ok (.aload_n 3, 1) := tb_at tbX8_at_n20_ok 12 rfl
theorem dX8_at_22 : decode cX8_at 22 = .ok (.getfield 97, 3) := tb_at tbX8_at_n20_ok 13 rfl
theorem dX8_at_25 : decode cX8_at 25 = .ok (.iload_n 2, 1) := tb_at tbX8_at_n20_ok 14 rfl
theorem dX8_at_26 : decode cX8_at 26 = .ok (.invokevirtual 104, 3) := tb_at tbX8_at_n20_ok 15 rfl
theorem dX8_at_29 : decode cX8_at 29 = .ok (.ifCond .ne 13, 3) := tb_at tbX8_at_n20_ok 16 rfl
theorem dX8_at_32 : decode cX8_at 32 = .ok (.new 188, 3) := tb_at tbX8_at_n20_ok 17 rfl
theorem dX8_at_35 : decode cX8_at 35 = .ok (.dup, 1) := tb_at tbX8_at_n20_ok 18 rfl
theorem dX8_at_36 : decode cX8_at 36 = .ok (.ldc 190, 2) := tb_at tbX8_at_n20_ok 19 rfl
theorem dX8_at_38 : decode cX8_at 38 = .ok (.invokespecial 192, 3) := tb_at tbX8_at_n20_ok 20 rfl
theorem dX8_at_41 : decode cX8_at 41 = .ok (.athrow, 1) := tb_at tbX8_at_n20_ok 21 rfl
theorem dX8_at_42 : decode cX8_at 42 = .ok (.aload_n 3, 1) := tb_at tbX8_at_n20_ok 22 rfl
theorem dX8_at_43 : decode cX8_at 43 = .ok (.getfield 97, 3) := tb_at tbX8_at_n20_ok 23 rfl
theorem dX8_at_46 : decode cX8_at 46 = .ok (.getfield 135, 3) := tb_at tbX8_at_n20_ok 24 rfl
theorem dX8_at_49 : decode cX8_at 49 = .ok (.iload_n 2, 1) := tb_at tbX8_at_n20_ok 25 rfl
theorem dX8_at_50 : decode cX8_at 50 = .ok (.iaload, 1) := tb_at tbX8_at_n20_ok 26 rfl
theorem dX8_at_51 : decode cX8_at 51 = .ok (.invokestatic 150, 3) := tb_at tbX8_at_n20_ok 27 rfl
theorem dX8_at_54 : decode cX8_at 54 = .ok (.ifCond .ne 10, 3) := tb_at tbX8_at_n20_ok 28 rfl
theorem dX8_at_57 : decode cX8_at 57 = .ok (.aload_n 3, 1) := tb_at tbX8_at_n20_ok 29 rfl
theorem dX8_at_58 : decode cX8_at 58 = .ok (.getfield 193, 3) := tb_at tbX8_at_n20_ok 30 rfl
theorem dX8_at_61 : decode cX8_at 61 = .ok (.iload_n 2, 1) := tb_at tbX8_at_n20_ok 31 rfl
theorem dX8_at_62 : decode cX8_at 62 = .ok (.laload, 1) := tb_at tbX8_at_n20_ok 32 rfl
theorem dX8_at_63 : decode cX8_at 63 = .ok (.lreturn, 1) := tb_at tbX8_at_n20_ok 33 rfl
theorem dX8_at_64 : decode cX8_at 64 = .ok (.aload_n 3, 1) := tb_at tbX8_at_n20_ok 34 rfl
theorem dX8_at_65 : decode cX8_at 65 = .ok (.getfield 158, 3) := tb_at tbX8_at_n20_ok 35 rfl
theorem dX8_at_68 : decode cX8_at 68 = .ok (.iload_n 2, 1) := tb_at tbX8_at_n20_ok 36 rfl
theorem dX8_at_69 : decode cX8_at 69 = .ok (.aaload, 1) := tb_at tbX8_at_n20_ok 37 rfl
theorem dX8_at_70 : decode cX8_at 70 = .ok (.astore 4, 2) := tb_at tbX8_at_n20_ok 38 rfl
theorem dX8_at_72 : decode cX8_at 72 = .ok (.aload 4, 2) := tb_at tbX8_at_n20_ok 39 rfl
theorem dX8_at_74 : decode cX8_at 74 = .ok (.ifnonnull 9, 3) := tb_at tbX8_at_n20_ok 40 rfl
theorem dX8_at_77 : decode cX8_at 77 = .ok (.ldc2_w 88, 3) := tb_at tbX8_at_n20_ok 41 rfl
theorem dX8_at_80 : decode cX8_at 80 = .ok (.goto 10, 3) := tb_at tbX8_at_n20_ok 42 rfl
theorem dX8_at_83 : decode cX8_at 83 = .ok (.aload 4, 2) := tb_at tbX8_at_n20_ok 43 rfl
theorem dX8_at_85 : decode cX8_at 85 = .ok (.getfield 161, 3) := tb_at tbX8_at_n20_ok 44 rfl
theorem dX8_at_88 : decode cX8_at 88 = .ok (.arraylength, 1) := tb_at tbX8_at_n20_ok 45 rfl
theorem dX8_at_89 : decode cX8_at 89 = .ok (.i2l, 1) := tb_at tbX8_at_n20_ok 46 rfl
theorem dX8_at_90 : decode cX8_at 90 = .ok (.lreturn, 1) := tb_at tbX8_at_n20_ok 47 rfl
set_option maxRecDepth 20000 in
theorem ggX8_itemAt_X8_thingNumbered : GoodIn wsX8_itemAt wsX8_thingNumbered := goodIn_r _ [15, 16, 17, 44, 45, 46, 47, 48, 49, 50, 51, 52, 53, 54, 55] (by decide +kernel) (by decide +kernel)
set_option maxRecDepth 20000 in
theorem gX8_itemAt_X8_thingNumbered : GoodIn wsX8_itemAt (wsV RX8 177 RX8 yX8_thingNumbered wsX8_thingNumbered) := goodIn_app (goodIn_of _ (by decide +kernel)) ggX8_itemAt_X8_thingNumbered
set_option maxRecDepth 20000 in
theorem ggX8_itemAt_X7_hasField : GoodIn wsX8_itemAt wsX7_hasField := goodIn_r _ [22, 23, 24, 14, 25, 34, 35, 36, 37, 38, 39, 40, 41] (by decide +kernel) (by decide +kernel)
set_option maxRecDepth 20000 in
theorem gX8_itemAt_X7_hasField : GoodIn wsX8_itemAt (wsV RX8 104 RX7 yX7_hasField wsX7_hasField) := goodIn_app (goodIn_of _ (by decide +kernel)) ggX8_itemAt_X7_hasField
set_option maxRecDepth 20000 in
theorem ggX8_itemAt_X8_isRowLane : GoodIn wsX8_itemAt wsX8_isRowLane := goodIn_r _ [28] (by decide +kernel) (by decide +kernel)
set_option maxRecDepth 20000 in
theorem gX8_itemAt_X8_isRowLane : GoodIn wsX8_itemAt (va_wsS RX8 150 yX8_isRowLane wsX8_isRowLane) := goodIn_app (goodIn_of _ (by decide +kernel)) ggX8_itemAt_X8_isRowLane
set_option maxRecDepth 20000 in
theorem ggX8_itemAt_X8_isBelow : GoodIn wsX8_itemAt wsX8_isBelow := goodIn_r _ [25] (by decide +kernel) (by decide +kernel)
set_option maxRecDepth 20000 in
theorem gX8_itemAt_X8_isBelow : GoodIn wsX8_itemAt (va_wsS RX8 74 yX8_isBelow wsX8_isBelow) := goodIn_app (goodIn_of _ (by decide +kernel)) ggX8_itemAt_X8_isBelow
noncomputable def tbX8_itemAt_n20 : List (Nat × Instr × Nat) := [(0, (.aload_n 0), 1), (1, (.iload_n 1), 1), (2, .i2l, 1), (3, (.invokevirtual 177), 3), (6, (.astore 4), 2), (8, (.aload 4), 2), (10, (.ifnonnull 13), 3), (13, (.new 181), 3), (16, .dup, 1), (17, (.ldc 183), 2), (19, (.invokespecial 185), 3), (22, .athrow, 1), (23, (.aload 4), 2), (25, (.getfield 97), 3), (28, (.iload_n 2), 1), (29, (.invokevirtual 104), 3), (32, (.ifCond .ne 13), 3), (35, (.new 188), 3), (38, .dup, 1), (39, (.ldc 190), 2), (41, (.invokespecial 192), 3), (44, .athrow, 1), (45, (.aload 4), 2), (47, (.getfield 97), 3), (50, (.getfield 135), 3), (53, (.iload_n 2), 1), (54, .iaload, 1), (55, (.invokestatic 150), 3), (58, (.ifCond .ne 13), 3), (61, (.new 196), 3), (64, .dup, 1), (65, (.ldc 198), 2), (67, (.invokespecial 200), 3), (70, .athrow, 1), (71, (.aload 4), 2), (73, (.getfield 158), 3), (76, (.iload_n 2), 1), (77, .aaload, 1), (78, (.astore 5), 2), (80, (.aload 5), 2), (82, (.ifnonnull 13), 3), (85, (.new 196), 3), (88, .dup, 1), (89, (.ldc 201), 2), (91, (.invokespecial 200), 3), (94, .athrow, 1), (95, (.iload_n 3), 1), (96, (.aload 5), 2), (98, (.getfield 161), 3), (101, .arraylength, 1), (102, (.invokestatic 74), 3), (105, (.ifCond .ne 13), 3), (108, (.new 188), 3), (111, .dup, 1), (112, (.ldc 203), 2), (114, (.invokespecial 192), 3), (117, .athrow, 1), (118, (.aload 5), 2), (120, (.getfield 161), 3), (123, (.iload_n 3), 1), (124, .laload, 1), (125, .lreturn, 1)]
theorem tbX8_itemAt_n20_ok : ∀ q ∈ tbX8_itemAt_n20, decode cX8_itemAt q.1 = .ok q.2 := by decide +kernel
theorem dX8_itemAt_0 : decode cX8_itemAt 0 = .ok (.aload_n 0, 1) := tb_at tbX8_itemAt_n20_ok 0 rfl
theorem dX8_itemAt_1 : decode cX8_itemAt 1 = .ok (.iload_n 1, 1) := tb_at tbX8_itemAt_n20_ok 1 rfl
theorem dX8_itemAt_2 : decode cX8_itemAt 2 = .ok (.i2l, 1) := tb_at tbX8_itemAt_n20_ok 2 rfl
theorem dX8_itemAt_3 : decode cX8_itemAt 3 = .ok (.invokevirtual 177, 3) := tb_at tbX8_itemAt_n20_ok 3 rfl
theorem dX8_itemAt_6 : decode cX8_itemAt 6 = .ok (.astore 4, 2) := tb_at tbX8_itemAt_n20_ok 4 rfl
theorem dX8_itemAt_8 : decode cX8_itemAt 8 = .ok (.aload 4, 2) := tb_at tbX8_itemAt_n20_ok 5 rfl
theorem dX8_itemAt_10 : decode cX8_itemAt 10 = .ok (.ifnonnull 13, 3) := tb_at tbX8_itemAt_n20_ok 6 rfl
theorem dX8_itemAt_13 : decode cX8_itemAt 13 = .ok (.new 181, 3) := tb_at tbX8_itemAt_n20_ok 7 rfl
theorem dX8_itemAt_16 : decode cX8_itemAt 16 = .ok (.dup, 1) := tb_at tbX8_itemAt_n20_ok 8 rfl
theorem dX8_itemAt_17 : decode cX8_itemAt 17 = .ok (.ldc 183, 2) := tb_at tbX8_itemAt_n20_ok 9 rfl
theorem dX8_itemAt_19 : decode cX8_itemAt 19 = .ok (.invokespecial 185, 3) := tb_at tbX8_itemAt_n20_ok 10 rfl
theorem dX8_itemAt_22 : decode cX8_itemAt 22 = .ok (.athrow, 1) := tb_at tbX8_itemAt_n20_ok 11 rfl
theorem dX8_itemAt_23 : decode cX8_itemAt 23 = .ok (.aload 4, 2) := tb_at tbX8_itemAt_n20_ok 12 rfl
theorem dX8_itemAt_25 : decode cX8_itemAt 25 = .ok (.getfield 97, 3) := tb_at tbX8_itemAt_n20_ok 13 rfl
theorem dX8_itemAt_28 : decode cX8_itemAt 28 = .ok (.iload_n 2, 1) := tb_at tbX8_itemAt_n20_ok 14 rfl
theorem dX8_itemAt_29 : decode cX8_itemAt 29 = .ok (.invokevirtual 104, 3) := tb_at tbX8_itemAt_n20_ok 15 rfl
theorem dX8_itemAt_32 : decode cX8_itemAt 32 = .ok (.ifCond .ne 13, 3) := tb_at tbX8_itemAt_n20_ok 16 rfl
theorem dX8_itemAt_35 : decode cX8_itemAt 35 = .ok (.new 188, 3) := tb_at tbX8_itemAt_n20_ok 17 rfl
theorem dX8_itemAt_38 : decode cX8_itemAt 38 = .ok (.dup, 1) := tb_at tbX8_itemAt_n20_ok 18 rfl
theorem dX8_itemAt_39 : decode cX8_itemAt 39 = .ok (.ldc 190, 2) := tb_at tbX8_itemAt_n20_ok 19 rfl
theorem dX8_itemAt_41 : decode cX8_itemAt 41 = .ok (.invokespecial 192, 3) := tb_at tbX8_itemAt_n20_ok 20 rfl
theorem dX8_itemAt_44 : decode cX8_itemAt 44 = .ok (.athrow, 1) := tb_at tbX8_itemAt_n20_ok 21 rfl
theorem dX8_itemAt_45 : decode cX8_itemAt 45 = .ok (.aload 4, 2) := tb_at tbX8_itemAt_n20_ok 22 rfl
theorem dX8_itemAt_47 : decode cX8_itemAt 47 = .ok (.getfield 97, 3) := tb_at tbX8_itemAt_n20_ok 23 rfl
theorem dX8_itemAt_50 : decode cX8_itemAt 50 = .ok (.getfield 135, 3) := tb_at tbX8_itemAt_n20_ok 24 rfl
theorem dX8_itemAt_53 : decode cX8_itemAt 53 = .ok (.iload_n 2, 1) := tb_at tbX8_itemAt_n20_ok 25 rfl
theorem dX8_itemAt_54 : decode cX8_itemAt 54 = .ok (.iaload, 1) := tb_at tbX8_itemAt_n20_ok 26 rfl
theorem dX8_itemAt_55 : decode cX8_itemAt 55 = .ok (.invokestatic 150, 3) := tb_at tbX8_itemAt_n20_ok 27 rfl
theorem dX8_itemAt_58 : decode cX8_itemAt 58 = .ok (.ifCond .ne 13, 3) := tb_at tbX8_itemAt_n20_ok 28 rfl
theorem dX8_itemAt_61 : decode cX8_itemAt 61 = .ok (.new 196, 3) := tb_at tbX8_itemAt_n20_ok 29 rfl
theorem dX8_itemAt_64 : decode cX8_itemAt 64 = .ok (.dup, 1) := tb_at tbX8_itemAt_n20_ok 30 rfl
theorem dX8_itemAt_65 : decode cX8_itemAt 65 = .ok (.ldc 198, 2) := tb_at tbX8_itemAt_n20_ok 31 rfl
theorem dX8_itemAt_67 : decode cX8_itemAt 67 = .ok (.invokespecial 200, 3) := tb_at tbX8_itemAt_n20_ok 32 rfl
theorem dX8_itemAt_70 : decode cX8_itemAt 70 = .ok (.athrow, 1) := tb_at tbX8_itemAt_n20_ok 33 rfl
theorem dX8_itemAt_71 : decode cX8_itemAt 71 = .ok (.aload 4, 2) := tb_at tbX8_itemAt_n20_ok 34 rfl
theorem dX8_itemAt_73 : decode cX8_itemAt 73 = .ok (.getfield 158, 3) := tb_at tbX8_itemAt_n20_ok 35 rfl
theorem dX8_itemAt_76 : decode cX8_itemAt 76 = .ok (.iload_n 2, 1) := tb_at tbX8_itemAt_n20_ok 36 rfl
theorem dX8_itemAt_77 : decode cX8_itemAt 77 = .ok (.aaload, 1) := tb_at tbX8_itemAt_n20_ok 37 rfl
theorem dX8_itemAt_78 : decode cX8_itemAt 78 = .ok (.astore 5, 2) := tb_at tbX8_itemAt_n20_ok 38 rfl
theorem dX8_itemAt_80 : decode cX8_itemAt 80 = .ok (.aload 5, 2) := tb_at tbX8_itemAt_n20_ok 39 rfl
theorem dX8_itemAt_82 : decode cX8_itemAt 82 = .ok (.ifnonnull 13, 3) := tb_at tbX8_itemAt_n20_ok 40 rfl
theorem dX8_itemAt_85 : decode cX8_itemAt 85 = .ok (.new 196, 3) := tb_at tbX8_itemAt_n20_ok 41 rfl
theorem dX8_itemAt_88 : decode cX8_itemAt 88 = .ok (.dup, 1) := tb_at tbX8_itemAt_n20_ok 42 rfl
theorem dX8_itemAt_89 : decode cX8_itemAt 89 = .ok (.ldc 201, 2) := tb_at tbX8_itemAt_n20_ok 43 rfl
theorem dX8_itemAt_91 : decode cX8_itemAt 91 = .ok (.invokespecial 200, 3) := tb_at tbX8_itemAt_n20_ok 44 rfl
theorem dX8_itemAt_94 : decode cX8_itemAt 94 = .ok (.athrow, 1) := tb_at tbX8_itemAt_n20_ok 45 rfl
theorem dX8_itemAt_95 : decode cX8_itemAt 95 = .ok (.iload_n 3, 1) := tb_at tbX8_itemAt_n20_ok 46 rfl
theorem dX8_itemAt_96 : decode cX8_itemAt 96 = .ok (.aload 5, 2) := tb_at tbX8_itemAt_n20_ok 47 rfl
theorem dX8_itemAt_98 : decode cX8_itemAt 98 = .ok (.getfield 161, 3) := tb_at tbX8_itemAt_n20_ok 48 rfl
theorem dX8_itemAt_101 : decode cX8_itemAt 101 = .ok (.arraylength, 1) := tb_at tbX8_itemAt_n20_ok 49 rfl
theorem dX8_itemAt_102 : decode cX8_itemAt 102 = .ok (.invokestatic 74, 3) := tb_at tbX8_itemAt_n20_ok 50 rfl
theorem dX8_itemAt_105 : decode cX8_itemAt 105 = .ok (.ifCond .ne 13, 3) := tb_at tbX8_itemAt_n20_ok 51 rfl
theorem dX8_itemAt_108 : decode cX8_itemAt 108 = .ok (.new 188, 3) := tb_at tbX8_itemAt_n20_ok 52 rfl
theorem dX8_itemAt_111 : decode cX8_itemAt 111 = .ok (.dup, 1) := tb_at tbX8_itemAt_n20_ok 53 rfl
theorem dX8_itemAt_112 : decode cX8_itemAt 112 = .ok (.ldc 203, 2) := tb_at tbX8_itemAt_n20_ok 54 rfl
theorem dX8_itemAt_114 : decode cX8_itemAt 114 = .ok (.invokespecial 192, 3) := tb_at tbX8_itemAt_n20_ok 55 rfl
theorem dX8_itemAt_117 : decode cX8_itemAt 117 = .ok (.athrow, 1) := tb_at tbX8_itemAt_n20_ok 56 rfl
theorem dX8_itemAt_118 : decode cX8_itemAt 118 = .ok (.aload 5, 2) := tb_at tbX8_itemAt_n20_ok 57 rfl
theorem dX8_itemAt_120 : decode cX8_itemAt 120 = .ok (.getfield 161, 3) := tb_at tbX8_itemAt_n20_ok 58 rfl
theorem dX8_itemAt_123 : decode cX8_itemAt 123 = .ok (.iload_n 3, 1) := tb_at tbX8_itemAt_n20_ok 59 rfl
theorem dX8_itemAt_124 : decode cX8_itemAt 124 = .ok (.laload, 1) := tb_at tbX8_itemAt_n20_ok 60 rfl
theorem dX8_itemAt_125 : decode cX8_itemAt 125 = .ok (.lreturn, 1) := tb_at tbX8_itemAt_n20_ok 61 rfl
noncomputable def tbX8_forget_n20 : List (Nat × Instr × Nat) := [(0, (.aload_n 0), 1), (1, (.getfield 51), 3), (4, (.getfield 82), 3), (7, (.ifCond .le 6), 3), (10, (.bipush (-3)), 2), (12, .ireturn, 1), (13, (.aload_n 0), 1), (14, (.getfield 94), 3), (17, (.istore_n 1), 1), (18, (.aload_n 0), 1), (19, (.iconst 0), 1), (20, (.putfield 94), 3), (23, (.iload_n 1), 1), (24, .ireturn, 1)]
theorem tbX8_forget_n20_ok : ∀ q ∈ tbX8_forget_n20, decode cX8_forget q.1 = .ok q.2 := by decide +kernel
theorem dX8_forget_0 : decode cX8_forget 0 = .ok (.aload_n 0, 1) := tb_at tbX8_forget_n20_ok 0 rfl
theorem dX8_forget_1 : decode cX8_forget 1 = .ok (.getfield 51, 3) := tb_at tbX8_forget_n20_ok 1 rfl
theorem dX8_forget_4 : decode cX8_forget 4 = .ok (.getfield 82, 3) := tb_at tbX8_forget_n20_ok 2 rfl
theorem dX8_forget_7 : decode cX8_forget 7 = .ok (.ifCond .le 6, 3) := tb_at tbX8_forget_n20_ok 3 rfl
theorem dX8_forget_10 : decode cX8_forget 10 = .ok (.bipush (-3), 2) := tb_at tbX8_forget_n20_ok 4 rfl
theorem dX8_forget_12 : decode cX8_forget 12 = .ok (.ireturn, 1) := tb_at tbX8_forget_n20_ok 5 rfl
theorem dX8_forget_13 : decode cX8_forget 13 = .ok (.aload_n 0, 1) := tb_at tbX8_forget_n20_ok 6 rfl
theorem dX8_forget_14 : decode cX8_forget 14 = .ok (.getfield 94, 3) := tb_at tbX8_forget_n20_ok 7 rfl
theorem dX8_forget_17 : decode cX8_forget 17 = .ok (.istore_n 1, 1) := tb_at tbX8_forget_n20_ok 8 rfl
theorem dX8_forget_18 : decode cX8_forget 18 = .ok (.aload_n 0, 1) := tb_at tbX8_forget_n20_ok 9 rfl
theorem dX8_forget_19 : decode cX8_forget 19 = .ok (.iconst 0, 1) := tb_at tbX8_forget_n20_ok 10 rfl
theorem dX8_forget_20 : decode cX8_forget 20 = .ok (.putfield 94, 3) := tb_at tbX8_forget_n20_ok 11 rfl
theorem dX8_forget_23 : decode cX8_forget 23 = .ok (.iload_n 1, 1) := tb_at tbX8_forget_n20_ok 12 rfl
theorem dX8_forget_24 : decode cX8_forget 24 = .ok (.ireturn, 1) := tb_at tbX8_forget_n20_ok 13 rfl
set_option maxRecDepth 20000 in
theorem ggX8_told_X8_thingNumbered : GoodIn wsX8_told wsX8_thingNumbered := goodIn_r _ [8, 9, 10, 23, 24, 25, 26, 27, 28, 29, 30, 31, 32, 33, 34] (by decide +kernel) (by decide +kernel)
set_option maxRecDepth 20000 in
theorem gX8_told_X8_thingNumbered : GoodIn wsX8_told (wsV RX8 177 RX8 yX8_thingNumbered wsX8_thingNumbered) := goodIn_app (goodIn_of _ (by decide +kernel)) ggX8_told_X8_thingNumbered
noncomputable def tbX8_told_n20 : List (Nat × Instr × Nat) := [(0, (.aload_n 0), 1), (1, (.iload_n 1), 1), (2, .i2l, 1), (3, (.invokevirtual 177), 3), (6, (.astore_n 3), 1), (7, (.aload_n 3), 1), (8, (.ifnonnull 5), 3), (11, (.iconst (-1)), 1), (12, .ireturn, 1), (13, (.iload_n 2), 1), (14, (.lookupswitch 42 #[(0, 26), (1, 34)]), 26), (40, (.aload_n 3), 1), (41, (.getfield 97), 3), (44, (.getfield 205), 3), (47, .ireturn, 1), (48, (.aload_n 3), 1), (49, (.getfield 97), 3), (52, (.getfield 85), 3), (55, .ireturn, 1), (56, (.bipush (-2)), 2), (58, .ireturn, 1)]
theorem tbX8_told_n20_ok : ∀ q ∈ tbX8_told_n20, decode cX8_told q.1 = .ok q.2 := by decide +kernel
theorem dX8_told_0 : decode cX8_told 0 = .ok (.aload_n 0, 1) := tb_at tbX8_told_n20_ok 0 rfl
theorem dX8_told_1 : decode cX8_told 1 = .ok (.iload_n 1, 1) := tb_at tbX8_told_n20_ok 1 rfl
theorem dX8_told_2 : decode cX8_told 2 = .ok (.i2l, 1) := tb_at tbX8_told_n20_ok 2 rfl
theorem dX8_told_3 : decode cX8_told 3 = .ok (.invokevirtual 177, 3) := tb_at tbX8_told_n20_ok 3 rfl
theorem dX8_told_6 : decode cX8_told 6 = .ok (.astore_n 3, 1) := tb_at tbX8_told_n20_ok 4 rfl
theorem dX8_told_7 : decode cX8_told 7 = .ok (.aload_n 3, 1) := tb_at tbX8_told_n20_ok 5 rfl
theorem dX8_told_8 : decode cX8_told 8 = .ok (.ifnonnull 5, 3) := tb_at tbX8_told_n20_ok 6 rfl
theorem dX8_told_11 : decode cX8_told 11 = .ok (.iconst (-1), 1) := tb_at tbX8_told_n20_ok 7 rfl
theorem dX8_told_12 : decode cX8_told 12 = .ok (.ireturn, 1) := tb_at tbX8_told_n20_ok 8 rfl
theorem dX8_told_13 : decode cX8_told 13 = .ok (.iload_n 2, 1) := tb_at tbX8_told_n20_ok 9 rfl
theorem dX8_told_14 : decode cX8_told 14 = .ok (.lookupswitch 42 #[(0, 26), (1, 34)], 26) := tb_at tbX8_told_n20_ok 10 rfl
theorem dX8_told_40 : decode cX8_told 40 = .ok (.aload_n 3, 1) := tb_at tbX8_told_n20_ok 11 rfl
theorem dX8_told_41 : decode cX8_told 41 = .ok (.getfield 97, 3) := tb_at tbX8_told_n20_ok 12 rfl
theorem dX8_told_44 : decode cX8_told 44 = .ok (.getfield 205, 3) := tb_at tbX8_told_n20_ok 13 rfl
theorem dX8_told_47 : decode cX8_told 47 = .ok (.ireturn, 1) := tb_at tbX8_told_n20_ok 14 rfl
theorem dX8_told_48 : decode cX8_told 48 = .ok (.aload_n 3, 1) := tb_at tbX8_told_n20_ok 15 rfl
theorem dX8_told_49 : decode cX8_told 49 = .ok (.getfield 97, 3) := tb_at tbX8_told_n20_ok 16 rfl
theorem dX8_told_52 : decode cX8_told 52 = .ok (.getfield 85, 3) := tb_at tbX8_told_n20_ok 17 rfl
theorem dX8_told_55 : decode cX8_told 55 = .ok (.ireturn, 1) := tb_at tbX8_told_n20_ok 18 rfl
theorem dX8_told_56 : decode cX8_told 56 = .ok (.bipush (-2), 2) := tb_at tbX8_told_n20_ok 19 rfl
theorem dX8_told_58 : decode cX8_told 58 = .ok (.ireturn, 1) := tb_at tbX8_told_n20_ok 20 rfl
set_option maxRecDepth 20000 in
theorem ggX8_judge_X8_thingNumbered : GoodIn wsX8_judge wsX8_thingNumbered := goodIn_r _ [7, 8, 9, 88, 89, 90, 91, 92, 93, 94, 95, 96, 97, 98, 99] (by decide +kernel) (by decide +kernel)
set_option maxRecDepth 20000 in
theorem gX8_judge_X8_thingNumbered : GoodIn wsX8_judge (wsV RX8 177 RX8 yX8_thingNumbered wsX8_thingNumbered) := goodIn_app (goodIn_of _ (by decide +kernel)) ggX8_judge_X8_thingNumbered
set_option maxRecDepth 20000 in
theorem ggX8_judge_X8_firstFailingCheck : GoodIn wsX8_judge wsX8_firstFailingCheck := goodIn_r _ [13, 1, 14, 2, 15, 16, 17, 6, 18, 19, 20, 21, 22, 23, 24, 25, 26, 27, 28, 29, 30, 31, 32, 33, 34, 35, 36, 37, 38, 39, 40, 41, 42, 43, 44, 3, 4, 5, 7, 8, 9, 45, 46, 47, 48, 49, 50, 51, 52, 53, 54, 55, 56, 57, 58, 59, 60, 61, 62, 63, 64, 65, 66, 67, 68, 69, 70, 71, 72, 76, 77, 78, 79, 80, 81, 82, 83, 84, 85, 86, 87, 100, 101, 102, 103, 88, 89, 90, 91, 92, 93, 94, 95, 96, 97, 98, 99, 104, 105] (by decide +kernel) (by decide +kernel)
set_option maxRecDepth 20000 in
theorem gX8_judge_X8_firstFailingCheck : GoodIn wsX8_judge (wsV RX8 208 RX8 yX8_firstFailingCheck wsX8_firstFailingCheck) := goodIn_app (goodIn_of _ (by decide +kernel)) ggX8_judge_X8_firstFailingCheck
set_option maxRecDepth 20000 in
theorem ggX8_judge_X8_failureOf : GoodIn wsX8_judge wsX8_failureOf := goodIn_r _ [18, 19, 20, 21, 6, 22, 1, 23, 24, 25, 26, 27, 28, 29, 30, 31, 32, 33, 34, 35, 36, 37, 38, 39, 40, 41, 42, 43, 44, 3, 4, 5, 7, 8, 9, 45, 46, 47, 48, 49, 50, 51, 52, 53, 54, 55, 56, 57, 58, 59, 60, 61, 62, 63, 64, 65, 66, 67, 68, 69, 70, 71, 72, 100, 101, 102, 103, 76, 77, 78, 79, 80, 81, 82, 83, 84, 85, 86, 87, 88, 89, 90, 91, 92, 93, 94, 95, 96, 97, 98, 99, 104, 105] (by decide +kernel) (by decide +kernel)
set_option maxRecDepth 20000 in
theorem gX8_judge_X8_failureOf : GoodIn wsX8_judge (wsV RX8 212 RX8 yX8_failureOf wsX8_failureOf) := goodIn_app (goodIn_of _ (by decide +kernel)) ggX8_judge_X8_failureOf
set_option maxRecDepth 20000 in
theorem ggX8_judge_X8_failed : GoodIn wsX8_judge wsX8_failed := goodIn_r _ [75] (by decide +kernel) (by decide +kernel)
set_option maxRecDepth 20000 in
theorem gX8_judge_X8_failed : GoodIn wsX8_judge (va_wsS RX8 139 yX8_failed wsX8_failed) := goodIn_app (goodIn_of _ (by decide +kernel)) ggX8_judge_X8_failed
noncomputable def tbX8_judge_n20 : List (Nat × Instr × Nat) := [(0, (.aload_n 0), 1), (1, (.iload_n 1), 1), (2, .i2l, 1), (3, (.invokevirtual 177), 3), (6, (.astore_n 2), 1), (7, (.aload_n 2), 1), (8, (.ifnonnull 5), 3), (11, (.iconst (-1)), 1), (12, .ireturn, 1), (13, (.aload_n 0), 1), (14, (.aload_n 2), 1), (15, (.invokevirtual 208), 3), (18, (.istore_n 3), 1), (19, (.iload_n 3), 1), (20, (.iconst (-1)), 1), (21, (.if_icmp .ne 7), 3), (24, (.iconst 1), 1), (25, (.goto 20), 3), (28, (.aload_n 0), 1), (29, (.aload_n 2), 1), (30, (.aload_n 2), 1), (31, (.getfield 97), 3), (34, (.getfield 118), 3), (37, (.iload_n 3), 1), (38, .aaload, 1), (39, (.invokevirtual 212), 3), (42, (.invokestatic 139), 3), (45, .ireturn, 1)]
theorem tbX8_judge_n20_ok : ∀ q ∈ tbX8_judge_n20, decode cX8_judge q.1 = .ok q.2 := by decide +kernel
theorem dX8_judge_0 : decode cX8_judge 0 = .ok (.aload_n 0, 1) := tb_at tbX8_judge_n20_ok 0 rfl
theorem dX8_judge_1 : decode cX8_judge 1 = .ok (.iload_n 1, 1) := tb_at tbX8_judge_n20_ok 1 rfl
theorem dX8_judge_2 : decode cX8_judge 2 = .ok (.i2l, 1) := tb_at tbX8_judge_n20_ok 2 rfl
theorem dX8_judge_3 : decode cX8_judge 3 = .ok (.invokevirtual 177, 3) := tb_at tbX8_judge_n20_ok 3 rfl
theorem dX8_judge_6 : decode cX8_judge 6 = .ok (.astore_n 2, 1) := tb_at tbX8_judge_n20_ok 4 rfl
theorem dX8_judge_7 : decode cX8_judge 7 = .ok (.aload_n 2, 1) := tb_at tbX8_judge_n20_ok 5 rfl
theorem dX8_judge_8 : decode cX8_judge 8 = .ok (.ifnonnull 5, 3) := tb_at tbX8_judge_n20_ok 6 rfl
theorem dX8_judge_11 : decode cX8_judge 11 = .ok (.iconst (-1), 1) := tb_at tbX8_judge_n20_ok 7 rfl
theorem dX8_judge_12 : decode cX8_judge 12 = .ok (.ireturn, 1) := tb_at tbX8_judge_n20_ok 8 rfl
theorem dX8_judge_13 : decode cX8_judge 13 = .ok (.aload_n 0, 1) := tb_at tbX8_judge_n20_ok 9 rfl
theorem dX8_judge_14 : decode cX8_judge 14 = .ok (.aload_n 2, 1) := tb_at tbX8_judge_n20_ok 10 rfl
theorem dX8_judge_15 : decode cX8_judge 15 = .ok (.invokevirtual 208, 3) := tb_at tbX8_judge_n20_ok 11 rfl
theorem dX8_judge_18 : decode cX8_judge 18 = .ok (.istore_n 3, 1) := tb_at tbX8_judge_n20_ok 12 rfl
theorem dX8_judge_19 : decode cX8_judge 19 = .ok (.iload_n 3, 1) := tb_at tbX8_judge_n20_ok 13 rfl
theorem dX8_judge_20 : decode cX8_judge 20 = .ok (.iconst (-1), 1) := tb_at tbX8_judge_n20_ok 14 rfl
theorem dX8_judge_21 : decode cX8_judge 21 = .ok (.if_icmp .ne 7, 3) := tb_at tbX8_judge_n20_ok 15 rfl
theorem dX8_judge_24 : decode cX8_judge 24 = .ok (.iconst 1, 1) := tb_at tbX8_judge_n20_ok 16 rfl
theorem dX8_judge_25 : decode cX8_judge 25 = .ok (.goto 20, 3) := tb_at tbX8_judge_n20_ok 17 rfl
theorem dX8_judge_28 : decode cX8_judge 28 = .ok (.aload_n 0, 1) := tb_at tbX8_judge_n20_ok 18 rfl
theorem dX8_judge_29 : decode cX8_judge 29 = .ok (.aload_n 2, 1) := tb_at tbX8_judge_n20_ok 19 rfl
theorem dX8_judge_30 : decode cX8_judge 30 = .ok (.aload_n 2, 1) := tb_at tbX8_judge_n20_ok 20 rfl
theorem dX8_judge_31 : decode cX8_judge 31 = .ok (.getfield 97, 3) := tb_at tbX8_judge_n20_ok 21 rfl
theorem dX8_judge_34 : decode cX8_judge 34 = .ok (.getfield 118, 3) := tb_at tbX8_judge_n20_ok 22 rfl
theorem dX8_judge_37 : decode cX8_judge 37 = .ok (.iload_n 3, 1) := tb_at tbX8_judge_n20_ok 23 rfl
theorem dX8_judge_38 : decode cX8_judge 38 = .ok (.aaload, 1) := tb_at tbX8_judge_n20_ok 24 rfl
theorem dX8_judge_39 : decode cX8_judge 39 = .ok (.invokevirtual 212, 3) := tb_at tbX8_judge_n20_ok 25 rfl
theorem dX8_judge_42 : decode cX8_judge 42 = .ok (.invokestatic 139, 3) := tb_at tbX8_judge_n20_ok 26 rfl
theorem dX8_judge_45 : decode cX8_judge 45 = .ok (.ireturn, 1) := tb_at tbX8_judge_n20_ok 27 rfl
set_option maxRecDepth 20000 in
theorem ggX8_save_X8_thingNumbered : GoodIn wsX8_save wsX8_thingNumbered := goodIn_r _ [10, 11, 12, 91, 92, 93, 94, 95, 96, 97, 98, 99, 100, 101, 102] (by decide +kernel) (by decide +kernel)
set_option maxRecDepth 20000 in
theorem gX8_save_X8_thingNumbered : GoodIn wsX8_save (wsV RX8 177 RX8 yX8_thingNumbered wsX8_thingNumbered) := goodIn_app (goodIn_of _ (by decide +kernel)) ggX8_save_X8_thingNumbered
set_option maxRecDepth 20000 in
theorem ggX8_save_X8_isBelow : GoodIn wsX8_save wsX8_isBelow := goodIn_r _ [15] (by decide +kernel) (by decide +kernel)
set_option maxRecDepth 20000 in
theorem gX8_save_X8_isBelow : GoodIn wsX8_save (va_wsS RX8 74 yX8_isBelow wsX8_isBelow) := goodIn_app (goodIn_of _ (by decide +kernel)) ggX8_save_X8_isBelow
set_option maxRecDepth 20000 in
theorem ggX8_save_X8_recordFrom : GoodIn wsX8_save wsX8_recordFrom := goodIn_r _ [19, 5, 20, 21, 22, 23, 24, 9, 25, 11, 12, 26, 27, 28, 29, 30, 31, 32, 33, 34, 35, 36, 37, 38, 39, 40, 41, 42, 43, 44, 45, 46, 47, 48, 49, 3, 50, 51, 52, 53, 54, 55, 56, 57, 58, 59, 60, 61, 62, 63, 64, 65, 66, 67, 68, 69, 70, 71, 72, 73, 6, 7, 8, 10, 103, 104, 105, 106, 107, 108, 109, 110, 111, 91, 92, 93, 94, 95, 96, 97, 98, 99, 100, 101, 102, 112, 113, 114, 115, 116, 117, 118, 119, 120, 121, 122, 123, 124, 125] (by decide +kernel) (by decide +kernel)
set_option maxRecDepth 20000 in
theorem gX8_save_X8_recordFrom : GoodIn wsX8_save (wsV RX8 216 RX8 yX8_recordFrom wsX8_recordFrom) := goodIn_app (goodIn_of _ (by decide +kernel)) ggX8_save_X8_recordFrom
set_option maxRecDepth 20000 in
theorem ggX8_save_X8_firstShutSlot : GoodIn wsX8_save wsX8_firstShutSlot := goodIn_r _ [77, 5, 21, 42, 45, 78, 103, 104, 105, 106, 107, 108, 109, 110, 111, 91, 92, 93, 94, 95, 96, 97, 98, 99, 100, 101, 102, 112, 113, 114, 115, 116, 117, 118, 119, 120, 121, 122, 123] (by decide +kernel) (by decide +kernel)
set_option maxRecDepth 20000 in
theorem gX8_save_X8_firstShutSlot : GoodIn wsX8_save (wsV RX8 220 RX8 yX8_firstShutSlot wsX8_firstShutSlot) := goodIn_app (goodIn_of _ (by decide +kernel)) ggX8_save_X8_firstShutSlot
set_option maxRecDepth 20000 in
theorem ggX8_save_X1_tell : GoodIn wsX8_save wsX1_tell := goodIn_r _ [83, 84, 85, 86, 87, 126, 127, 128, 129] (by decide +kernel) (by decide +kernel)
set_option maxRecDepth 20000 in
theorem gX8_save_X1_tell : GoodIn wsX8_save (wsV RX8 227 RX1 yX1_tell wsX1_tell) := goodIn_app (goodIn_of _ (by decide +kernel)) ggX8_save_X1_tell
set_option maxRecDepth 20000 in
theorem ggX8_save_X8_failed : GoodIn wsX8_save wsX8_failed := goodIn_r _ [90] (by decide +kernel) (by decide +kernel)
set_option maxRecDepth 20000 in
theorem gX8_save_X8_failed : GoodIn wsX8_save (va_wsS RX8 139 yX8_failed wsX8_failed) := goodIn_app (goodIn_of _ (by decide +kernel)) ggX8_save_X8_failed
noncomputable def tbX8_save_n20 : List (Nat × Instr × Nat) := [(0, (.aload_n 0), 1), (1, (.iload_n 2), 1), (2, .i2l, 1), (3, (.invokevirtual 177), 3), (6, (.astore_n 3), 1), (7, (.iload_n 1), 1), (8, (.iconst 4), 1), (9, (.invokestatic 74), 3), (12, (.ifCond .eq 7), 3), (15, (.aload_n 3), 1), (16, (.ifnonnull 5), 3), (19, (.iconst (-1)), 1), (20, .ireturn, 1), (21, (.aload_n 0), 1), (22, (.aload_n 3), 1), (23, (.aload_n 0), 1), (24, (.getfield 32), 3), (27, (.invokevirtual 216), 3), (30, (.aload_n 0), 1), (31, (.aload_n 0), 1), (32, (.getfield 32), 3), (35, (.invokevirtual 220), 3), (38, (.istore 4), 2), (40, (.iload 4), 2), (42, (.iconst (-1)), 1), (43, (.if_icmp .eq 31), 3), (46, (.aload_n 0), 1), (47, (.getfield 58), 3), (50, (.iload 4), 2), (52, (.iconst 5), 1), (53, .idiv, 1), (54, (.aload_n 0), 1), (55, (.getfield 32), 3), (58, (.getfield 224), 3), (61, (.iload 4), 2), (63, .iaload, 1), (64, (.iconst (-1)), 1), (65, (.invokevirtual 227), 3), (68, (.bipush 10), 2), (70, (.invokestatic 139), 3), (73, .ireturn, 1), (74, (.aload_n 0), 1), (75, (.getfield 27), 3), (78, (.iload_n 1), 1), (79, .aaload, 1), (80, (.astore 5), 2), (82, (.aload_n 0), 1), (83, (.getfield 27), 3), (86, (.iload_n 1), 1), (87, (.aload_n 0), 1), (88, (.getfield 32), 3), (91, .aastore, 1), (92, (.aload_n 0), 1), (93, (.aload 5), 2), (95, (.putfield 32), 3), (98, (.aload_n 0), 1), (99, (.getfield 27), 3), (102, (.iload_n 1), 1), (103, .aaload, 1), (104, (.getfield 231), 3), (107, .ireturn, 1)]
theorem tbX8_save_n20_ok : ∀ q ∈ tbX8_save_n20, decode cX8_save q.1 = .ok q.2 := by decide +kernel
theorem dX8_save_0 : decode cX8_save 0 = .ok (.aload_n 0, 1) := tb_at tbX8_save_n20_ok 0 rfl
theorem dX8_save_1 : decode cX8_save 1 = .ok (.iload_n 2, 1) := tb_at tbX8_save_n20_ok 1 rfl
theorem dX8_save_2 : decode cX8_save 2 = .ok (.i2l, 1) := tb_at tbX8_save_n20_ok 2 rfl
theorem dX8_save_3 : decode cX8_save 3 = .ok (.invokevirtual 177, 3) := tb_at tbX8_save_n20_ok 3 rfl
theorem dX8_save_6 : decode cX8_save 6 = .ok (.astore_n 3, 1) := tb_at tbX8_save_n20_ok 4 rfl
theorem dX8_save_7 : decode cX8_save 7 = .ok (.iload_n 1, 1) := tb_at tbX8_save_n20_ok 5 rfl
theorem dX8_save_8 : decode cX8_save 8 = .ok (.iconst 4, 1) := tb_at tbX8_save_n20_ok 6 rfl
theorem dX8_save_9 : decode cX8_save 9 = .ok (.invokestatic 74, 3) := tb_at tbX8_save_n20_ok 7 rfl
theorem dX8_save_12 : decode cX8_save 12 = .ok (.ifCond .eq 7, 3) := tb_at tbX8_save_n20_ok 8 rfl
theorem dX8_save_15 : decode cX8_save 15 = .ok (.aload_n 3, 1) := tb_at tbX8_save_n20_ok 9 rfl
theorem dX8_save_16 : decode cX8_save 16 = .ok (.ifnonnull 5, 3) := tb_at tbX8_save_n20_ok 10 rfl
theorem dX8_save_19 : decode cX8_save 19 = .ok (.iconst (-1), 1) := tb_at tbX8_save_n20_ok 11 rfl
theorem dX8_save_20 : decode cX8_save 20 = .ok (.ireturn, 1) := tb_at tbX8_save_n20_ok 12 rfl
theorem dX8_save_21 : decode cX8_save 21 = .ok (.aload_n 0, 1) := tb_at tbX8_save_n20_ok 13 rfl
theorem dX8_save_22 : decode cX8_save 22 = .ok (.aload_n 3, 1) := tb_at tbX8_save_n20_ok 14 rfl
theorem dX8_save_23 : decode cX8_save 23 = .ok (.aload_n 0, 1) := tb_at tbX8_save_n20_ok 15 rfl
theorem dX8_save_24 : decode cX8_save 24 = .ok (.getfield 32, 3) := tb_at tbX8_save_n20_ok 16 rfl
theorem dX8_save_27 : decode cX8_save 27 = .ok (.invokevirtual 216, 3) := tb_at tbX8_save_n20_ok 17 rfl
theorem dX8_save_30 : decode cX8_save 30 = .ok (.aload_n 0, 1) := tb_at tbX8_save_n20_ok 18 rfl
theorem dX8_save_31 : decode cX8_save 31 = .ok (.aload_n 0, 1) := tb_at tbX8_save_n20_ok 19 rfl
theorem dX8_save_32 : decode cX8_save 32 = .ok (.getfield 32, 3) := tb_at tbX8_save_n20_ok 20 rfl
theorem dX8_save_35 : decode cX8_save 35 = .ok (.invokevirtual 220, 3) := tb_at tbX8_save_n20_ok 21 rfl
theorem dX8_save_38 : decode cX8_save 38 = .ok (.istore 4, 2) := tb_at tbX8_save_n20_ok 22 rfl
theorem dX8_save_40 : decode cX8_save 40 = .ok (.iload 4, 2) := tb_at tbX8_save_n20_ok 23 rfl
theorem dX8_save_42 : decode cX8_save 42 = .ok (.iconst (-1), 1) := tb_at tbX8_save_n20_ok 24 rfl
theorem dX8_save_43 : decode cX8_save 43 = .ok (.if_icmp .eq 31, 3) := tb_at tbX8_save_n20_ok 25 rfl
theorem dX8_save_46 : decode cX8_save 46 = .ok (.aload_n 0, 1) := tb_at tbX8_save_n20_ok 26 rfl
theorem dX8_save_47 : decode cX8_save 47 = .ok (.getfield 58, 3) := tb_at tbX8_save_n20_ok 27 rfl
theorem dX8_save_50 : decode cX8_save 50 = .ok (.iload 4, 2) := tb_at tbX8_save_n20_ok 28 rfl
theorem dX8_save_52 : decode cX8_save 52 = .ok (.iconst 5, 1) := tb_at tbX8_save_n20_ok 29 rfl
theorem dX8_save_53 : decode cX8_save 53 = .ok (.idiv, 1) := tb_at tbX8_save_n20_ok 30 rfl
theorem dX8_save_54 : decode cX8_save 54 = .ok (.aload_n 0, 1) := tb_at tbX8_save_n20_ok 31 rfl
theorem dX8_save_55 : decode cX8_save 55 = .ok (.getfield 32, 3) := tb_at tbX8_save_n20_ok 32 rfl
theorem dX8_save_58 : decode cX8_save 58 = .ok (.getfield 224, 3) := tb_at tbX8_save_n20_ok 33 rfl
theorem dX8_save_61 : decode cX8_save 61 = .ok (.iload 4, 2) := tb_at tbX8_save_n20_ok 34 rfl
theorem dX8_save_63 : decode cX8_save 63 = .ok (.iaload, 1) := tb_at tbX8_save_n20_ok 35 rfl
theorem dX8_save_64 : decode cX8_save 64 = .ok (.iconst (-1), 1) := tb_at tbX8_save_n20_ok 36 rfl
theorem dX8_save_65 : decode cX8_save 65 = .ok (.invokevirtual 227, 3) := tb_at tbX8_save_n20_ok 37 rfl
theorem dX8_save_68 : decode cX8_save 68 = .ok (.bipush 10, 2) := tb_at tbX8_save_n20_ok 38 rfl
theorem dX8_save_70 : decode cX8_save 70 = .ok (.invokestatic 139, 3) := tb_at tbX8_save_n20_ok 39 rfl
theorem dX8_save_73 : decode cX8_save 73 = .ok (.ireturn, 1) := tb_at tbX8_save_n20_ok 40 rfl
theorem dX8_save_74 : decode cX8_save 74 = .ok (.aload_n 0, 1) := tb_at tbX8_save_n20_ok 41 rfl
theorem dX8_save_75 : decode cX8_save 75 = .ok (.getfield 27, 3) := tb_at tbX8_save_n20_ok 42 rfl
theorem dX8_save_78 : decode cX8_save 78 = .ok (.iload_n 1, 1) := tb_at tbX8_save_n20_ok 43 rfl
theorem dX8_save_79 : decode cX8_save 79 = .ok (.aaload, 1) := tb_at tbX8_save_n20_ok 44 rfl
theorem dX8_save_80 : decode cX8_save 80 = .ok (.astore 5, 2) := tb_at tbX8_save_n20_ok 45 rfl
theorem dX8_save_82 : decode cX8_save 82 = .ok (.aload_n 0, 1) := tb_at tbX8_save_n20_ok 46 rfl
theorem dX8_save_83 : decode cX8_save 83 = .ok (.getfield 27, 3) := tb_at tbX8_save_n20_ok 47 rfl
theorem dX8_save_86 : decode cX8_save 86 = .ok (.iload_n 1, 1) := tb_at tbX8_save_n20_ok 48 rfl
theorem dX8_save_87 : decode cX8_save 87 = .ok (.aload_n 0, 1) := tb_at tbX8_save_n20_ok 49 rfl
theorem dX8_save_88 : decode cX8_save 88 = .ok (.getfield 32, 3) := tb_at tbX8_save_n20_ok 50 rfl
theorem dX8_save_91 : decode cX8_save 91 = .ok (.aastore, 1) := tb_at tbX8_save_n20_ok 51 rfl
theorem dX8_save_92 : decode cX8_save 92 = .ok (.aload_n 0, 1) := tb_at tbX8_save_n20_ok 52 rfl
theorem dX8_save_93 : decode cX8_save 93 = .ok (.aload 5, 2) := tb_at tbX8_save_n20_ok 53 rfl
theorem dX8_save_95 : decode cX8_save 95 = .ok (.putfield 32, 3) := tb_at tbX8_save_n20_ok 54 rfl
theorem dX8_save_98 : decode cX8_save 98 = .ok (.aload_n 0, 1) := tb_at tbX8_save_n20_ok 55 rfl
theorem dX8_save_99 : decode cX8_save 99 = .ok (.getfield 27, 3) := tb_at tbX8_save_n20_ok 56 rfl
theorem dX8_save_102 : decode cX8_save 102 = .ok (.iload_n 1, 1) := tb_at tbX8_save_n20_ok 57 rfl
theorem dX8_save_103 : decode cX8_save 103 = .ok (.aaload, 1) := tb_at tbX8_save_n20_ok 58 rfl
theorem dX8_save_104 : decode cX8_save 104 = .ok (.getfield 231, 3) := tb_at tbX8_save_n20_ok 59 rfl
theorem dX8_save_107 : decode cX8_save 107 = .ok (.ireturn, 1) := tb_at tbX8_save_n20_ok 60 rfl
set_option maxRecDepth 20000 in
theorem ggX8_saved_X8_isBelow : GoodIn wsX8_saved wsX8_isBelow := goodIn_r _ [7] (by decide +kernel) (by decide +kernel)
set_option maxRecDepth 20000 in
theorem gX8_saved_X8_isBelow : GoodIn wsX8_saved (va_wsS RX8 74 yX8_isBelow wsX8_isBelow) := goodIn_app (goodIn_of _ (by decide +kernel)) ggX8_saved_X8_isBelow
noncomputable def tbX8_saved_n20 : List (Nat × Instr × Nat) := [(0, (.iload_n 1), 1), (1, (.iconst 4), 1), (2, (.invokestatic 74), 3), (5, (.ifCond .ne 5), 3), (8, (.iconst (-1)), 1), (9, .ireturn, 1), (10, (.iload_n 2), 1), (11, (.lookupswitch 45 #[(0, 25), (1, 35)]), 25), (36, (.aload_n 0), 1), (37, (.getfield 27), 3), (40, (.iload_n 1), 1), (41, .aaload, 1), (42, (.getfield 231), 3), (45, .ireturn, 1), (46, (.aload_n 0), 1), (47, (.getfield 27), 3), (50, (.iload_n 1), 1), (51, .aaload, 1), (52, (.getfield 234), 3), (55, .ireturn, 1), (56, (.bipush (-2)), 2), (58, .ireturn, 1)]
theorem tbX8_saved_n20_ok : ∀ q ∈ tbX8_saved_n20, decode cX8_saved q.1 = .ok q.2 := by decide +kernel
theorem dX8_saved_0 : decode cX8_saved 0 = .ok (.iload_n 1, 1) := tb_at tbX8_saved_n20_ok 0 rfl
theorem dX8_saved_1 : decode cX8_saved 1 = .ok (.iconst 4, 1) := tb_at tbX8_saved_n20_ok 1 rfl
theorem dX8_saved_2 : decode cX8_saved 2 = .ok (.invokestatic 74, 3) := tb_at tbX8_saved_n20_ok 2 rfl
theorem dX8_saved_5 : decode cX8_saved 5 = .ok (.ifCond .ne 5, 3) := tb_at tbX8_saved_n20_ok 3 rfl
theorem dX8_saved_8 : decode cX8_saved 8 = .ok (.iconst (-1), 1) := tb_at tbX8_saved_n20_ok 4 rfl
theorem dX8_saved_9 : decode cX8_saved 9 = .ok (.ireturn, 1) := tb_at tbX8_saved_n20_ok 5 rfl
theorem dX8_saved_10 : decode cX8_saved 10 = .ok (.iload_n 2, 1) := tb_at tbX8_saved_n20_ok 6 rfl
theorem dX8_saved_11 : decode cX8_saved 11 = .ok (.lookupswitch 45 #[(0, 25), (1, 35)], 25) := tb_at tbX8_saved_n20_ok 7 rfl
theorem dX8_saved_36 : decode cX8_saved 36 = .ok (.aload_n 0, 1) := tb_at tbX8_saved_n20_ok 8 rfl
theorem dX8_saved_37 : decode cX8_saved 37 = .ok (.getfield 27, 3) := tb_at tbX8_saved_n20_ok 9 rfl
theorem dX8_saved_40 : decode cX8_saved 40 = .ok (.iload_n 1, 1) := tb_at tbX8_saved_n20_ok 10 rfl
theorem dX8_saved_41 : decode cX8_saved 41 = .ok (.aaload, 1) := tb_at tbX8_saved_n20_ok 11 rfl
theorem dX8_saved_42 : decode cX8_saved 42 = .ok (.getfield 231, 3) := tb_at tbX8_saved_n20_ok 12 rfl
theorem dX8_saved_45 : decode cX8_saved 45 = .ok (.ireturn, 1) := tb_at tbX8_saved_n20_ok 13 rfl
theorem dX8_saved_46 : decode cX8_saved 46 = .ok (.aload_n 0, 1) := tb_at tbX8_saved_n20_ok 14 rfl
theorem dX8_saved_47 : decode cX8_saved 47 = .ok (.getfield 27, 3) := tb_at tbX8_saved_n20_ok 15 rfl
theorem dX8_saved_50 : decode cX8_saved 50 = .ok (.iload_n 1, 1) := tb_at tbX8_saved_n20_ok 16 rfl
theorem dX8_saved_51 : decode cX8_saved 51 = .ok (.aaload, 1) := tb_at tbX8_saved_n20_ok 17 rfl
theorem dX8_saved_52 : decode cX8_saved 52 = .ok (.getfield 234, 3) := tb_at tbX8_saved_n20_ok 18 rfl
theorem dX8_saved_55 : decode cX8_saved 55 = .ok (.ireturn, 1) := tb_at tbX8_saved_n20_ok 19 rfl
theorem dX8_saved_56 : decode cX8_saved 56 = .ok (.bipush (-2), 2) := tb_at tbX8_saved_n20_ok 20 rfl
theorem dX8_saved_58 : decode cX8_saved 58 = .ok (.ireturn, 1) := tb_at tbX8_saved_n20_ok 21 rfl
set_option maxRecDepth 20000 in
theorem ggX8_restore_X8_isBelow : GoodIn wsX8_restore wsX8_isBelow := goodIn_r _ [7] (by decide +kernel) (by decide +kernel)
set_option maxRecDepth 20000 in
theorem gX8_restore_X8_isBelow : GoodIn wsX8_restore (va_wsS RX8 74 yX8_isBelow wsX8_isBelow) := goodIn_app (goodIn_of _ (by decide +kernel)) ggX8_restore_X8_isBelow
set_option maxRecDepth 20000 in
theorem ggX8_restore_X8_addThings : GoodIn wsX8_restore wsX8_addThings := goodIn_r _ [11, 2, 12, 3, 13, 14, 15, 16, 17, 18, 19, 20, 21, 22, 23, 24, 25, 26, 27, 28, 174, 175, 176, 177, 178, 179, 180, 181, 182, 162, 163, 164, 165, 166, 167, 168, 169, 170, 171, 172, 173, 183, 184, 185, 186, 187, 188, 189, 190, 191, 192, 193, 194] (by decide +kernel) (by decide +kernel)
set_option maxRecDepth 20000 in
theorem gX8_restore_X8_addThings : GoodIn wsX8_restore (wsV RX8 237 RX8 yX8_addThings wsX8_addThings) := goodIn_app (goodIn_of _ (by decide +kernel)) ggX8_restore_X8_addThings
set_option maxRecDepth 20000 in
theorem ggX8_restore_X8_fillThings : GoodIn wsX8_restore wsX8_fillThings := goodIn_r _ [32, 33, 34, 2, 35, 12, 36, 37, 38, 39, 40, 6, 41, 42, 43, 44, 45, 46, 47, 48, 49, 50, 51, 52, 53, 54, 55, 56, 57, 58, 59, 60, 61, 62, 63, 64, 65, 66, 67, 68, 69, 70, 71, 72, 73, 74, 75, 76, 77, 78, 79, 80, 81, 82, 83, 84, 85, 86, 87, 88, 89, 90, 91, 92, 93, 94, 95, 96, 97, 98, 99, 174, 175, 176, 177, 178, 179, 180, 181, 182, 162, 163, 164, 165, 166, 167, 168, 169, 170, 171, 172, 173, 183, 184, 185, 186, 187, 188, 189, 190, 191, 192, 193, 194, 195, 196, 197, 198, 199, 200] (by decide +kernel) (by decide +kernel)
set_option maxRecDepth 20000 in
theorem gX8_restore_X8_fillThings : GoodIn wsX8_restore (wsV RX8 241 RX8 yX8_fillThings wsX8_fillThings) := goodIn_app (goodIn_of _ (by decide +kernel)) ggX8_restore_X8_fillThings
set_option maxRecDepth 20000 in
theorem ggX8_restore_X8_judgeThings : GoodIn wsX8_restore wsX8_judgeThings := goodIn_r _ [103, 3, 12, 36, 42, 104, 105, 106, 107, 6, 108, 109, 110, 111, 112, 113, 114, 115, 116, 117, 118, 119, 48, 120, 121, 122, 52, 123, 124, 125, 126, 127, 128, 54, 5, 7, 129, 130, 131, 132, 133, 134, 135, 136, 137, 138, 139, 140, 141, 47, 142, 143, 144, 145, 146, 60, 61, 147, 148, 149, 150, 151, 152, 153, 154, 155, 156, 157, 158, 49, 50, 51, 53, 55, 91, 92, 93, 94, 95, 96, 97, 98, 99, 162, 163, 164, 165, 166, 167, 168, 169, 170, 171, 172, 173, 183, 184, 185, 186, 187, 188, 189, 190, 191, 192, 193, 194, 201, 202, 203, 204, 195, 196, 197, 198, 199, 200] (by decide +kernel) (by decide +kernel)
set_option maxRecDepth 20000 in
theorem gX8_restore_X8_judgeThings : GoodIn wsX8_restore (wsV RX8 245 RX8 yX8_judgeThings wsX8_judgeThings) := goodIn_app (goodIn_of _ (by decide +kernel)) ggX8_restore_X8_judgeThings
set_option maxRecDepth 20000 in
theorem ggX8_restore_X8_failed : GoodIn wsX8_restore wsX8_failed := goodIn_r _ [161] (by decide +kernel) (by decide +kernel)
set_option maxRecDepth 20000 in
theorem gX8_restore_X8_failed : GoodIn wsX8_restore (va_wsS RX8 139 yX8_failed wsX8_failed) := goodIn_app (goodIn_of _ (by decide +kernel)) ggX8_restore_X8_failed
noncomputable def tbX8_restore_n20 : List (Nat × Instr × Nat) := [(0, (.iload_n 1), 1), (1, (.iconst 4), 1), (2, (.invokestatic 74), 3), (5, (.ifCond .eq 15), 3), (8, (.aload_n 0), 1), (9, (.getfield 27), 3), (12, (.iload_n 1), 1), (13, .aaload, 1), (14, (.getfield 231), 3), (17, (.ifCond .ne 5), 3), (20, (.iconst (-1)), 1), (21, .ireturn, 1), (22, (.iload_n 2), 1), (23, (.iconst 4), 1), (24, (.invokestatic 74), 3), (27, (.ifCond .ne 6), 3), (30, (.bipush (-2)), 2), (32, .ireturn, 1), (33, (.aload_n 0), 1), (34, (.getfield 94), 3), (37, (.istore_n 3), 1), (38, (.iload_n 3), 1), (39, (.aload_n 0), 1), (40, (.getfield 27), 3), (43, (.iload_n 1), 1), (44, .aaload, 1), (45, (.getfield 231), 3), (48, .iadd, 1), (49, (.bipush 30), 2), (51, (.if_icmp .le 6), 3), (54, (.bipush (-4)), 2), (56, .ireturn, 1), (57, (.aload_n 0), 1), (58, (.aload_n 0), 1), (59, (.getfield 27), 3), (62, (.iload_n 1), 1), (63, .aaload, 1), (64, (.invokevirtual 237), 3), (67, (.aload_n 0), 1), (68, (.aload_n 0), 1), (69, (.getfield 27), 3), (72, (.iload_n 1), 1), (73, .aaload, 1), (74, (.iload_n 3), 1), (75, (.iload_n 2), 1), (76, (.invokevirtual 241), 3), (79, (.istore 4), 2), (81, (.iload 4), 2), (83, (.ifCond .ne 10), 3), (86, (.aload_n 0), 1), (87, (.iload_n 3), 1), (88, (.invokevirtual 245), 3), (91, (.istore 4), 2), (93, (.iload 4), 2), (95, (.ifCond .eq 14), 3), (98, (.aload_n 0), 1), (99, (.iload_n 3), 1), (100, (.putfield 94), 3), (103, (.iload 4), 2), (105, (.invokestatic 139), 3), (108, .ireturn, 1), (109, (.iload_n 3), 1), (110, .ireturn, 1)]
theorem tbX8_restore_n20_ok : ∀ q ∈ tbX8_restore_n20, decode cX8_restore q.1 = .ok q.2 := by decide +kernel
theorem dX8_restore_0 : decode cX8_restore 0 = .ok (.iload_n 1, 1) := tb_at tbX8_restore_n20_ok 0 rfl
theorem dX8_restore_1 : decode cX8_restore 1 = .ok (.iconst 4, 1) := tb_at tbX8_restore_n20_ok 1 rfl
theorem dX8_restore_2 : decode cX8_restore 2 = .ok (.invokestatic 74, 3) := tb_at tbX8_restore_n20_ok 2 rfl
theorem dX8_restore_5 : decode cX8_restore 5 = .ok (.ifCond .eq 15, 3) := tb_at tbX8_restore_n20_ok 3 rfl
theorem dX8_restore_8 : decode cX8_restore 8 = .ok (.aload_n 0, 1) := tb_at tbX8_restore_n20_ok 4 rfl
theorem dX8_restore_9 : decode cX8_restore 9 = .ok (.getfield 27, 3) := tb_at tbX8_restore_n20_ok 5 rfl
theorem dX8_restore_12 : decode cX8_restore 12 = .ok (.iload_n 1, 1) := tb_at tbX8_restore_n20_ok 6 rfl
theorem dX8_restore_13 : decode cX8_restore 13 = .ok (.aaload, 1) := tb_at tbX8_restore_n20_ok 7 rfl
theorem dX8_restore_14 : decode cX8_restore 14 = .ok (.getfield 231, 3) := tb_at tbX8_restore_n20_ok 8 rfl
theorem dX8_restore_17 : decode cX8_restore 17 = .ok (.ifCond .ne 5, 3) := tb_at tbX8_restore_n20_ok 9 rfl
theorem dX8_restore_20 : decode cX8_restore 20 = .ok (.iconst (-1), 1) := tb_at tbX8_restore_n20_ok 10 rfl
theorem dX8_restore_21 : decode cX8_restore 21 = .ok (.ireturn, 1) := tb_at tbX8_restore_n20_ok 11 rfl
theorem dX8_restore_22 : decode cX8_restore 22 = .ok (.iload_n 2, 1) := tb_at tbX8_restore_n20_ok 12 rfl
theorem dX8_restore_23 : decode cX8_restore 23 = .ok (.iconst 4, 1) := tb_at tbX8_restore_n20_ok 13 rfl
theorem dX8_restore_24 : decode cX8_restore 24 = .ok (.invokestatic 74, 3) := tb_at tbX8_restore_n20_ok 14 rfl
theorem dX8_restore_27 : decode cX8_restore 27 = .ok (.ifCond .ne 6, 3) := tb_at tbX8_restore_n20_ok 15 rfl
theorem dX8_restore_30 : decode cX8_restore 30 = .ok (.bipush (-2), 2) := tb_at tbX8_restore_n20_ok 16 rfl
theorem dX8_restore_32 : decode cX8_restore 32 = .ok (.ireturn, 1) := tb_at tbX8_restore_n20_ok 17 rfl
theorem dX8_restore_33 : decode cX8_restore 33 = .ok (.aload_n 0, 1) := tb_at tbX8_restore_n20_ok 18 rfl
theorem dX8_restore_34 : decode cX8_restore 34 = .ok (.getfield 94, 3) := tb_at tbX8_restore_n20_ok 19 rfl
theorem dX8_restore_37 : decode cX8_restore 37 = .ok (.istore_n 3, 1) := tb_at tbX8_restore_n20_ok 20 rfl
theorem dX8_restore_38 : decode cX8_restore 38 = .ok (.iload_n 3, 1) := tb_at tbX8_restore_n20_ok 21 rfl
theorem dX8_restore_39 : decode cX8_restore 39 = .ok (.aload_n 0, 1) := tb_at tbX8_restore_n20_ok 22 rfl
theorem dX8_restore_40 : decode cX8_restore 40 = .ok (.getfield 27, 3) := tb_at tbX8_restore_n20_ok 23 rfl
theorem dX8_restore_43 : decode cX8_restore 43 = .ok (.iload_n 1, 1) := tb_at tbX8_restore_n20_ok 24 rfl
theorem dX8_restore_44 : decode cX8_restore 44 = .ok (.aaload, 1) := tb_at tbX8_restore_n20_ok 25 rfl
theorem dX8_restore_45 : decode cX8_restore 45 = .ok (.getfield 231, 3) := tb_at tbX8_restore_n20_ok 26 rfl
theorem dX8_restore_48 : decode cX8_restore 48 = .ok (.iadd, 1) := tb_at tbX8_restore_n20_ok 27 rfl
theorem dX8_restore_49 : decode cX8_restore 49 = .ok (.bipush 30, 2) := tb_at tbX8_restore_n20_ok 28 rfl
theorem dX8_restore_51 : decode cX8_restore 51 = .ok (.if_icmp .le 6, 3) := tb_at tbX8_restore_n20_ok 29 rfl
theorem dX8_restore_54 : decode cX8_restore 54 = .ok (.bipush (-4), 2) := tb_at tbX8_restore_n20_ok 30 rfl
theorem dX8_restore_56 : decode cX8_restore 56 = .ok (.ireturn, 1) := tb_at tbX8_restore_n20_ok 31 rfl
theorem dX8_restore_57 : decode cX8_restore 57 = .ok (.aload_n 0, 1) := tb_at tbX8_restore_n20_ok 32 rfl
theorem dX8_restore_58 : decode cX8_restore 58 = .ok (.aload_n 0, 1) := tb_at tbX8_restore_n20_ok 33 rfl
theorem dX8_restore_59 : decode cX8_restore 59 = .ok (.getfield 27, 3) := tb_at tbX8_restore_n20_ok 34 rfl
theorem dX8_restore_62 : decode cX8_restore 62 = .ok (.iload_n 1, 1) := tb_at tbX8_restore_n20_ok 35 rfl
theorem dX8_restore_63 : decode cX8_restore 63 = .ok (.aaload, 1) := tb_at tbX8_restore_n20_ok 36 rfl
theorem dX8_restore_64 : decode cX8_restore 64 = .ok (.invokevirtual 237, 3) := tb_at tbX8_restore_n20_ok 37 rfl
theorem dX8_restore_67 : decode cX8_restore 67 = .ok (.aload_n 0, 1) := tb_at tbX8_restore_n20_ok 38 rfl
theorem dX8_restore_68 : decode cX8_restore 68 = .ok (.aload_n 0, 1) := tb_at tbX8_restore_n20_ok 39 rfl
theorem dX8_restore_69 : decode cX8_restore 69 = .ok (.getfield 27, 3) := tb_at tbX8_restore_n20_ok 40 rfl
theorem dX8_restore_72 : decode cX8_restore 72 = .ok (.iload_n 1, 1) := tb_at tbX8_restore_n20_ok 41 rfl
theorem dX8_restore_73 : decode cX8_restore 73 = .ok (.aaload, 1) := tb_at tbX8_restore_n20_ok 42 rfl
theorem dX8_restore_74 : decode cX8_restore 74 = .ok (.iload_n 3, 1) := tb_at tbX8_restore_n20_ok 43 rfl
theorem dX8_restore_75 : decode cX8_restore 75 = .ok (.iload_n 2, 1) := tb_at tbX8_restore_n20_ok 44 rfl
theorem dX8_restore_76 : decode cX8_restore 76 = .ok (.invokevirtual 241, 3) := tb_at tbX8_restore_n20_ok 45 rfl
theorem dX8_restore_79 : decode cX8_restore 79 = .ok (.istore 4, 2) := tb_at tbX8_restore_n20_ok 46 rfl
theorem dX8_restore_81 : decode cX8_restore 81 = .ok (.iload 4, 2) := tb_at tbX8_restore_n20_ok 47 rfl
theorem dX8_restore_83 : decode cX8_restore 83 = .ok (.ifCond .ne 10, 3) := tb_at tbX8_restore_n20_ok 48 rfl
theorem dX8_restore_86 : decode cX8_restore 86 = .ok (.aload_n 0, 1) := tb_at tbX8_restore_n20_ok 49 rfl
theorem dX8_restore_87 : decode cX8_restore 87 = .ok (.iload_n 3, 1) := tb_at tbX8_restore_n20_ok 50 rfl
theorem dX8_restore_88 : decode cX8_restore 88 = .ok (.invokevirtual 245, 3) := tb_at tbX8_restore_n20_ok 51 rfl
theorem dX8_restore_91 : decode cX8_restore 91 = .ok (.istore 4, 2) := tb_at tbX8_restore_n20_ok 52 rfl
theorem dX8_restore_93 : decode cX8_restore 93 = .ok (.iload 4, 2) := tb_at tbX8_restore_n20_ok 53 rfl
theorem dX8_restore_95 : decode cX8_restore 95 = .ok (.ifCond .eq 14, 3) := tb_at tbX8_restore_n20_ok 54 rfl
theorem dX8_restore_98 : decode cX8_restore 98 = .ok (.aload_n 0, 1) := tb_at tbX8_restore_n20_ok 55 rfl
theorem dX8_restore_99 : decode cX8_restore 99 = .ok (.iload_n 3, 1) := tb_at tbX8_restore_n20_ok 56 rfl
theorem dX8_restore_100 : decode cX8_restore 100 = .ok (.putfield 94, 3) := tb_at tbX8_restore_n20_ok 57 rfl
theorem dX8_restore_103 : decode cX8_restore 103 = .ok (.iload 4, 2) := tb_at tbX8_restore_n20_ok 58 rfl
theorem dX8_restore_105 : decode cX8_restore 105 = .ok (.invokestatic 139, 3) := tb_at tbX8_restore_n20_ok 59 rfl
theorem dX8_restore_108 : decode cX8_restore 108 = .ok (.ireturn, 1) := tb_at tbX8_restore_n20_ok 60 rfl
theorem dX8_restore_109 : decode cX8_restore 109 = .ok (.iload_n 3, 1) := tb_at tbX8_restore_n20_ok 61 rfl
theorem dX8_restore_110 : decode cX8_restore 110 = .ok (.ireturn, 1) := tb_at tbX8_restore_n20_ok 62 rfl
noncomputable def tbX8_fault_n20 : List (Nat × Instr × Nat) := [(0, (.aload_n 0), 1), (1, (.getfield 58), 3), (4, (.getfield 248), 3), (7, (.ifCond .ne 6), 3), (10, (.bipush (-9)), 2), (12, .ireturn, 1), (13, (.iload_n 1), 1), (14, (.tableswitch 50 0 2 #[26, 34, 42]), 26), (40, (.aload_n 0), 1), (41, (.getfield 58), 3), (44, (.getfield 252), 3), (47, .ireturn, 1), (48, (.aload_n 0), 1), (49, (.getfield 58), 3), (52, (.getfield 255), 3), (55, .ireturn, 1), (56, (.aload_n 0), 1), (57, (.getfield 58), 3), (60, (.getfield 258), 3), (63, .ireturn, 1), (64, (.bipush (-2)), 2), (66, .ireturn, 1)]
theorem tbX8_fault_n20_ok : ∀ q ∈ tbX8_fault_n20, decode cX8_fault q.1 = .ok q.2 := by decide +kernel
theorem dX8_fault_0 : decode cX8_fault 0 = .ok (.aload_n 0, 1) := tb_at tbX8_fault_n20_ok 0 rfl
theorem dX8_fault_1 : decode cX8_fault 1 = .ok (.getfield 58, 3) := tb_at tbX8_fault_n20_ok 1 rfl
theorem dX8_fault_4 : decode cX8_fault 4 = .ok (.getfield 248, 3) := tb_at tbX8_fault_n20_ok 2 rfl
theorem dX8_fault_7 : decode cX8_fault 7 = .ok (.ifCond .ne 6, 3) := tb_at tbX8_fault_n20_ok 3 rfl
theorem dX8_fault_10 : decode cX8_fault 10 = .ok (.bipush (-9), 2) := tb_at tbX8_fault_n20_ok 4 rfl
theorem dX8_fault_12 : decode cX8_fault 12 = .ok (.ireturn, 1) := tb_at tbX8_fault_n20_ok 5 rfl
theorem dX8_fault_13 : decode cX8_fault 13 = .ok (.iload_n 1, 1) := tb_at tbX8_fault_n20_ok 6 rfl
theorem dX8_fault_14 : decode cX8_fault 14 = .ok (.tableswitch 50 0 2 #[26, 34, 42], 26) := tb_at tbX8_fault_n20_ok 7 rfl
theorem dX8_fault_40 : decode cX8_fault 40 = .ok (.aload_n 0, 1) := tb_at tbX8_fault_n20_ok 8 rfl
theorem dX8_fault_41 : decode cX8_fault 41 = .ok (.getfield 58, 3) := tb_at tbX8_fault_n20_ok 9 rfl
theorem dX8_fault_44 : decode cX8_fault 44 = .ok (.getfield 252, 3) := tb_at tbX8_fault_n20_ok 10 rfl
theorem dX8_fault_47 : decode cX8_fault 47 = .ok (.ireturn, 1) := tb_at tbX8_fault_n20_ok 11 rfl
theorem dX8_fault_48 : decode cX8_fault 48 = .ok (.aload_n 0, 1) := tb_at tbX8_fault_n20_ok 12 rfl
theorem dX8_fault_49 : decode cX8_fault 49 = .ok (.getfield 58, 3) := tb_at tbX8_fault_n20_ok 13 rfl
theorem dX8_fault_52 : decode cX8_fault 52 = .ok (.getfield 255, 3) := tb_at tbX8_fault_n20_ok 14 rfl
theorem dX8_fault_55 : decode cX8_fault 55 = .ok (.ireturn, 1) := tb_at tbX8_fault_n20_ok 15 rfl
theorem dX8_fault_56 : decode cX8_fault 56 = .ok (.aload_n 0, 1) := tb_at tbX8_fault_n20_ok 16 rfl
theorem dX8_fault_57 : decode cX8_fault 57 = .ok (.getfield 58, 3) := tb_at tbX8_fault_n20_ok 17 rfl
theorem dX8_fault_60 : decode cX8_fault 60 = .ok (.getfield 258, 3) := tb_at tbX8_fault_n20_ok 18 rfl
theorem dX8_fault_63 : decode cX8_fault 63 = .ok (.ireturn, 1) := tb_at tbX8_fault_n20_ok 19 rfl
theorem dX8_fault_64 : decode cX8_fault 64 = .ok (.bipush (-2), 2) := tb_at tbX8_fault_n20_ok 20 rfl
theorem dX8_fault_66 : decode cX8_fault 66 = .ok (.ireturn, 1) := tb_at tbX8_fault_n20_ok 21 rfl
set_option maxRecDepth 20000 in
theorem ggX8_like_X8_thingNumbered : GoodIn wsX8_like wsX8_thingNumbered := goodIn_r _ [7, 8, 9, 96, 97, 98, 99, 100, 101, 102, 103, 104, 105, 106, 107] (by decide +kernel) (by decide +kernel)
set_option maxRecDepth 20000 in
theorem gX8_like_X8_thingNumbered : GoodIn wsX8_like (wsV RX8 177 RX8 yX8_thingNumbered wsX8_thingNumbered) := goodIn_app (goodIn_of _ (by decide +kernel)) ggX8_like_X8_thingNumbered
set_option maxRecDepth 20000 in
theorem ggX8_like_X8_recordFrom : GoodIn wsX8_like wsX8_recordFrom := goodIn_r _ [13, 14, 15, 16, 17, 18, 19, 6, 20, 8, 9, 21, 22, 23, 24, 25, 26, 27, 28, 29, 30, 31, 32, 33, 34, 35, 36, 37, 38, 39, 40, 41, 42, 43, 44, 45, 46, 47, 48, 49, 50, 51, 52, 53, 54, 55, 56, 57, 58, 59, 60, 61, 62, 63, 64, 65, 66, 67, 68, 69, 3, 4, 5, 7, 108, 109, 110, 111, 112, 113, 114, 115, 116, 96, 97, 98, 99, 100, 101, 102, 103, 104, 105, 106, 107, 117, 118, 119, 120, 121, 122, 123, 124, 125, 126, 127, 128, 129, 130] (by decide +kernel) (by decide +kernel)
set_option maxRecDepth 20000 in
theorem gX8_like_X8_recordFrom : GoodIn wsX8_like (wsV RX8 216 RX8 yX8_recordFrom wsX8_recordFrom) := goodIn_app (goodIn_of _ (by decide +kernel)) ggX8_like_X8_recordFrom
set_option maxRecDepth 20000 in
theorem ggX8_like_X8_firstDifference : GoodIn wsX8_like wsX8_firstDifference := goodIn_r _ [72, 14, 73, 74, 75, 76, 39, 45, 77, 78, 79, 63, 80, 81, 82, 83, 84, 85, 86, 87, 88, 89, 90, 91, 58, 6, 59, 92, 93, 94, 95, 67, 69, 108, 109, 110, 111, 112, 113, 114, 115, 116] (by decide +kernel) (by decide +kernel)
set_option maxRecDepth 20000 in
theorem gX8_like_X8_firstDifference : GoodIn wsX8_like (va_wsS RX8 261 yX8_firstDifference wsX8_firstDifference) := goodIn_app (goodIn_of _ (by decide +kernel)) ggX8_like_X8_firstDifference
noncomputable def tbX8_like_n20 : List (Nat × Instr × Nat) := [(0, (.aload_n 0), 1), (1, (.iload_n 1), 1), (2, .i2l, 1), (3, (.invokevirtual 177), 3), (6, (.astore_n 3), 1), (7, (.aload_n 0), 1), (8, (.iload_n 2), 1), (9, .i2l, 1), (10, (.invokevirtual 177), 3), (13, (.astore 4), 2), (15, (.aload_n 3), 1), (16, (.ifnull 8), 3), (19, (.aload 4), 2), (21, (.ifnonnull 5), 3), (24, (.iconst (-1)), 1), (25, .ireturn, 1), (26, (.aload_n 0), 1), (27, (.aload_n 3), 1), (28, (.aload_n 0), 1), (29, (.getfield 32), 3), (32, (.invokevirtual 216), 3), (35, (.aload_n 0), 1), (36, (.aload 4), 2), (38, (.aload_n 0), 1), (39, (.getfield 36), 3), (42, (.invokevirtual 216), 3), (45, (.aload_n 0), 1), (46, (.getfield 32), 3), (49, (.aload_n 0), 1), (50, (.getfield 36), 3), (53, (.invokestatic 261), 3), (56, (.iconst (-1)), 1), (57, (.if_icmp .ne 7), 3), (60, (.iconst 1), 1), (61, (.goto 4), 3), (64, (.iconst 0), 1), (65, .ireturn, 1)]
theorem tbX8_like_n20_ok : ∀ q ∈ tbX8_like_n20, decode cX8_like q.1 = .ok q.2 := by decide +kernel
theorem dX8_like_0 : decode cX8_like 0 = .ok (.aload_n 0, 1) := tb_at tbX8_like_n20_ok 0 rfl
theorem dX8_like_1 : decode cX8_like 1 = .ok (.iload_n 1, 1) := tb_at tbX8_like_n20_ok 1 rfl
theorem dX8_like_2 : decode cX8_like 2 = .ok (.i2l, 1) := tb_at tbX8_like_n20_ok 2 rfl
theorem dX8_like_3 : decode cX8_like 3 = .ok (.invokevirtual 177, 3) := tb_at tbX8_like_n20_ok 3 rfl
theorem dX8_like_6 : decode cX8_like 6 = .ok (.astore_n 3, 1) := tb_at tbX8_like_n20_ok 4 rfl
theorem dX8_like_7 : decode cX8_like 7 = .ok (.aload_n 0, 1) := tb_at tbX8_like_n20_ok 5 rfl
theorem dX8_like_8 : decode cX8_like 8 = .ok (.iload_n 2, 1) := tb_at tbX8_like_n20_ok 6 rfl
theorem dX8_like_9 : decode cX8_like 9 = .ok (.i2l, 1) := tb_at tbX8_like_n20_ok 7 rfl
theorem dX8_like_10 : decode cX8_like 10 = .ok (.invokevirtual 177, 3) := tb_at tbX8_like_n20_ok 8 rfl
theorem dX8_like_13 : decode cX8_like 13 = .ok (.astore 4, 2) := tb_at tbX8_like_n20_ok 9 rfl
theorem dX8_like_15 : decode cX8_like 15 = .ok (.aload_n 3, 1) := tb_at tbX8_like_n20_ok 10 rfl
theorem dX8_like_16 : decode cX8_like 16 = .ok (.ifnull 8, 3) := tb_at tbX8_like_n20_ok 11 rfl
theorem dX8_like_19 : decode cX8_like 19 = .ok (.aload 4, 2) := tb_at tbX8_like_n20_ok 12 rfl
theorem dX8_like_21 : decode cX8_like 21 = .ok (.ifnonnull 5, 3) := tb_at tbX8_like_n20_ok 13 rfl
theorem dX8_like_24 : decode cX8_like 24 = .ok (.iconst (-1), 1) := tb_at tbX8_like_n20_ok 14 rfl
theorem dX8_like_25 : decode cX8_like 25 = .ok (.ireturn, 1) := tb_at tbX8_like_n20_ok 15 rfl
theorem dX8_like_26 : decode cX8_like 26 = .ok (.aload_n 0, 1) := tb_at tbX8_like_n20_ok 16 rfl
theorem dX8_like_27 : decode cX8_like 27 = .ok (.aload_n 3, 1) := tb_at tbX8_like_n20_ok 17 rfl
theorem dX8_like_28 : decode cX8_like 28 = .ok (.aload_n 0, 1) := tb_at tbX8_like_n20_ok 18 rfl
theorem dX8_like_29 : decode cX8_like 29 = .ok (.getfield 32, 3) := tb_at tbX8_like_n20_ok 19 rfl
theorem dX8_like_32 : decode cX8_like 32 = .ok (.invokevirtual 216, 3) := tb_at tbX8_like_n20_ok 20 rfl
theorem dX8_like_35 : decode cX8_like 35 = .ok (.aload_n 0, 1) := tb_at tbX8_like_n20_ok 21 rfl
theorem dX8_like_36 : decode cX8_like 36 = .ok (.aload 4, 2) := tb_at tbX8_like_n20_ok 22 rfl
theorem dX8_like_38 : decode cX8_like 38 = .ok (.aload_n 0, 1) := tb_at tbX8_like_n20_ok 23 rfl
theorem dX8_like_39 : decode cX8_like 39 = .ok (.getfield 36, 3) := tb_at tbX8_like_n20_ok 24 rfl
theorem dX8_like_42 : decode cX8_like 42 = .ok (.invokevirtual 216, 3) := tb_at tbX8_like_n20_ok 25 rfl
theorem dX8_like_45 : decode cX8_like 45 = .ok (.aload_n 0, 1) := tb_at tbX8_like_n20_ok 26 rfl
theorem dX8_like_46 : decode cX8_like 46 = .ok (.getfield 32, 3) := tb_at tbX8_like_n20_ok 27 rfl
theorem dX8_like_49 : decode cX8_like 49 = .ok (.aload_n 0, 1) := tb_at tbX8_like_n20_ok 28 rfl
theorem dX8_like_50 : decode cX8_like 50 = .ok (.getfield 36, 3) := tb_at tbX8_like_n20_ok 29 rfl
theorem dX8_like_53 : decode cX8_like 53 = .ok (.invokestatic 261, 3) := tb_at tbX8_like_n20_ok 30 rfl
theorem dX8_like_56 : decode cX8_like 56 = .ok (.iconst (-1), 1) := tb_at tbX8_like_n20_ok 31 rfl
theorem dX8_like_57 : decode cX8_like 57 = .ok (.if_icmp .ne 7, 3) := tb_at tbX8_like_n20_ok 32 rfl
theorem dX8_like_60 : decode cX8_like 60 = .ok (.iconst 1, 1) := tb_at tbX8_like_n20_ok 33 rfl
theorem dX8_like_61 : decode cX8_like 61 = .ok (.goto 4, 3) := tb_at tbX8_like_n20_ok 34 rfl
theorem dX8_like_64 : decode cX8_like 64 = .ok (.iconst 0, 1) := tb_at tbX8_like_n20_ok 35 rfl
theorem dX8_like_65 : decode cX8_like 65 = .ok (.ireturn, 1) := tb_at tbX8_like_n20_ok 36 rfl
set_option maxRecDepth 20000 in
theorem ggX8_differs_X8_thingNumbered : GoodIn wsX8_differs wsX8_thingNumbered := goodIn_r _ [8, 9, 10, 99, 100, 101, 102, 103, 104, 105, 106, 107, 108, 109, 110] (by decide +kernel) (by decide +kernel)
set_option maxRecDepth 20000 in
theorem gX8_differs_X8_thingNumbered : GoodIn wsX8_differs (wsV RX8 177 RX8 yX8_thingNumbered wsX8_thingNumbered) := goodIn_app (goodIn_of _ (by decide +kernel)) ggX8_differs_X8_thingNumbered
set_option maxRecDepth 20000 in
theorem ggX8_differs_X8_isBelow : GoodIn wsX8_differs wsX8_isBelow := goodIn_r _ [13] (by decide +kernel) (by decide +kernel)
set_option maxRecDepth 20000 in
theorem gX8_differs_X8_isBelow : GoodIn wsX8_differs (va_wsS RX8 74 yX8_isBelow wsX8_isBelow) := goodIn_app (goodIn_of _ (by decide +kernel)) ggX8_differs_X8_isBelow
set_option maxRecDepth 20000 in
theorem ggX8_differs_X8_recordFrom : GoodIn wsX8_differs wsX8_recordFrom := goodIn_r _ [17, 2, 18, 19, 20, 21, 22, 7, 23, 9, 10, 24, 25, 26, 27, 28, 29, 30, 31, 32, 33, 34, 35, 36, 37, 38, 39, 40, 41, 42, 43, 44, 45, 46, 47, 48, 49, 50, 51, 52, 53, 54, 55, 56, 57, 58, 59, 60, 61, 62, 63, 64, 65, 66, 67, 68, 69, 70, 71, 72, 4, 5, 6, 8, 111, 112, 113, 114, 115, 116, 117, 118, 119, 99, 100, 101, 102, 103, 104, 105, 106, 107, 108, 109, 110, 120, 121, 122, 123, 124, 125, 126, 127, 128, 129, 130, 131, 132, 133] (by decide +kernel) (by decide +kernel)
set_option maxRecDepth 20000 in
theorem gX8_differs_X8_recordFrom : GoodIn wsX8_differs (wsV RX8 216 RX8 yX8_recordFrom wsX8_recordFrom) := goodIn_app (goodIn_of _ (by decide +kernel)) ggX8_differs_X8_recordFrom
set_option maxRecDepth 20000 in
theorem ggX8_differs_X8_firstDifference : GoodIn wsX8_differs wsX8_firstDifference := goodIn_r _ [75, 2, 76, 77, 78, 79, 42, 48, 80, 81, 82, 66, 83, 84, 85, 86, 87, 88, 89, 90, 91, 92, 93, 94, 61, 7, 62, 95, 96, 97, 98, 70, 72, 111, 112, 113, 114, 115, 116, 117, 118, 119] (by decide +kernel) (by decide +kernel)
set_option maxRecDepth 20000 in
theorem gX8_differs_X8_firstDifference : GoodIn wsX8_differs (va_wsS RX8 261 yX8_firstDifference wsX8_firstDifference) := goodIn_app (goodIn_of _ (by decide +kernel)) ggX8_differs_X8_firstDifference
noncomputable def tbX8_differs_n20 : List (Nat × Instr × Nat) := [(0, (.aload_n 0), 1), (1, (.iload_n 2), 1), (2, .i2l, 1), (3, (.invokevirtual 177), 3), (6, (.astore_n 3), 1), (7, (.iload_n 1), 1), (8, (.iconst 4), 1), (9, (.invokestatic 74), 3), (12, (.ifCond .eq 19), 3), (15, (.aload_n 0), 1), (16, (.getfield 27), 3), (19, (.iload_n 1), 1), (20, .aaload, 1), (21, (.getfield 231), 3), (24, (.ifCond .eq 7), 3), (27, (.aload_n 3), 1), (28, (.ifnonnull 6), 3), (31, (.bipush (-2)), 2), (33, .ireturn, 1), (34, (.aload_n 0), 1), (35, (.aload_n 3), 1), (36, (.aload_n 0), 1), (37, (.getfield 32), 3), (40, (.invokevirtual 216), 3), (43, (.aload_n 0), 1), (44, (.getfield 27), 3), (47, (.iload_n 1), 1), (48, .aaload, 1), (49, (.aload_n 0), 1), (50, (.getfield 32), 3), (53, (.invokestatic 261), 3), (56, .ireturn, 1)]
theorem tbX8_differs_n20_ok : ∀ q ∈ tbX8_differs_n20, decode cX8_differs q.1 = .ok q.2 := by decide +kernel
theorem dX8_differs_0 : decode cX8_differs 0 = .ok (.aload_n 0, 1) := tb_at tbX8_differs_n20_ok 0 rfl
theorem dX8_differs_1 : decode cX8_differs 1 = .ok (.iload_n 2, 1) := tb_at tbX8_differs_n20_ok 1 rfl
theorem dX8_differs_2 : decode cX8_differs 2 = .ok (.i2l, 1) := tb_at tbX8_differs_n20_ok 2 rfl
theorem dX8_differs_3 : decode cX8_differs 3 = .ok (.invokevirtual 177, 3) := tb_at tbX8_differs_n20_ok 3 rfl
theorem dX8_differs_6 : decode cX8_differs 6 = .ok (.astore_n 3, 1) := tb_at tbX8_differs_n20_ok 4 rfl
theorem dX8_differs_7 : decode cX8_differs 7 = .ok (.iload_n 1, 1) := tb_at tbX8_differs_n20_ok 5 rfl
theorem dX8_differs_8 : decode cX8_differs 8 = .ok (.iconst 4, 1) := tb_at tbX8_differs_n20_ok 6 rfl
theorem dX8_differs_9 : decode cX8_differs 9 = .ok (.invokestatic 74, 3) := tb_at tbX8_differs_n20_ok 7 rfl
theorem dX8_differs_12 : decode cX8_differs 12 = .ok (.ifCond .eq 19, 3) := tb_at tbX8_differs_n20_ok 8 rfl
theorem dX8_differs_15 : decode cX8_differs 15 = .ok (.aload_n 0, 1) := tb_at tbX8_differs_n20_ok 9 rfl
theorem dX8_differs_16 : decode cX8_differs 16 = .ok (.getfield 27, 3) := tb_at tbX8_differs_n20_ok 10 rfl
theorem dX8_differs_19 : decode cX8_differs 19 = .ok (.iload_n 1, 1) := tb_at tbX8_differs_n20_ok 11 rfl
theorem dX8_differs_20 : decode cX8_differs 20 = .ok (.aaload, 1) := tb_at tbX8_differs_n20_ok 12 rfl
theorem dX8_differs_21 : decode cX8_differs 21 = .ok (.getfield 231, 3) := tb_at tbX8_differs_n20_ok 13 rfl
theorem dX8_differs_24 : decode cX8_differs 24 = .ok (.ifCond .eq 7, 3) := tb_at tbX8_differs_n20_ok 14 rfl
theorem dX8_differs_27 : decode cX8_differs 27 = .ok (.aload_n 3, 1) := tb_at tbX8_differs_n20_ok 15 rfl
theorem dX8_differs_28 : decode cX8_differs 28 = .ok (.ifnonnull 6, 3) := tb_at tbX8_differs_n20_ok 16 rfl
theorem dX8_differs_31 : decode cX8_differs 31 = .ok (.bipush (-2), 2) := tb_at tbX8_differs_n20_ok 17 rfl
theorem dX8_differs_33 : decode cX8_differs 33 = .ok (.ireturn, 1) := tb_at tbX8_differs_n20_ok 18 rfl
theorem dX8_differs_34 : decode cX8_differs 34 = .ok (.aload_n 0, 1) := tb_at tbX8_differs_n20_ok 19 rfl
theorem dX8_differs_35 : decode cX8_differs 35 = .ok (.aload_n 3, 1) := tb_at tbX8_differs_n20_ok 20 rfl
theorem dX8_differs_36 : decode cX8_differs 36 = .ok (.aload_n 0, 1) := tb_at tbX8_differs_n20_ok 21 rfl
theorem dX8_differs_37 : decode cX8_differs 37 = .ok (.getfield 32, 3) := tb_at tbX8_differs_n20_ok 22 rfl
theorem dX8_differs_40 : decode cX8_differs 40 = .ok (.invokevirtual 216, 3) := tb_at tbX8_differs_n20_ok 23 rfl
theorem dX8_differs_43 : decode cX8_differs 43 = .ok (.aload_n 0, 1) := tb_at tbX8_differs_n20_ok 24 rfl
theorem dX8_differs_44 : decode cX8_differs 44 = .ok (.getfield 27, 3) := tb_at tbX8_differs_n20_ok 25 rfl
theorem dX8_differs_47 : decode cX8_differs 47 = .ok (.iload_n 1, 1) := tb_at tbX8_differs_n20_ok 26 rfl
theorem dX8_differs_48 : decode cX8_differs 48 = .ok (.aaload, 1) := tb_at tbX8_differs_n20_ok 27 rfl
theorem dX8_differs_49 : decode cX8_differs 49 = .ok (.aload_n 0, 1) := tb_at tbX8_differs_n20_ok 28 rfl
theorem dX8_differs_50 : decode cX8_differs 50 = .ok (.getfield 32, 3) := tb_at tbX8_differs_n20_ok 29 rfl
theorem dX8_differs_53 : decode cX8_differs 53 = .ok (.invokestatic 261, 3) := tb_at tbX8_differs_n20_ok 30 rfl
theorem dX8_differs_56 : decode cX8_differs 56 = .ok (.ireturn, 1) := tb_at tbX8_differs_n20_ok 31 rfl
set_option maxRecDepth 20000 in
theorem ggX8_mark_X2_addMark : GoodIn wsX8_mark wsX2_addMark := goodIn_r _ [7, 8, 9, 10, 23, 24, 25, 26] (by decide +kernel) (by decide +kernel)
set_option maxRecDepth 20000 in
theorem gX8_mark_X2_addMark : GoodIn wsX8_mark (wsV RX8 265 RX2 yX2_addMark wsX2_addMark) := goodIn_app (goodIn_of _ (by decide +kernel)) ggX8_mark_X2_addMark
noncomputable def tbX8_mark_n20 : List (Nat × Instr × Nat) := [(0, (.aload_n 0), 1), (1, (.getfield 51), 3), (4, (.getfield 82), 3), (7, (.iconst 4), 1), (8, (.if_icmp .lt 6), 3), (11, (.bipush (-4)), 2), (13, .ireturn, 1), (14, (.aload_n 0), 1), (15, (.getfield 51), 3), (18, (.invokevirtual 265), 3), (21, (.aload_n 0), 1), (22, (.getfield 51), 3), (25, (.getfield 82), 3), (28, .ireturn, 1)]
theorem tbX8_mark_n20_ok : ∀ q ∈ tbX8_mark_n20, decode cX8_mark q.1 = .ok q.2 := by decide +kernel
theorem dX8_mark_0 : decode cX8_mark 0 = .ok (.aload_n 0, 1) := tb_at tbX8_mark_n20_ok 0 rfl
theorem dX8_mark_1 : decode cX8_mark 1 = .ok (.getfield 51, 3) := tb_at tbX8_mark_n20_ok 1 rfl
theorem dX8_mark_4 : decode cX8_mark 4 = .ok (.getfield 82, 3) := tb_at tbX8_mark_n20_ok 2 rfl
theorem dX8_mark_7 : decode cX8_mark 7 = .ok (.iconst 4, 1) := tb_at tbX8_mark_n20_ok 3 rfl
theorem dX8_mark_8 : decode cX8_mark 8 = .ok (.if_icmp .lt 6, 3) := tb_at tbX8_mark_n20_ok 4 rfl
theorem dX8_mark_11 : decode cX8_mark 11 = .ok (.bipush (-4), 2) := tb_at tbX8_mark_n20_ok 5 rfl
theorem dX8_mark_13 : decode cX8_mark 13 = .ok (.ireturn, 1) := tb_at tbX8_mark_n20_ok 6 rfl
theorem dX8_mark_14 : decode cX8_mark 14 = .ok (.aload_n 0, 1) := tb_at tbX8_mark_n20_ok 7 rfl
theorem dX8_mark_15 : decode cX8_mark 15 = .ok (.getfield 51, 3) := tb_at tbX8_mark_n20_ok 8 rfl
theorem dX8_mark_18 : decode cX8_mark 18 = .ok (.invokevirtual 265, 3) := tb_at tbX8_mark_n20_ok 9 rfl
theorem dX8_mark_21 : decode cX8_mark 21 = .ok (.aload_n 0, 1) := tb_at tbX8_mark_n20_ok 10 rfl
theorem dX8_mark_22 : decode cX8_mark 22 = .ok (.getfield 51, 3) := tb_at tbX8_mark_n20_ok 11 rfl
theorem dX8_mark_25 : decode cX8_mark 25 = .ok (.getfield 82, 3) := tb_at tbX8_mark_n20_ok 12 rfl
theorem dX8_mark_28 : decode cX8_mark 28 = .ok (.ireturn, 1) := tb_at tbX8_mark_n20_ok 13 rfl
set_option maxRecDepth 20000 in
theorem ggX8_undo_X2_undoLatestMark : GoodIn wsX8_undo wsX2_undoLatestMark := goodIn_r _ [7, 8, 9, 10, 11, 12, 13, 14, 15, 16, 17, 18, 19, 20, 21, 22, 23, 36, 37, 38, 39, 40, 41, 42, 43, 44, 45, 46, 47, 48, 49] (by decide +kernel) (by decide +kernel)
set_option maxRecDepth 20000 in
theorem gX8_undo_X2_undoLatestMark : GoodIn wsX8_undo (wsV RX8 268 RX2 yX2_undoLatestMark wsX2_undoLatestMark) := goodIn_app (goodIn_of _ (by decide +kernel)) ggX8_undo_X2_undoLatestMark
noncomputable def tbX8_undo_n20 : List (Nat × Instr × Nat) := [(0, (.aload_n 0), 1), (1, (.getfield 51), 3), (4, (.getfield 82), 3), (7, (.ifCond .ne 8), 3), (10, (.bipush (-3)), 2), (12, (.goto 10), 3), (15, (.aload_n 0), 1), (16, (.getfield 51), 3), (19, (.invokevirtual 268), 3), (22, .ireturn, 1)]
theorem tbX8_undo_n20_ok : ∀ q ∈ tbX8_undo_n20, decode cX8_undo q.1 = .ok q.2 := by decide +kernel
theorem dX8_undo_0 : decode cX8_undo 0 = .ok (.aload_n 0, 1) := tb_at tbX8_undo_n20_ok 0 rfl
theorem dX8_undo_1 : decode cX8_undo 1 = .ok (.getfield 51, 3) := tb_at tbX8_undo_n20_ok 1 rfl
theorem dX8_undo_4 : decode cX8_undo 4 = .ok (.getfield 82, 3) := tb_at tbX8_undo_n20_ok 2 rfl
theorem dX8_undo_7 : decode cX8_undo 7 = .ok (.ifCond .ne 8, 3) := tb_at tbX8_undo_n20_ok 3 rfl
theorem dX8_undo_10 : decode cX8_undo 10 = .ok (.bipush (-3), 2) := tb_at tbX8_undo_n20_ok 4 rfl
theorem dX8_undo_12 : decode cX8_undo 12 = .ok (.goto 10, 3) := tb_at tbX8_undo_n20_ok 5 rfl
theorem dX8_undo_15 : decode cX8_undo 15 = .ok (.aload_n 0, 1) := tb_at tbX8_undo_n20_ok 6 rfl
theorem dX8_undo_16 : decode cX8_undo 16 = .ok (.getfield 51, 3) := tb_at tbX8_undo_n20_ok 7 rfl
theorem dX8_undo_19 : decode cX8_undo 19 = .ok (.invokevirtual 268, 3) := tb_at tbX8_undo_n20_ok 8 rfl
theorem dX8_undo_22 : decode cX8_undo 22 = .ok (.ireturn, 1) := tb_at tbX8_undo_n20_ok 9 rfl
noncomputable def tbX8_count_n20 : List (Nat × Instr × Nat) := [(0, (.iload_n 1), 1), (1, (.tableswitch 57 0 3 #[31, 36, 41, 49]), 31), (32, (.aload_n 0), 1), (33, (.getfield 63), 3), (36, .ireturn, 1), (37, (.aload_n 0), 1), (38, (.getfield 94), 3), (41, .ireturn, 1), (42, (.aload_n 0), 1), (43, (.getfield 51), 3), (46, (.getfield 82), 3), (49, .ireturn, 1), (50, (.aload_n 0), 1), (51, (.getfield 51), 3), (54, (.getfield 272), 3), (57, .ireturn, 1), (58, (.bipush (-2)), 2), (60, .ireturn, 1)]
theorem tbX8_count_n20_ok : ∀ q ∈ tbX8_count_n20, decode cX8_count q.1 = .ok q.2 := by decide +kernel
theorem dX8_count_0 : decode cX8_count 0 = .ok (.iload_n 1, 1) := tb_at tbX8_count_n20_ok 0 rfl
theorem dX8_count_1 : decode cX8_count 1 = .ok (.tableswitch 57 0 3 #[31, 36, 41, 49], 31) := tb_at tbX8_count_n20_ok 1 rfl
theorem dX8_count_32 : decode cX8_count 32 = .ok (.aload_n 0, 1) := tb_at tbX8_count_n20_ok 2 rfl
theorem dX8_count_33 : decode cX8_count 33 = .ok (.getfield 63, 3) := tb_at tbX8_count_n20_ok 3 rfl
theorem dX8_count_36 : decode cX8_count 36 = .ok (.ireturn, 1) := tb_at tbX8_count_n20_ok 4 rfl
theorem dX8_count_37 : decode cX8_count 37 = .ok (.aload_n 0, 1) := tb_at tbX8_count_n20_ok 5 rfl
theorem dX8_count_38 : decode cX8_count 38 = .ok (.getfield 94, 3) := tb_at tbX8_count_n20_ok 6 rfl
theorem dX8_count_41 : decode cX8_count 41 = .ok (.ireturn, 1) := tb_at tbX8_count_n20_ok 7 rfl
theorem dX8_count_42 : decode cX8_count 42 = .ok (.aload_n 0, 1) := tb_at tbX8_count_n20_ok 8 rfl
theorem dX8_count_43 : decode cX8_count 43 = .ok (.getfield 51, 3) := tb_at tbX8_count_n20_ok 9 rfl
theorem dX8_count_46 : decode cX8_count 46 = .ok (.getfield 82, 3) := tb_at tbX8_count_n20_ok 10 rfl
theorem dX8_count_49 : decode cX8_count 49 = .ok (.ireturn, 1) := tb_at tbX8_count_n20_ok 11 rfl
theorem dX8_count_50 : decode cX8_count 50 = .ok (.aload_n 0, 1) := tb_at tbX8_count_n20_ok 12 rfl
theorem dX8_count_51 : decode cX8_count 51 = .ok (.getfield 51, 3) := tb_at tbX8_count_n20_ok 13 rfl
theorem dX8_count_54 : decode cX8_count 54 = .ok (.getfield 272, 3) := tb_at tbX8_count_n20_ok 14 rfl
theorem dX8_count_57 : decode cX8_count 57 = .ok (.ireturn, 1) := tb_at tbX8_count_n20_ok 15 rfl
theorem dX8_count_58 : decode cX8_count 58 = .ok (.bipush (-2), 2) := tb_at tbX8_count_n20_ok 16 rfl
theorem dX8_count_60 : decode cX8_count 60 = .ok (.ireturn, 1) := tb_at tbX8_count_n20_ok 17 rfl
noncomputable def tbX8_isBelow_n20 : List (Nat × Instr × Nat) := [(0, (.iload_n 0), 1), (1, (.ifCond .lt 12), 3), (4, (.iload_n 0), 1), (5, (.iload_n 1), 1), (6, (.if_icmp .ge 7), 3), (9, (.iconst 1), 1), (10, (.goto 4), 3), (13, (.iconst 0), 1), (14, .ireturn, 1)]
theorem tbX8_isBelow_n20_ok : ∀ q ∈ tbX8_isBelow_n20, decode cX8_isBelow q.1 = .ok q.2 := by decide +kernel
theorem dX8_isBelow_0 : decode cX8_isBelow 0 = .ok (.iload_n 0, 1) := tb_at tbX8_isBelow_n20_ok 0 rfl
theorem dX8_isBelow_1 : decode cX8_isBelow 1 = .ok (.ifCond .lt 12, 3) := tb_at tbX8_isBelow_n20_ok 1 rfl
theorem dX8_isBelow_4 : decode cX8_isBelow 4 = .ok (.iload_n 0, 1) := tb_at tbX8_isBelow_n20_ok 2 rfl
theorem dX8_isBelow_5 : decode cX8_isBelow 5 = .ok (.iload_n 1, 1) := tb_at tbX8_isBelow_n20_ok 3 rfl
theorem dX8_isBelow_6 : decode cX8_isBelow 6 = .ok (.if_icmp .ge 7, 3) := tb_at tbX8_isBelow_n20_ok 4 rfl
theorem dX8_isBelow_9 : decode cX8_isBelow 9 = .ok (.iconst 1, 1) := tb_at tbX8_isBelow_n20_ok 5 rfl
theorem dX8_isBelow_10 : decode cX8_isBelow 10 = .ok (.goto 4, 3) := tb_at tbX8_isBelow_n20_ok 6 rfl
theorem dX8_isBelow_13 : decode cX8_isBelow 13 = .ok (.iconst 0, 1) := tb_at tbX8_isBelow_n20_ok 7 rfl
theorem dX8_isBelow_14 : decode cX8_isBelow 14 = .ok (.ireturn, 1) := tb_at tbX8_isBelow_n20_ok 8 rfl
noncomputable def tbX8_isRowLane_n20 : List (Nat × Instr × Nat) := [(0, (.iload_n 0), 1), (1, (.iconst 3), 1), (2, (.if_icmp .lt 7), 3), (5, (.iconst 1), 1), (6, (.goto 4), 3), (9, (.iconst 0), 1), (10, .ireturn, 1)]
theorem tbX8_isRowLane_n20_ok : ∀ q ∈ tbX8_isRowLane_n20, decode cX8_isRowLane q.1 = .ok q.2 := by decide +kernel
theorem dX8_isRowLane_0 : decode cX8_isRowLane 0 = .ok (.iload_n 0, 1) := tb_at tbX8_isRowLane_n20_ok 0 rfl
theorem dX8_isRowLane_1 : decode cX8_isRowLane 1 = .ok (.iconst 3, 1) := tb_at tbX8_isRowLane_n20_ok 1 rfl
theorem dX8_isRowLane_2 : decode cX8_isRowLane 2 = .ok (.if_icmp .lt 7, 3) := tb_at tbX8_isRowLane_n20_ok 2 rfl
theorem dX8_isRowLane_5 : decode cX8_isRowLane 5 = .ok (.iconst 1, 1) := tb_at tbX8_isRowLane_n20_ok 3 rfl
theorem dX8_isRowLane_6 : decode cX8_isRowLane 6 = .ok (.goto 4, 3) := tb_at tbX8_isRowLane_n20_ok 4 rfl
theorem dX8_isRowLane_9 : decode cX8_isRowLane 9 = .ok (.iconst 0, 1) := tb_at tbX8_isRowLane_n20_ok 5 rfl
theorem dX8_isRowLane_10 : decode cX8_isRowLane 10 = .ok (.ireturn, 1) := tb_at tbX8_isRowLane_n20_ok 6 rfl
noncomputable def tbX8_failed_n20 : List (Nat × Instr × Nat) := [(0, (.bipush (-10)), 2), (2, (.iload_n 0), 1), (3, .isub, 1), (4, .ireturn, 1)]
theorem tbX8_failed_n20_ok : ∀ q ∈ tbX8_failed_n20, decode cX8_failed q.1 = .ok q.2 := by decide +kernel
theorem dX8_failed_0 : decode cX8_failed 0 = .ok (.bipush (-10), 2) := tb_at tbX8_failed_n20_ok 0 rfl
theorem dX8_failed_2 : decode cX8_failed 2 = .ok (.iload_n 0, 1) := tb_at tbX8_failed_n20_ok 1 rfl
theorem dX8_failed_3 : decode cX8_failed 3 = .ok (.isub, 1) := tb_at tbX8_failed_n20_ok 2 rfl
theorem dX8_failed_4 : decode cX8_failed 4 = .ok (.ireturn, 1) := tb_at tbX8_failed_n20_ok 3 rfl
noncomputable def tbX8_isWordInUse_n20 : List (Nat × Instr × Nat) := [(0, (.lload_n 1), 1), (1, (.lconst 0), 1), (2, .lcmp, 1), (3, (.ifCond .lt 25), 3), (6, (.lload_n 1), 1), (7, (.ldc2_w 275), 3), (10, .lcmp, 1), (11, (.ifCond .ge 17), 3), (14, (.aload_n 0), 1), (15, (.getfield 21), 3), (18, (.lload_n 1), 1), (19, .l2i, 1), (20, .baload, 1), (21, (.ifCond .eq 7), 3), (24, (.iconst 1), 1), (25, (.goto 4), 3), (28, (.iconst 0), 1), (29, .ireturn, 1)]
theorem tbX8_isWordInUse_n20_ok : ∀ q ∈ tbX8_isWordInUse_n20, decode cX8_isWordInUse q.1 = .ok q.2 := by decide +kernel
theorem dX8_isWordInUse_0 : decode cX8_isWordInUse 0 = .ok (.lload_n 1, 1) := tb_at tbX8_isWordInUse_n20_ok 0 rfl
theorem dX8_isWordInUse_1 : decode cX8_isWordInUse 1 = .ok (.lconst 0, 1) := tb_at tbX8_isWordInUse_n20_ok 1 rfl
theorem dX8_isWordInUse_2 : decode cX8_isWordInUse 2 = .ok (.lcmp, 1) := tb_at tbX8_isWordInUse_n20_ok 2 rfl
theorem dX8_isWordInUse_3 : decode cX8_isWordInUse 3 = .ok (.ifCond .lt 25, 3) := tb_at tbX8_isWordInUse_n20_ok 3 rfl
theorem dX8_isWordInUse_6 : decode cX8_isWordInUse 6 = .ok (.lload_n 1, 1) := tb_at tbX8_isWordInUse_n20_ok 4 rfl
theorem dX8_isWordInUse_7 : decode cX8_isWordInUse 7 = .ok (.ldc2_w 275, 3) := tb_at tbX8_isWordInUse_n20_ok 5 rfl
theorem dX8_isWordInUse_10 : decode cX8_isWordInUse 10 = .ok (.lcmp, 1) := tb_at tbX8_isWordInUse_n20_ok 6 rfl
theorem dX8_isWordInUse_11 : decode cX8_isWordInUse 11 = .ok (.ifCond .ge 17, 3) := tb_at tbX8_isWordInUse_n20_ok 7 rfl
theorem dX8_isWordInUse_14 : decode cX8_isWordInUse 14 = .ok (.aload_n 0, 1) := tb_at tbX8_isWordInUse_n20_ok 8 rfl
theorem dX8_isWordInUse_15 : decode cX8_isWordInUse 15 = .ok (.getfield 21, 3) := tb_at tbX8_isWordInUse_n20_ok 9 rfl
theorem dX8_isWordInUse_18 : decode cX8_isWordInUse 18 = .ok (.lload_n 1, 1) := tb_at tbX8_isWordInUse_n20_ok 10 rfl
theorem dX8_isWordInUse_19 : decode cX8_isWordInUse 19 = .ok (.l2i, 1) := tb_at tbX8_isWordInUse_n20_ok 11 rfl
theorem dX8_isWordInUse_20 : decode cX8_isWordInUse 20 = .ok (.baload, 1) := tb_at tbX8_isWordInUse_n20_ok 12 rfl
theorem dX8_isWordInUse_21 : decode cX8_isWordInUse 21 = .ok (.ifCond .eq 7, 3) := tb_at tbX8_isWordInUse_n20_ok 13 rfl
theorem dX8_isWordInUse_24 : decode cX8_isWordInUse 24 = .ok (.iconst 1, 1) := tb_at tbX8_isWordInUse_n20_ok 14 rfl
theorem dX8_isWordInUse_25 : decode cX8_isWordInUse 25 = .ok (.goto 4, 3) := tb_at tbX8_isWordInUse_n20_ok 15 rfl
theorem dX8_isWordInUse_28 : decode cX8_isWordInUse 28 = .ok (.iconst 0, 1) := tb_at tbX8_isWordInUse_n20_ok 16 rfl
theorem dX8_isWordInUse_29 : decode cX8_isWordInUse 29 = .ok (.ireturn, 1) := tb_at tbX8_isWordInUse_n20_ok 17 rfl
set_option maxRecDepth 20000 in
theorem ggX8_typeNumbered_X8_isBelow : GoodIn wsX8_typeNumbered wsX8_isBelow := goodIn_r _ [6] (by decide +kernel) (by decide +kernel)
set_option maxRecDepth 20000 in
theorem gX8_typeNumbered_X8_isBelow : GoodIn wsX8_typeNumbered (va_wsS RX8 74 yX8_isBelow wsX8_isBelow) := goodIn_app (goodIn_of _ (by decide +kernel)) ggX8_typeNumbered_X8_isBelow
noncomputable def tbX8_typeNumbered_n20 : List (Nat × Instr × Nat) := [(0, (.iload_n 1), 1), (1, (.aload_n 0), 1), (2, (.getfield 63), 3), (5, (.invokestatic 74), 3), (8, (.ifCond .eq 12), 3), (11, (.aload_n 0), 1), (12, (.getfield 11), 3), (15, (.iload_n 1), 1), (16, .aaload, 1), (17, (.goto 4), 3), (20, .aconst_null, 1), (21, .areturn, 1)]
theorem tbX8_typeNumbered_n20_ok : ∀ q ∈ tbX8_typeNumbered_n20, decode cX8_typeNumbered q.1 = .ok q.2 := by decide +kernel
theorem dX8_typeNumbered_0 : decode cX8_typeNumbered 0 = .ok (.iload_n 1, 1) := tb_at tbX8_typeNumbered_n20_ok 0 rfl
theorem dX8_typeNumbered_1 : decode cX8_typeNumbered 1 = .ok (.aload_n 0, 1) := tb_at tbX8_typeNumbered_n20_ok 1 rfl
theorem dX8_typeNumbered_2 : decode cX8_typeNumbered 2 = .ok (.getfield 63, 3) := tb_at tbX8_typeNumbered_n20_ok 2 rfl
theorem dX8_typeNumbered_5 : decode cX8_typeNumbered 5 = .ok (.invokestatic 74, 3) := tb_at tbX8_typeNumbered_n20_ok 3 rfl
theorem dX8_typeNumbered_8 : decode cX8_typeNumbered 8 = .ok (.ifCond .eq 12, 3) := tb_at tbX8_typeNumbered_n20_ok 4 rfl
theorem dX8_typeNumbered_11 : decode cX8_typeNumbered 11 = .ok (.aload_n 0, 1) := tb_at tbX8_typeNumbered_n20_ok 5 rfl
theorem dX8_typeNumbered_12 : decode cX8_typeNumbered 12 = .ok (.getfield 11, 3) := tb_at tbX8_typeNumbered_n20_ok 6 rfl
theorem dX8_typeNumbered_15 : decode cX8_typeNumbered 15 = .ok (.iload_n 1, 1) := tb_at tbX8_typeNumbered_n20_ok 7 rfl
theorem dX8_typeNumbered_16 : decode cX8_typeNumbered 16 = .ok (.aaload, 1) := tb_at tbX8_typeNumbered_n20_ok 8 rfl
theorem dX8_typeNumbered_17 : decode cX8_typeNumbered 17 = .ok (.goto 4, 3) := tb_at tbX8_typeNumbered_n20_ok 9 rfl
theorem dX8_typeNumbered_20 : decode cX8_typeNumbered 20 = .ok (.aconst_null, 1) := tb_at tbX8_typeNumbered_n20_ok 10 rfl
theorem dX8_typeNumbered_21 : decode cX8_typeNumbered 21 = .ok (.areturn, 1) := tb_at tbX8_typeNumbered_n20_ok 11 rfl
noncomputable def tbX8_thingNumbered_n20 : List (Nat × Instr × Nat) := [(0, (.lload_n 1), 1), (1, (.lconst 0), 1), (2, .lcmp, 1), (3, (.ifCond .lt 23), 3), (6, (.lload_n 1), 1), (7, (.aload_n 0), 1), (8, (.getfield 94), 3), (11, .i2l, 1), (12, .lcmp, 1), (13, (.ifCond .ge 13), 3), (16, (.aload_n 0), 1), (17, (.getfield 17), 3), (20, (.lload_n 1), 1), (21, .l2i, 1), (22, .aaload, 1), (23, (.goto 4), 3), (26, .aconst_null, 1), (27, .areturn, 1)]
theorem tbX8_thingNumbered_n20_ok : ∀ q ∈ tbX8_thingNumbered_n20, decode cX8_thingNumbered q.1 = .ok q.2 := by decide +kernel
theorem dX8_thingNumbered_0 : decode cX8_thingNumbered 0 = .ok (.lload_n 1, 1) := tb_at tbX8_thingNumbered_n20_ok 0 rfl
theorem dX8_thingNumbered_1 : decode cX8_thingNumbered 1 = .ok (.lconst 0, 1) := tb_at tbX8_thingNumbered_n20_ok 1 rfl
theorem dX8_thingNumbered_2 : decode cX8_thingNumbered 2 = .ok (.lcmp, 1) := tb_at tbX8_thingNumbered_n20_ok 2 rfl
theorem dX8_thingNumbered_3 : decode cX8_thingNumbered 3 = .ok (.ifCond .lt 23, 3) := tb_at tbX8_thingNumbered_n20_ok 3 rfl
theorem dX8_thingNumbered_6 : decode cX8_thingNumbered 6 = .ok (.lload_n 1, 1) := tb_at tbX8_thingNumbered_n20_ok 4 rfl
theorem dX8_thingNumbered_7 : decode cX8_thingNumbered 7 = .ok (.aload_n 0, 1) := tb_at tbX8_thingNumbered_n20_ok 5 rfl
theorem dX8_thingNumbered_8 : decode cX8_thingNumbered 8 = .ok (.getfield 94, 3) := tb_at tbX8_thingNumbered_n20_ok 6 rfl
theorem dX8_thingNumbered_11 : decode cX8_thingNumbered 11 = .ok (.i2l, 1) := tb_at tbX8_thingNumbered_n20_ok 7 rfl
theorem dX8_thingNumbered_12 : decode cX8_thingNumbered 12 = .ok (.lcmp, 1) := tb_at tbX8_thingNumbered_n20_ok 8 rfl
theorem dX8_thingNumbered_13 : decode cX8_thingNumbered 13 = .ok (.ifCond .ge 13, 3) := tb_at tbX8_thingNumbered_n20_ok 9 rfl
theorem dX8_thingNumbered_16 : decode cX8_thingNumbered 16 = .ok (.aload_n 0, 1) := tb_at tbX8_thingNumbered_n20_ok 10 rfl
theorem dX8_thingNumbered_17 : decode cX8_thingNumbered 17 = .ok (.getfield 17, 3) := tb_at tbX8_thingNumbered_n20_ok 11 rfl
theorem dX8_thingNumbered_20 : decode cX8_thingNumbered 20 = .ok (.lload_n 1, 1) := tb_at tbX8_thingNumbered_n20_ok 12 rfl
theorem dX8_thingNumbered_21 : decode cX8_thingNumbered 21 = .ok (.l2i, 1) := tb_at tbX8_thingNumbered_n20_ok 13 rfl
theorem dX8_thingNumbered_22 : decode cX8_thingNumbered 22 = .ok (.aaload, 1) := tb_at tbX8_thingNumbered_n20_ok 14 rfl
theorem dX8_thingNumbered_23 : decode cX8_thingNumbered 23 = .ok (.goto 4, 3) := tb_at tbX8_thingNumbered_n20_ok 15 rfl
theorem dX8_thingNumbered_26 : decode cX8_thingNumbered 26 = .ok (.aconst_null, 1) := tb_at tbX8_thingNumbered_n20_ok 16 rfl
theorem dX8_thingNumbered_27 : decode cX8_thingNumbered 27 = .ok (.areturn, 1) := tb_at tbX8_thingNumbered_n20_ok 17 rfl
set_option maxRecDepth 20000 in
theorem ggX8_thingWithField_X8_thingNumbered : GoodIn wsX8_thingWithField wsX8_thingNumbered := goodIn_r _ [6, 7, 8, 21, 22, 23, 24, 25, 26, 27, 28, 29, 30, 31, 32] (by decide +kernel) (by decide +kernel)
set_option maxRecDepth 20000 in
theorem gX8_thingWithField_X8_thingNumbered : GoodIn wsX8_thingWithField (wsV RX8 177 RX8 yX8_thingNumbered wsX8_thingNumbered) := goodIn_app (goodIn_of _ (by decide +kernel)) ggX8_thingWithField_X8_thingNumbered
set_option maxRecDepth 20000 in
theorem ggX8_thingWithField_X7_hasField : GoodIn wsX8_thingWithField wsX7_hasField := goodIn_r _ [13, 14, 15, 5, 16, 33, 34, 35, 36, 37, 38, 39, 40] (by decide +kernel) (by decide +kernel)
set_option maxRecDepth 20000 in
theorem gX8_thingWithField_X7_hasField : GoodIn wsX8_thingWithField (wsV RX8 104 RX7 yX7_hasField wsX7_hasField) := goodIn_app (goodIn_of _ (by decide +kernel)) ggX8_thingWithField_X7_hasField
noncomputable def tbX8_thingWithField_n20 : List (Nat × Instr × Nat) := [(0, (.aload_n 0), 1), (1, (.iload_n 1), 1), (2, .i2l, 1), (3, (.invokevirtual 177), 3), (6, (.astore_n 3), 1), (7, (.aload_n 3), 1), (8, (.ifnull 18), 3), (11, (.aload_n 3), 1), (12, (.getfield 97), 3), (15, (.iload_n 2), 1), (16, (.invokevirtual 104), 3), (19, (.ifCond .eq 7), 3), (22, (.aload_n 3), 1), (23, (.goto 4), 3), (26, .aconst_null, 1), (27, .areturn, 1)]
theorem tbX8_thingWithField_n20_ok : ∀ q ∈ tbX8_thingWithField_n20, decode cX8_thingWithField q.1 = .ok q.2 := by decide +kernel
theorem dX8_thingWithField_0 : decode cX8_thingWithField 0 = .ok (.aload_n 0, 1) := tb_at tbX8_thingWithField_n20_ok 0 rfl
theorem dX8_thingWithField_1 : decode cX8_thingWithField 1 = .ok (.iload_n 1, 1) := tb_at tbX8_thingWithField_n20_ok 1 rfl
theorem dX8_thingWithField_2 : decode cX8_thingWithField 2 = .ok (.i2l, 1) := tb_at tbX8_thingWithField_n20_ok 2 rfl
theorem dX8_thingWithField_3 : decode cX8_thingWithField 3 = .ok (.invokevirtual 177, 3) := tb_at tbX8_thingWithField_n20_ok 3 rfl
theorem dX8_thingWithField_6 : decode cX8_thingWithField 6 = .ok (.astore_n 3, 1) := tb_at tbX8_thingWithField_n20_ok 4 rfl
theorem dX8_thingWithField_7 : decode cX8_thingWithField 7 = .ok (.aload_n 3, 1) := tb_at tbX8_thingWithField_n20_ok 5 rfl
theorem dX8_thingWithField_8 : decode cX8_thingWithField 8 = .ok (.ifnull 18, 3) := tb_at tbX8_thingWithField_n20_ok 6 rfl
theorem dX8_thingWithField_11 : decode cX8_thingWithField 11 = .ok (.aload_n 3, 1) := tb_at tbX8_thingWithField_n20_ok 7 rfl
theorem dX8_thingWithField_12 : decode cX8_thingWithField 12 = .ok (.getfield 97, 3) := tb_at tbX8_thingWithField_n20_ok 8 rfl
theorem dX8_thingWithField_15 : decode cX8_thingWithField 15 = .ok (.iload_n 2, 1) := tb_at tbX8_thingWithField_n20_ok 9 rfl
theorem dX8_thingWithField_16 : decode cX8_thingWithField 16 = .ok (.invokevirtual 104, 3) := tb_at tbX8_thingWithField_n20_ok 10 rfl
theorem dX8_thingWithField_19 : decode cX8_thingWithField 19 = .ok (.ifCond .eq 7, 3) := tb_at tbX8_thingWithField_n20_ok 11 rfl
theorem dX8_thingWithField_22 : decode cX8_thingWithField 22 = .ok (.aload_n 3, 1) := tb_at tbX8_thingWithField_n20_ok 12 rfl
theorem dX8_thingWithField_23 : decode cX8_thingWithField 23 = .ok (.goto 4, 3) := tb_at tbX8_thingWithField_n20_ok 13 rfl
theorem dX8_thingWithField_26 : decode cX8_thingWithField 26 = .ok (.aconst_null, 1) := tb_at tbX8_thingWithField_n20_ok 14 rfl
theorem dX8_thingWithField_27 : decode cX8_thingWithField 27 = .ok (.areturn, 1) := tb_at tbX8_thingWithField_n20_ok 15 rfl
noncomputable def tbX8_lowestBits_n20 : List (Nat × Instr × Nat) := [(0, (.iload_n 2), 1), (1, (.iconst 3), 1), (2, (.if_icmp .ne 8), 3), (5, (.lload_n 0), 1), (6, .l2i, 1), (7, .i2b, 1), (8, .i2l, 1), (9, .lreturn, 1), (10, (.iload_n 2), 1), (11, (.iconst 4), 1), (12, (.if_icmp .ne 9), 3), (15, (.lload_n 0), 1), (16, .l2i, 1), (17, .i2l, 1), (18, (.goto 4), 3), (21, (.lload_n 0), 1), (22, .lreturn, 1)]
theorem tbX8_lowestBits_n20_ok : ∀ q ∈ tbX8_lowestBits_n20, decode cX8_lowestBits q.1 = .ok q.2 := by decide +kernel
theorem dX8_lowestBits_0 : decode cX8_lowestBits 0 = .ok (.iload_n 2, 1) := tb_at tbX8_lowestBits_n20_ok 0 rfl
theorem dX8_lowestBits_1 : decode cX8_lowestBits 1 = .ok (.iconst 3, 1) := tb_at tbX8_lowestBits_n20_ok 1 rfl
theorem dX8_lowestBits_2 : decode cX8_lowestBits 2 = .ok (.if_icmp .ne 8, 3) := tb_at tbX8_lowestBits_n20_ok 2 rfl
theorem dX8_lowestBits_5 : decode cX8_lowestBits 5 = .ok (.lload_n 0, 1) := tb_at tbX8_lowestBits_n20_ok 3 rfl
theorem dX8_lowestBits_6 : decode cX8_lowestBits 6 = .ok (.l2i, 1) := tb_at tbX8_lowestBits_n20_ok 4 rfl
theorem dX8_lowestBits_7 : decode cX8_lowestBits 7 = .ok (.i2b, 1) := tb_at tbX8_lowestBits_n20_ok 5 rfl
theorem dX8_lowestBits_8 : decode cX8_lowestBits 8 = .ok (.i2l, 1) := tb_at tbX8_lowestBits_n20_ok 6 rfl
theorem dX8_lowestBits_9 : decode cX8_lowestBits 9 = .ok (.lreturn, 1) := tb_at tbX8_lowestBits_n20_ok 7 rfl
theorem dX8_lowestBits_10 : decode cX8_lowestBits 10 = .ok (.iload_n 2, 1) := tb_at tbX8_lowestBits_n20_ok 8 rfl
theorem dX8_lowestBits_11 : decode cX8_lowestBits 11 = .ok (.iconst 4, 1) := tb_at tbX8_lowestBits_n20_ok 9 rfl
theorem dX8_lowestBits_12 : decode cX8_lowestBits 12 = .ok (.if_icmp .ne 9, 3) := tb_at tbX8_lowestBits_n20_ok 10 rfl
theorem dX8_lowestBits_15 : decode cX8_lowestBits 15 = .ok (.lload_n 0, 1) := tb_at tbX8_lowestBits_n20_ok 11 rfl
theorem dX8_lowestBits_16 : decode cX8_lowestBits 16 = .ok (.l2i, 1) := tb_at tbX8_lowestBits_n20_ok 12 rfl
theorem dX8_lowestBits_17 : decode cX8_lowestBits 17 = .ok (.i2l, 1) := tb_at tbX8_lowestBits_n20_ok 13 rfl
theorem dX8_lowestBits_18 : decode cX8_lowestBits 18 = .ok (.goto 4, 3) := tb_at tbX8_lowestBits_n20_ok 14 rfl
theorem dX8_lowestBits_21 : decode cX8_lowestBits 21 = .ok (.lload_n 0, 1) := tb_at tbX8_lowestBits_n20_ok 15 rfl
theorem dX8_lowestBits_22 : decode cX8_lowestBits 22 = .ok (.lreturn, 1) := tb_at tbX8_lowestBits_n20_ok 16 rfl
set_option maxRecDepth 20000 in
theorem ggX8_changeValue_X2_isFull : GoodIn wsX8_changeValue wsX2_isFull := goodIn_r _ [7, 8, 42, 43, 44, 45] (by decide +kernel) (by decide +kernel)
set_option maxRecDepth 20000 in
theorem gX8_changeValue_X2_isFull : GoodIn wsX8_changeValue (wsV RX8 165 RX2 yX2_isFull wsX2_isFull) := goodIn_app (goodIn_of _ (by decide +kernel)) ggX8_changeValue_X2_isFull
set_option maxRecDepth 20000 in
theorem ggX8_changeValue_X2_noteField : GoodIn wsX8_changeValue wsX2_noteField := goodIn_r _ [12, 13, 14, 15, 16, 17, 6, 18, 19, 20, 8, 21, 22, 23, 24, 25, 4, 5, 7, 38, 39, 40, 41, 42, 43, 44, 45, 46, 47, 48, 49] (by decide +kernel) (by decide +kernel)
set_option maxRecDepth 20000 in
theorem gX8_changeValue_X2_noteField : GoodIn wsX8_changeValue (wsV RX8 277 RX2 yX2_noteField wsX2_noteField) := goodIn_app (goodIn_of _ (by decide +kernel)) ggX8_changeValue_X2_noteField
noncomputable def tbX8_changeValue_n20 : List (Nat × Instr × Nat) := [(0, (.aload_n 0), 1), (1, (.getfield 51), 3), (4, (.invokevirtual 165), 3), (7, (.ifCond .eq 6), 3), (10, (.bipush (-4)), 2), (12, .ireturn, 1), (13, (.aload_n 0), 1), (14, (.getfield 51), 3), (17, (.aload_n 1), 1), (18, (.iload_n 2), 1), (19, (.invokevirtual 277), 3), (22, (.aload_n 1), 1), (23, (.getfield 193), 3), (26, (.iload_n 2), 1), (27, (.lload_n 3), 1), (28, .lastore, 1), (29, (.iconst 1), 1), (30, .ireturn, 1)]
theorem tbX8_changeValue_n20_ok : ∀ q ∈ tbX8_changeValue_n20, decode cX8_changeValue q.1 = .ok q.2 := by decide +kernel
theorem dX8_changeValue_0 : decode cX8_changeValue 0 = .ok (.aload_n 0, 1) := tb_at tbX8_changeValue_n20_ok 0 rfl
theorem dX8_changeValue_1 : decode cX8_changeValue 1 = .ok (.getfield 51, 3) := tb_at tbX8_changeValue_n20_ok 1 rfl
theorem dX8_changeValue_4 : decode cX8_changeValue 4 = .ok (.invokevirtual 165, 3) := tb_at tbX8_changeValue_n20_ok 2 rfl
theorem dX8_changeValue_7 : decode cX8_changeValue 7 = .ok (.ifCond .eq 6, 3) := tb_at tbX8_changeValue_n20_ok 3 rfl
theorem dX8_changeValue_10 : decode cX8_changeValue 10 = .ok (.bipush (-4), 2) := tb_at tbX8_changeValue_n20_ok 4 rfl
theorem dX8_changeValue_12 : decode cX8_changeValue 12 = .ok (.ireturn, 1) := tb_at tbX8_changeValue_n20_ok 5 rfl
theorem dX8_changeValue_13 : decode cX8_changeValue 13 = .ok (.aload_n 0, 1) := tb_at tbX8_changeValue_n20_ok 6 rfl
theorem dX8_changeValue_14 : decode cX8_changeValue 14 = .ok (.getfield 51, 3) := tb_at tbX8_changeValue_n20_ok 7 rfl
theorem dX8_changeValue_17 : decode cX8_changeValue 17 = .ok (.aload_n 1, 1) := tb_at tbX8_changeValue_n20_ok 8 rfl
theorem dX8_changeValue_18 : decode cX8_changeValue 18 = .ok (.iload_n 2, 1) := tb_at tbX8_changeValue_n20_ok 9 rfl
theorem dX8_changeValue_19 : decode cX8_changeValue 19 = .ok (.invokevirtual 277, 3) := tb_at tbX8_changeValue_n20_ok 10 rfl
theorem dX8_changeValue_22 : decode cX8_changeValue 22 = .ok (.aload_n 1, 1) := tb_at tbX8_changeValue_n20_ok 11 rfl
theorem dX8_changeValue_23 : decode cX8_changeValue 23 = .ok (.getfield 193, 3) := tb_at tbX8_changeValue_n20_ok 12 rfl
theorem dX8_changeValue_26 : decode cX8_changeValue 26 = .ok (.iload_n 2, 1) := tb_at tbX8_changeValue_n20_ok 13 rfl
theorem dX8_changeValue_27 : decode cX8_changeValue 27 = .ok (.lload_n 3, 1) := tb_at tbX8_changeValue_n20_ok 14 rfl
theorem dX8_changeValue_28 : decode cX8_changeValue 28 = .ok (.lastore, 1) := tb_at tbX8_changeValue_n20_ok 15 rfl
theorem dX8_changeValue_29 : decode cX8_changeValue 29 = .ok (.iconst 1, 1) := tb_at tbX8_changeValue_n20_ok 16 rfl
theorem dX8_changeValue_30 : decode cX8_changeValue 30 = .ok (.ireturn, 1) := tb_at tbX8_changeValue_n20_ok 17 rfl
set_option maxRecDepth 20000 in
theorem ggX8_changeRow_X2_isFull : GoodIn wsX8_changeRow wsX2_isFull := goodIn_r _ [7, 8, 42, 43, 44, 45] (by decide +kernel) (by decide +kernel)
set_option maxRecDepth 20000 in
theorem gX8_changeRow_X2_isFull : GoodIn wsX8_changeRow (wsV RX8 165 RX2 yX2_isFull wsX2_isFull) := goodIn_app (goodIn_of _ (by decide +kernel)) ggX8_changeRow_X2_isFull
set_option maxRecDepth 20000 in
theorem ggX8_changeRow_X2_noteField : GoodIn wsX8_changeRow wsX2_noteField := goodIn_r _ [12, 13, 14, 15, 16, 17, 6, 18, 19, 20, 8, 21, 22, 23, 24, 25, 4, 5, 7, 38, 39, 40, 41, 42, 43, 44, 45, 46, 47, 48, 49] (by decide +kernel) (by decide +kernel)
set_option maxRecDepth 20000 in
theorem gX8_changeRow_X2_noteField : GoodIn wsX8_changeRow (wsV RX8 277 RX2 yX2_noteField wsX2_noteField) := goodIn_app (goodIn_of _ (by decide +kernel)) ggX8_changeRow_X2_noteField
noncomputable def tbX8_changeRow_n20 : List (Nat × Instr × Nat) := [(0, (.aload_n 0), 1), (1, (.getfield 51), 3), (4, (.invokevirtual 165), 3), (7, (.ifCond .eq 6), 3), (10, (.bipush (-4)), 2), (12, .ireturn, 1), (13, (.aload_n 0), 1), (14, (.getfield 51), 3), (17, (.aload_n 1), 1), (18, (.iload_n 2), 1), (19, (.invokevirtual 277), 3), (22, (.aload_n 1), 1), (23, (.getfield 158), 3), (26, (.iload_n 2), 1), (27, (.aload_n 3), 1), (28, .aastore, 1), (29, (.iconst 1), 1), (30, .ireturn, 1)]
theorem tbX8_changeRow_n20_ok : ∀ q ∈ tbX8_changeRow_n20, decode cX8_changeRow q.1 = .ok q.2 := by decide +kernel
theorem dX8_changeRow_0 : decode cX8_changeRow 0 = .ok (.aload_n 0, 1) := tb_at tbX8_changeRow_n20_ok 0 rfl
theorem dX8_changeRow_1 : decode cX8_changeRow 1 = .ok (.getfield 51, 3) := tb_at tbX8_changeRow_n20_ok 1 rfl
theorem dX8_changeRow_4 : decode cX8_changeRow 4 = .ok (.invokevirtual 165, 3) := tb_at tbX8_changeRow_n20_ok 2 rfl
theorem dX8_changeRow_7 : decode cX8_changeRow 7 = .ok (.ifCond .eq 6, 3) := tb_at tbX8_changeRow_n20_ok 3 rfl
theorem dX8_changeRow_10 : decode cX8_changeRow 10 = .ok (.bipush (-4), 2) := tb_at tbX8_changeRow_n20_ok 4 rfl
theorem dX8_changeRow_12 : decode cX8_changeRow 12 = .ok (.ireturn, 1) := tb_at tbX8_changeRow_n20_ok 5 rfl
theorem dX8_changeRow_13 : decode cX8_changeRow 13 = .ok (.aload_n 0, 1) := tb_at tbX8_changeRow_n20_ok 6 rfl
theorem dX8_changeRow_14 : decode cX8_changeRow 14 = .ok (.getfield 51, 3) := tb_at tbX8_changeRow_n20_ok 7 rfl
theorem dX8_changeRow_17 : decode cX8_changeRow 17 = .ok (.aload_n 1, 1) := tb_at tbX8_changeRow_n20_ok 8 rfl
theorem dX8_changeRow_18 : decode cX8_changeRow 18 = .ok (.iload_n 2, 1) := tb_at tbX8_changeRow_n20_ok 9 rfl
theorem dX8_changeRow_19 : decode cX8_changeRow 19 = .ok (.invokevirtual 277, 3) := tb_at tbX8_changeRow_n20_ok 10 rfl
theorem dX8_changeRow_22 : decode cX8_changeRow 22 = .ok (.aload_n 1, 1) := tb_at tbX8_changeRow_n20_ok 11 rfl
theorem dX8_changeRow_23 : decode cX8_changeRow 23 = .ok (.getfield 158, 3) := tb_at tbX8_changeRow_n20_ok 12 rfl
theorem dX8_changeRow_26 : decode cX8_changeRow 26 = .ok (.iload_n 2, 1) := tb_at tbX8_changeRow_n20_ok 13 rfl
theorem dX8_changeRow_27 : decode cX8_changeRow 27 = .ok (.aload_n 3, 1) := tb_at tbX8_changeRow_n20_ok 14 rfl
theorem dX8_changeRow_28 : decode cX8_changeRow 28 = .ok (.aastore, 1) := tb_at tbX8_changeRow_n20_ok 15 rfl
theorem dX8_changeRow_29 : decode cX8_changeRow 29 = .ok (.iconst 1, 1) := tb_at tbX8_changeRow_n20_ok 16 rfl
theorem dX8_changeRow_30 : decode cX8_changeRow 30 = .ok (.ireturn, 1) := tb_at tbX8_changeRow_n20_ok 17 rfl
set_option maxRecDepth 20000 in
theorem ggX8_firstFailingCheck_X8_failureOf : GoodIn wsX8_firstFailingCheck wsX8_failureOf := goodIn_r _ [8, 9, 10, 11, 7, 12, 1, 13, 14, 15, 16, 17, 18, 19, 20, 21, 22, 23, 24, 25, 26, 27, 28, 29, 30, 31, 32, 33, 34, 35, 36, 37, 38, 39, 40, 41, 42, 43, 44, 45, 46, 47, 48, 49, 50, 51, 52, 53, 54, 55, 56, 57, 58, 59, 60, 61, 62, 63, 64, 65, 66, 67, 68, 81, 82, 83, 84, 69, 70, 71, 72, 73, 74, 75, 76, 77, 78, 79, 80, 85, 86, 87, 88, 89, 90, 91, 92, 93, 94, 95, 96, 97, 98] (by decide +kernel) (by decide +kernel)
set_option maxRecDepth 20000 in
theorem gX8_firstFailingCheck_X8_failureOf : GoodIn wsX8_firstFailingCheck (wsV RX8 212 RX8 yX8_failureOf wsX8_failureOf) := goodIn_app (goodIn_of _ (by decide +kernel)) ggX8_firstFailingCheck_X8_failureOf
noncomputable def tbX8_firstFailingCheck_n20 : List (Nat × Instr × Nat) := [(0, (.iconst 0), 1), (1, (.istore_n 2), 1), (2, (.iload_n 2), 1), (3, (.aload_n 1), 1), (4, (.getfield 97), 3), (7, (.getfield 115), 3), (10, (.if_icmp .ge 28), 3), (13, (.aload_n 0), 1), (14, (.aload_n 1), 1), (15, (.aload_n 1), 1), (16, (.getfield 97), 3), (19, (.getfield 118), 3), (22, (.iload_n 2), 1), (23, .aaload, 1), (24, (.invokevirtual 212), 3), (27, (.ifCond .eq 5), 3), (30, (.iload_n 2), 1), (31, .ireturn, 1), (32, (.iinc 2 1), 3), (35, (.goto (-33)), 3), (38, (.iconst (-1)), 1), (39, .ireturn, 1)]
theorem tbX8_firstFailingCheck_n20_ok : ∀ q ∈ tbX8_firstFailingCheck_n20, decode cX8_firstFailingCheck q.1 = .ok q.2 := by decide +kernel
theorem dX8_firstFailingCheck_0 : decode cX8_firstFailingCheck 0 = .ok (.iconst 0, 1) := tb_at tbX8_firstFailingCheck_n20_ok 0 rfl
theorem dX8_firstFailingCheck_1 : decode cX8_firstFailingCheck 1 = .ok (.istore_n 2, 1) := tb_at tbX8_firstFailingCheck_n20_ok 1 rfl
theorem dX8_firstFailingCheck_2 : decode cX8_firstFailingCheck 2 = .ok (.iload_n 2, 1) := tb_at tbX8_firstFailingCheck_n20_ok 2 rfl
theorem dX8_firstFailingCheck_3 : decode cX8_firstFailingCheck 3 = .ok (.aload_n 1, 1) := tb_at tbX8_firstFailingCheck_n20_ok 3 rfl
theorem dX8_firstFailingCheck_4 : decode cX8_firstFailingCheck 4 = .ok (.getfield 97, 3) := tb_at tbX8_firstFailingCheck_n20_ok 4 rfl
theorem dX8_firstFailingCheck_7 : decode cX8_firstFailingCheck 7 = .ok (.getfield 115, 3) := tb_at tbX8_firstFailingCheck_n20_ok 5 rfl
theorem dX8_firstFailingCheck_10 : decode cX8_firstFailingCheck 10 = .ok (.if_icmp .ge 28, 3) := tb_at tbX8_firstFailingCheck_n20_ok 6 rfl
theorem dX8_firstFailingCheck_13 : decode cX8_firstFailingCheck 13 = .ok (.aload_n 0, 1) := tb_at tbX8_firstFailingCheck_n20_ok 7 rfl
theorem dX8_firstFailingCheck_14 : decode cX8_firstFailingCheck 14 = .ok (.aload_n 1, 1) := tb_at tbX8_firstFailingCheck_n20_ok 8 rfl
theorem dX8_firstFailingCheck_15 : decode cX8_firstFailingCheck 15 = .ok (.aload_n 1, 1) := tb_at tbX8_firstFailingCheck_n20_ok 9 rfl
theorem dX8_firstFailingCheck_16 : decode cX8_firstFailingCheck 16 = .ok (.getfield 97, 3) := tb_at tbX8_firstFailingCheck_n20_ok 10 rfl
theorem dX8_firstFailingCheck_19 : decode cX8_firstFailingCheck 19 = .ok (.getfield 118, 3) := tb_at tbX8_firstFailingCheck_n20_ok 11 rfl
theorem dX8_firstFailingCheck_22 : decode cX8_firstFailingCheck 22 = .ok (.iload_n 2, 1) := tb_at tbX8_firstFailingCheck_n20_ok 12 rfl
theorem dX8_firstFailingCheck_23 : decode cX8_firstFailingCheck 23 = .ok (.aaload, 1) := tb_at tbX8_firstFailingCheck_n20_ok 13 rfl
theorem dX8_firstFailingCheck_24 : decode cX8_firstFailingCheck 24 = .ok (.invokevirtual 212, 3) := tb_at tbX8_firstFailingCheck_n20_ok 14 rfl
theorem dX8_firstFailingCheck_27 : decode cX8_firstFailingCheck 27 = .ok (.ifCond .eq 5, 3) := tb_at tbX8_firstFailingCheck_n20_ok 15 rfl
theorem dX8_firstFailingCheck_30 : decode cX8_firstFailingCheck 30 = .ok (.iload_n 2, 1) := tb_at tbX8_firstFailingCheck_n20_ok 16 rfl
theorem dX8_firstFailingCheck_31 : decode cX8_firstFailingCheck 31 = .ok (.ireturn, 1) := tb_at tbX8_firstFailingCheck_n20_ok 17 rfl
theorem dX8_firstFailingCheck_32 : decode cX8_firstFailingCheck 32 = .ok (.iinc 2 1, 3) := tb_at tbX8_firstFailingCheck_n20_ok 18 rfl
theorem dX8_firstFailingCheck_35 : decode cX8_firstFailingCheck 35 = .ok (.goto (-33), 3) := tb_at tbX8_firstFailingCheck_n20_ok 19 rfl
theorem dX8_firstFailingCheck_38 : decode cX8_firstFailingCheck 38 = .ok (.iconst (-1), 1) := tb_at tbX8_firstFailingCheck_n20_ok 20 rfl
theorem dX8_firstFailingCheck_39 : decode cX8_firstFailingCheck 39 = .ok (.ireturn, 1) := tb_at tbX8_firstFailingCheck_n20_ok 21 rfl
set_option maxRecDepth 20000 in
theorem ggX8_failureOf_X8_failureOfDivides : GoodIn wsX8_failureOf wsX8_failureOfDivides := goodIn_r _ [5, 6, 7, 8, 9, 10, 11, 12, 13, 14, 15, 16, 17, 18, 19, 20, 21, 4, 22, 67, 68, 69, 70, 63, 64, 65, 66, 71, 72, 73, 74, 75, 76, 77, 78] (by decide +kernel) (by decide +kernel)
set_option maxRecDepth 20000 in
theorem gX8_failureOf_X8_failureOfDivides : GoodIn wsX8_failureOf (va_wsS RX8 284 yX8_failureOfDivides wsX8_failureOfDivides) := goodIn_app (goodIn_of _ (by decide +kernel)) ggX8_failureOf_X8_failureOfDivides
set_option maxRecDepth 20000 in
theorem ggX8_failureOf_X8_failureOfMeets : GoodIn wsX8_failureOf wsX8_failureOfMeets := goodIn_r _ [26, 6, 7, 9, 27, 28, 10, 11, 12, 13, 14, 15, 16, 17, 18, 19, 20, 21, 4, 22, 29, 30, 31, 32, 33, 34, 67, 68, 69, 70, 63, 64, 65, 66, 71, 72, 73, 74, 75, 76, 77, 78, 79, 80, 81, 82, 83, 84, 85, 86, 87, 88, 89, 90] (by decide +kernel) (by decide +kernel)
set_option maxRecDepth 20000 in
theorem gX8_failureOf_X8_failureOfMeets : GoodIn wsX8_failureOf (wsV RX8 287 RX8 yX8_failureOfMeets wsX8_failureOfMeets) := goodIn_app (goodIn_of _ (by decide +kernel)) ggX8_failureOf_X8_failureOfMeets
set_option maxRecDepth 20000 in
theorem ggX8_failureOf_X8_failureOfHas : GoodIn wsX8_failureOf wsX8_failureOfHas := goodIn_r _ [37, 6, 7, 8, 38, 9, 39, 28, 40, 41, 42, 13, 43, 15, 16, 17, 18, 19, 20, 21, 4, 22, 44, 45, 10, 11, 12, 14, 67, 68, 69, 70, 63, 64, 65, 66, 91, 92, 71, 72, 73, 74, 75, 76, 77, 78] (by decide +kernel) (by decide +kernel)
set_option maxRecDepth 20000 in
theorem gX8_failureOf_X8_failureOfHas : GoodIn wsX8_failureOf (va_wsS RX8 290 yX8_failureOfHas wsX8_failureOfHas) := goodIn_app (goodIn_of _ (by decide +kernel)) ggX8_failureOf_X8_failureOfHas
set_option maxRecDepth 20000 in
theorem ggX8_failureOf_X8_failureOfHolds : GoodIn wsX8_failureOf wsX8_failureOfHolds := goodIn_r _ [48, 6, 7, 9, 49, 10, 11, 12, 13, 14, 15, 16, 17, 18, 19, 20, 21, 4, 22, 67, 68, 69, 70, 63, 64, 65, 66, 71, 72, 73, 74, 75, 76, 77, 78] (by decide +kernel) (by decide +kernel)
set_option maxRecDepth 20000 in
theorem gX8_failureOf_X8_failureOfHolds : GoodIn wsX8_failureOf (va_wsS RX8 293 yX8_failureOfHolds wsX8_failureOfHolds) := goodIn_app (goodIn_of _ (by decide +kernel)) ggX8_failureOf_X8_failureOfHolds
set_option maxRecDepth 20000 in
theorem ggX8_failureOf_X8_failureOfLeast : GoodIn wsX8_failureOf wsX8_failureOfLeast := goodIn_r _ [52, 6, 7, 9, 28, 10, 11, 12, 13, 14, 15, 16, 17, 18, 19, 20, 21, 4, 22, 67, 68, 69, 70, 63, 64, 65, 66, 71, 72, 73, 74, 75, 76, 77, 78] (by decide +kernel) (by decide +kernel)
set_option maxRecDepth 20000 in
theorem gX8_failureOf_X8_failureOfLeast : GoodIn wsX8_failureOf (va_wsS RX8 296 yX8_failureOfLeast wsX8_failureOfLeast) := goodIn_app (goodIn_of _ (by decide +kernel)) ggX8_failureOf_X8_failureOfLeast
set_option maxRecDepth 20000 in
theorem ggX8_failureOf_X8_failureOfLeads : GoodIn wsX8_failureOf wsX8_failureOfLeads := goodIn_r _ [56, 6, 7, 9, 57, 10, 11, 12, 13, 14, 15, 16, 17, 18, 19, 20, 21, 4, 22, 29, 30, 31, 32, 33, 34, 58, 59, 60, 61, 62, 67, 68, 69, 70, 63, 64, 65, 66, 71, 72, 73, 74, 75, 76, 77, 78, 79, 80, 81, 82, 83, 84, 85, 86, 87, 88, 89, 90] (by decide +kernel) (by decide +kernel)
set_option maxRecDepth 20000 in
theorem gX8_failureOf_X8_failureOfLeads : GoodIn wsX8_failureOf (wsV RX8 299 RX8 yX8_failureOfLeads wsX8_failureOfLeads) := goodIn_app (goodIn_of _ (by decide +kernel)) ggX8_failureOf_X8_failureOfLeads
noncomputable def tbX8_failureOf_n20 : List (Nat × Instr × Nat) := [(0, (.aload_n 2), 1), (1, (.getfield 281), 3), (4, (.tableswitch 67 0 4 #[36, 42, 49, 55, 61]), 36), (40, (.aload_n 1), 1), (41, (.aload_n 2), 1), (42, (.invokestatic 284), 3), (45, .ireturn, 1), (46, (.aload_n 0), 1), (47, (.aload_n 1), 1), (48, (.aload_n 2), 1), (49, (.invokevirtual 287), 3), (52, .ireturn, 1), (53, (.aload_n 1), 1), (54, (.aload_n 2), 1), (55, (.invokestatic 290), 3), (58, .ireturn, 1), (59, (.aload_n 1), 1), (60, (.aload_n 2), 1), (61, (.invokestatic 293), 3), (64, .ireturn, 1), (65, (.aload_n 1), 1), (66, (.aload_n 2), 1), (67, (.invokestatic 296), 3), (70, .ireturn, 1), (71, (.aload_n 0), 1), (72, (.aload_n 1), 1), (73, (.aload_n 2), 1), (74, (.invokevirtual 299), 3), (77, .ireturn, 1)]
theorem tbX8_failureOf_n20_ok : ∀ q ∈ tbX8_failureOf_n20, decode cX8_failureOf q.1 = .ok q.2 := by decide +kernel
theorem dX8_failureOf_0 : decode cX8_failureOf 0 = .ok (.aload_n 2, 1) := tb_at tbX8_failureOf_n20_ok 0 rfl
theorem dX8_failureOf_1 : decode cX8_failureOf 1 = .ok (.getfield 281, 3) := tb_at tbX8_failureOf_n20_ok 1 rfl
theorem dX8_failureOf_4 : decode cX8_failureOf 4 = .ok (.tableswitch 67 0 4 #[36, 42, 49, 55, 61], 36) := tb_at tbX8_failureOf_n20_ok 2 rfl
theorem dX8_failureOf_40 : decode cX8_failureOf 40 = .ok (.aload_n 1, 1) := tb_at tbX8_failureOf_n20_ok 3 rfl
theorem dX8_failureOf_41 : decode cX8_failureOf 41 = .ok (.aload_n 2, 1) := tb_at tbX8_failureOf_n20_ok 4 rfl
theorem dX8_failureOf_42 : decode cX8_failureOf 42 = .ok (.invokestatic 284, 3) := tb_at tbX8_failureOf_n20_ok 5 rfl
theorem dX8_failureOf_45 : decode cX8_failureOf 45 = .ok (.ireturn, 1) := tb_at tbX8_failureOf_n20_ok 6 rfl
theorem dX8_failureOf_46 : decode cX8_failureOf 46 = .ok (.aload_n 0, 1) := tb_at tbX8_failureOf_n20_ok 7 rfl
theorem dX8_failureOf_47 : decode cX8_failureOf 47 = .ok (.aload_n 1, 1) := tb_at tbX8_failureOf_n20_ok 8 rfl
theorem dX8_failureOf_48 : decode cX8_failureOf 48 = .ok (.aload_n 2, 1) := tb_at tbX8_failureOf_n20_ok 9 rfl
theorem dX8_failureOf_49 : decode cX8_failureOf 49 = .ok (.invokevirtual 287, 3) := tb_at tbX8_failureOf_n20_ok 10 rfl
theorem dX8_failureOf_52 : decode cX8_failureOf 52 = .ok (.ireturn, 1) := tb_at tbX8_failureOf_n20_ok 11 rfl
theorem dX8_failureOf_53 : decode cX8_failureOf 53 = .ok (.aload_n 1, 1) := tb_at tbX8_failureOf_n20_ok 12 rfl
theorem dX8_failureOf_54 : decode cX8_failureOf 54 = .ok (.aload_n 2, 1) := tb_at tbX8_failureOf_n20_ok 13 rfl
theorem dX8_failureOf_55 : decode cX8_failureOf 55 = .ok (.invokestatic 290, 3) := tb_at tbX8_failureOf_n20_ok 14 rfl
theorem dX8_failureOf_58 : decode cX8_failureOf 58 = .ok (.ireturn, 1) := tb_at tbX8_failureOf_n20_ok 15 rfl
theorem dX8_failureOf_59 : decode cX8_failureOf 59 = .ok (.aload_n 1, 1) := tb_at tbX8_failureOf_n20_ok 16 rfl
theorem dX8_failureOf_60 : decode cX8_failureOf 60 = .ok (.aload_n 2, 1) := tb_at tbX8_failureOf_n20_ok 17 rfl
theorem dX8_failureOf_61 : decode cX8_failureOf 61 = .ok (.invokestatic 293, 3) := tb_at tbX8_failureOf_n20_ok 18 rfl
theorem dX8_failureOf_64 : decode cX8_failureOf 64 = .ok (.ireturn, 1) := tb_at tbX8_failureOf_n20_ok 19 rfl
theorem dX8_failureOf_65 : decode cX8_failureOf 65 = .ok (.aload_n 1, 1) := tb_at tbX8_failureOf_n20_ok 20 rfl
theorem dX8_failureOf_66 : decode cX8_failureOf 66 = .ok (.aload_n 2, 1) := tb_at tbX8_failureOf_n20_ok 21 rfl
theorem dX8_failureOf_67 : decode cX8_failureOf 67 = .ok (.invokestatic 296, 3) := tb_at tbX8_failureOf_n20_ok 22 rfl
theorem dX8_failureOf_70 : decode cX8_failureOf 70 = .ok (.ireturn, 1) := tb_at tbX8_failureOf_n20_ok 23 rfl
theorem dX8_failureOf_71 : decode cX8_failureOf 71 = .ok (.aload_n 0, 1) := tb_at tbX8_failureOf_n20_ok 24 rfl
theorem dX8_failureOf_72 : decode cX8_failureOf 72 = .ok (.aload_n 1, 1) := tb_at tbX8_failureOf_n20_ok 25 rfl
theorem dX8_failureOf_73 : decode cX8_failureOf 73 = .ok (.aload_n 2, 1) := tb_at tbX8_failureOf_n20_ok 26 rfl
theorem dX8_failureOf_74 : decode cX8_failureOf 74 = .ok (.invokevirtual 299, 3) := tb_at tbX8_failureOf_n20_ok 27 rfl
theorem dX8_failureOf_77 : decode cX8_failureOf 77 = .ok (.ireturn, 1) := tb_at tbX8_failureOf_n20_ok 28 rfl
set_option maxRecDepth 20000 in
theorem ggX8_failureOfDivides_X7_hasLane : GoodIn wsX8_failureOfDivides wsX7_hasLane := goodIn_r _ [9, 10, 11, 12, 13, 8, 14, 15, 16, 17, 18, 27, 28, 29, 30, 31, 32, 33, 34] (by decide +kernel) (by decide +kernel)
set_option maxRecDepth 20000 in
theorem gX8_failureOfDivides_X7_hasLane : GoodIn wsX8_failureOfDivides (wsV RX8 305 RX7 yX7_hasLane wsX7_hasLane) := goodIn_app (goodIn_of _ (by decide +kernel)) ggX8_failureOfDivides_X7_hasLane
noncomputable def tbX8_failureOfDivides_n20 : List (Nat × Instr × Nat) := [(0, (.aload_n 0), 1), (1, (.getfield 97), 3), (4, (.aload_n 1), 1), (5, (.getfield 302), 3), (8, (.iconst 0), 1), (9, (.invokevirtual 305), 3), (12, (.ifCond .eq 18), 3), (15, (.aload_n 0), 1), (16, (.getfield 97), 3), (19, (.aload_n 1), 1), (20, (.getfield 308), 3), (23, (.iconst 0), 1), (24, (.invokevirtual 305), 3), (27, (.ifCond .ne 5), 3), (30, (.iconst 4), 1), (31, .ireturn, 1), (32, (.aload_n 0), 1), (33, (.getfield 193), 3), (36, (.aload_n 1), 1), (37, (.getfield 308), 3), (40, .laload, 1), (41, (.lconst 0), 1), (42, .lcmp, 1), (43, (.ifCond .ne 7), 3), (46, (.iconst 5), 1), (47, (.goto 4), 3), (50, (.iconst 0), 1), (51, .ireturn, 1)]
theorem tbX8_failureOfDivides_n20_ok : ∀ q ∈ tbX8_failureOfDivides_n20, decode cX8_failureOfDivides q.1 = .ok q.2 := by decide +kernel
theorem dX8_failureOfDivides_0 : decode cX8_failureOfDivides 0 = .ok (.aload_n 0, 1) := tb_at tbX8_failureOfDivides_n20_ok 0 rfl
theorem dX8_failureOfDivides_1 : decode cX8_failureOfDivides 1 = .ok (.getfield 97, 3) := tb_at tbX8_failureOfDivides_n20_ok 1 rfl
theorem dX8_failureOfDivides_4 : decode cX8_failureOfDivides 4 = .ok (.aload_n 1, 1) := tb_at tbX8_failureOfDivides_n20_ok 2 rfl
theorem dX8_failureOfDivides_5 : decode cX8_failureOfDivides 5 = .ok (.getfield 302, 3) := tb_at tbX8_failureOfDivides_n20_ok 3 rfl
theorem dX8_failureOfDivides_8 : decode cX8_failureOfDivides 8 = .ok (.iconst 0, 1) := tb_at tbX8_failureOfDivides_n20_ok 4 rfl
theorem dX8_failureOfDivides_9 : decode cX8_failureOfDivides 9 = .ok (.invokevirtual 305, 3) := tb_at tbX8_failureOfDivides_n20_ok 5 rfl
theorem dX8_failureOfDivides_12 : decode cX8_failureOfDivides 12 = .ok (.ifCond .eq 18, 3) := tb_at tbX8_failureOfDivides_n20_ok 6 rfl
theorem dX8_failureOfDivides_15 : decode cX8_failureOfDivides 15 = .ok (.aload_n 0, 1) := tb_at tbX8_failureOfDivides_n20_ok 7 rfl
theorem dX8_failureOfDivides_16 : decode cX8_failureOfDivides 16 = .ok (.getfield 97, 3) := tb_at tbX8_failureOfDivides_n20_ok 8 rfl
theorem dX8_failureOfDivides_19 : decode cX8_failureOfDivides 19 = .ok (.aload_n 1, 1) := tb_at tbX8_failureOfDivides_n20_ok 9 rfl
theorem dX8_failureOfDivides_20 : decode cX8_failureOfDivides 20 = .ok (.getfield 308, 3) := tb_at tbX8_failureOfDivides_n20_ok 10 rfl
theorem dX8_failureOfDivides_23 : decode cX8_failureOfDivides 23 = .ok (.iconst 0, 1) := tb_at tbX8_failureOfDivides_n20_ok 11 rfl
theorem dX8_failureOfDivides_24 : decode cX8_failureOfDivides 24 = .ok (.invokevirtual 305, 3) := tb_at tbX8_failureOfDivides_n20_ok 12 rfl
theorem dX8_failureOfDivides_27 : decode cX8_failureOfDivides 27 = .ok (.ifCond .ne 5, 3) := tb_at tbX8_failureOfDivides_n20_ok 13 rfl
theorem dX8_failureOfDivides_30 : decode cX8_failureOfDivides 30 = .ok (.iconst 4, 1) := tb_at tbX8_failureOfDivides_n20_ok 14 rfl
theorem dX8_failureOfDivides_31 : decode cX8_failureOfDivides 31 = .ok (.ireturn, 1) := tb_at tbX8_failureOfDivides_n20_ok 15 rfl
theorem dX8_failureOfDivides_32 : decode cX8_failureOfDivides 32 = .ok (.aload_n 0, 1) := tb_at tbX8_failureOfDivides_n20_ok 16 rfl
theorem dX8_failureOfDivides_33 : decode cX8_failureOfDivides 33 = .ok (.getfield 193, 3) := tb_at tbX8_failureOfDivides_n20_ok 17 rfl
theorem dX8_failureOfDivides_36 : decode cX8_failureOfDivides 36 = .ok (.aload_n 1, 1) := tb_at tbX8_failureOfDivides_n20_ok 18 rfl
theorem dX8_failureOfDivides_37 : decode cX8_failureOfDivides 37 = .ok (.getfield 308, 3) := tb_at tbX8_failureOfDivides_n20_ok 19 rfl
theorem dX8_failureOfDivides_40 : decode cX8_failureOfDivides 40 = .ok (.laload, 1) := tb_at tbX8_failureOfDivides_n20_ok 20 rfl
theorem dX8_failureOfDivides_41 : decode cX8_failureOfDivides 41 = .ok (.lconst 0, 1) := tb_at tbX8_failureOfDivides_n20_ok 21 rfl
theorem dX8_failureOfDivides_42 : decode cX8_failureOfDivides 42 = .ok (.lcmp, 1) := tb_at tbX8_failureOfDivides_n20_ok 22 rfl
theorem dX8_failureOfDivides_43 : decode cX8_failureOfDivides 43 = .ok (.ifCond .ne 7, 3) := tb_at tbX8_failureOfDivides_n20_ok 23 rfl
theorem dX8_failureOfDivides_46 : decode cX8_failureOfDivides 46 = .ok (.iconst 5, 1) := tb_at tbX8_failureOfDivides_n20_ok 24 rfl
theorem dX8_failureOfDivides_47 : decode cX8_failureOfDivides 47 = .ok (.goto 4, 3) := tb_at tbX8_failureOfDivides_n20_ok 25 rfl
theorem dX8_failureOfDivides_50 : decode cX8_failureOfDivides 50 = .ok (.iconst 0, 1) := tb_at tbX8_failureOfDivides_n20_ok 26 rfl
theorem dX8_failureOfDivides_51 : decode cX8_failureOfDivides 51 = .ok (.ireturn, 1) := tb_at tbX8_failureOfDivides_n20_ok 27 rfl
set_option maxRecDepth 20000 in
theorem ggX8_failureOfMeets_X7_hasLane : GoodIn wsX8_failureOfMeets wsX7_hasLane := goodIn_r _ [10, 11, 12, 13, 14, 9, 15, 16, 17, 18, 19, 34, 35, 36, 37, 38, 39, 40, 41] (by decide +kernel) (by decide +kernel)
set_option maxRecDepth 20000 in
theorem gX8_failureOfMeets_X7_hasLane : GoodIn wsX8_failureOfMeets (wsV RX8 305 RX7 yX7_hasLane wsX7_hasLane) := goodIn_app (goodIn_of _ (by decide +kernel)) ggX8_failureOfMeets_X7_hasLane
set_option maxRecDepth 20000 in
theorem ggX8_failureOfMeets_X8_thingNumbered : GoodIn wsX8_failureOfMeets wsX8_thingNumbered := goodIn_r _ [23, 24, 25, 42, 43, 44, 45, 46, 47, 48, 49, 50, 51, 52, 53] (by decide +kernel) (by decide +kernel)
set_option maxRecDepth 20000 in
theorem gX8_failureOfMeets_X8_thingNumbered : GoodIn wsX8_failureOfMeets (wsV RX8 177 RX8 yX8_thingNumbered wsX8_thingNumbered) := goodIn_app (goodIn_of _ (by decide +kernel)) ggX8_failureOfMeets_X8_thingNumbered
noncomputable def tbX8_failureOfMeets_n20 : List (Nat × Instr × Nat) := [(0, (.aload_n 1), 1), (1, (.getfield 97), 3), (4, (.aload_n 2), 1), (5, (.getfield 302), 3), (8, (.iconst 2), 1), (9, (.invokevirtual 305), 3), (12, (.ifCond .ne 5), 3), (15, (.iconst 4), 1), (16, .ireturn, 1), (17, (.aload_n 0), 1), (18, (.aload_n 1), 1), (19, (.getfield 193), 3), (22, (.aload_n 2), 1), (23, (.getfield 302), 3), (26, .laload, 1), (27, (.invokevirtual 177), 3), (30, (.astore_n 3), 1), (31, (.aload_n 3), 1), (32, (.ifnonnull 5), 3), (35, (.iconst 1), 1), (36, .ireturn, 1), (37, (.aload_n 3), 1), (38, (.getfield 97), 3), (41, (.getfield 205), 3), (44, .i2l, 1), (45, (.aload_n 2), 1), (46, (.getfield 311), 3), (49, .lcmp, 1), (50, (.ifCond .ne 7), 3), (53, (.iconst 0), 1), (54, (.goto 4), 3), (57, (.iconst 4), 1), (58, .ireturn, 1)]
theorem tbX8_failureOfMeets_n20_ok : ∀ q ∈ tbX8_failureOfMeets_n20, decode cX8_failureOfMeets q.1 = .ok q.2 := by decide +kernel
theorem dX8_failureOfMeets_0 : decode cX8_failureOfMeets 0 = .ok (.aload_n 1, 1) := tb_at tbX8_failureOfMeets_n20_ok 0 rfl
theorem dX8_failureOfMeets_1 : decode cX8_failureOfMeets 1 = .ok (.getfield 97, 3) := tb_at tbX8_failureOfMeets_n20_ok 1 rfl
theorem dX8_failureOfMeets_4 : decode cX8_failureOfMeets 4 = .ok (.aload_n 2, 1) := tb_at tbX8_failureOfMeets_n20_ok 2 rfl
theorem dX8_failureOfMeets_5 : decode cX8_failureOfMeets 5 = .ok (.getfield 302, 3) := tb_at tbX8_failureOfMeets_n20_ok 3 rfl
theorem dX8_failureOfMeets_8 : decode cX8_failureOfMeets 8 = .ok (.iconst 2, 1) := tb_at tbX8_failureOfMeets_n20_ok 4 rfl
theorem dX8_failureOfMeets_9 : decode cX8_failureOfMeets 9 = .ok (.invokevirtual 305, 3) := tb_at tbX8_failureOfMeets_n20_ok 5 rfl
theorem dX8_failureOfMeets_12 : decode cX8_failureOfMeets 12 = .ok (.ifCond .ne 5, 3) := tb_at tbX8_failureOfMeets_n20_ok 6 rfl
theorem dX8_failureOfMeets_15 : decode cX8_failureOfMeets 15 = .ok (.iconst 4, 1) := tb_at tbX8_failureOfMeets_n20_ok 7 rfl
theorem dX8_failureOfMeets_16 : decode cX8_failureOfMeets 16 = .ok (.ireturn, 1) := tb_at tbX8_failureOfMeets_n20_ok 8 rfl
theorem dX8_failureOfMeets_17 : decode cX8_failureOfMeets 17 = .ok (.aload_n 0, 1) := tb_at tbX8_failureOfMeets_n20_ok 9 rfl
theorem dX8_failureOfMeets_18 : decode cX8_failureOfMeets 18 = .ok (.aload_n 1, 1) := tb_at tbX8_failureOfMeets_n20_ok 10 rfl
theorem dX8_failureOfMeets_19 : decode cX8_failureOfMeets 19 = .ok (.getfield 193, 3) := tb_at tbX8_failureOfMeets_n20_ok 11 rfl
theorem dX8_failureOfMeets_22 : decode cX8_failureOfMeets 22 = .ok (.aload_n 2, 1) := tb_at tbX8_failureOfMeets_n20_ok 12 rfl
theorem dX8_failureOfMeets_23 : decode cX8_failureOfMeets 23 = .ok (.getfield 302, 3) := tb_at tbX8_failureOfMeets_n20_ok 13 rfl
theorem dX8_failureOfMeets_26 : decode cX8_failureOfMeets 26 = .ok (.laload, 1) := tb_at tbX8_failureOfMeets_n20_ok 14 rfl
theorem dX8_failureOfMeets_27 : decode cX8_failureOfMeets 27 = .ok (.invokevirtual 177, 3) := tb_at tbX8_failureOfMeets_n20_ok 15 rfl
theorem dX8_failureOfMeets_30 : decode cX8_failureOfMeets 30 = .ok (.astore_n 3, 1) := tb_at tbX8_failureOfMeets_n20_ok 16 rfl
theorem dX8_failureOfMeets_31 : decode cX8_failureOfMeets 31 = .ok (.aload_n 3, 1) := tb_at tbX8_failureOfMeets_n20_ok 17 rfl
theorem dX8_failureOfMeets_32 : decode cX8_failureOfMeets 32 = .ok (.ifnonnull 5, 3) := tb_at tbX8_failureOfMeets_n20_ok 18 rfl
theorem dX8_failureOfMeets_35 : decode cX8_failureOfMeets 35 = .ok (.iconst 1, 1) := tb_at tbX8_failureOfMeets_n20_ok 19 rfl
theorem dX8_failureOfMeets_36 : decode cX8_failureOfMeets 36 = .ok (.ireturn, 1) := tb_at tbX8_failureOfMeets_n20_ok 20 rfl
theorem dX8_failureOfMeets_37 : decode cX8_failureOfMeets 37 = .ok (.aload_n 3, 1) := tb_at tbX8_failureOfMeets_n20_ok 21 rfl
theorem dX8_failureOfMeets_38 : decode cX8_failureOfMeets 38 = .ok (.getfield 97, 3) := tb_at tbX8_failureOfMeets_n20_ok 22 rfl
theorem dX8_failureOfMeets_41 : decode cX8_failureOfMeets 41 = .ok (.getfield 205, 3) := tb_at tbX8_failureOfMeets_n20_ok 23 rfl
theorem dX8_failureOfMeets_44 : decode cX8_failureOfMeets 44 = .ok (.i2l, 1) := tb_at tbX8_failureOfMeets_n20_ok 24 rfl
theorem dX8_failureOfMeets_45 : decode cX8_failureOfMeets 45 = .ok (.aload_n 2, 1) := tb_at tbX8_failureOfMeets_n20_ok 25 rfl
theorem dX8_failureOfMeets_46 : decode cX8_failureOfMeets 46 = .ok (.getfield 311, 3) := tb_at tbX8_failureOfMeets_n20_ok 26 rfl
theorem dX8_failureOfMeets_49 : decode cX8_failureOfMeets 49 = .ok (.lcmp, 1) := tb_at tbX8_failureOfMeets_n20_ok 27 rfl
theorem dX8_failureOfMeets_50 : decode cX8_failureOfMeets 50 = .ok (.ifCond .ne 7, 3) := tb_at tbX8_failureOfMeets_n20_ok 28 rfl
theorem dX8_failureOfMeets_53 : decode cX8_failureOfMeets 53 = .ok (.iconst 0, 1) := tb_at tbX8_failureOfMeets_n20_ok 29 rfl
theorem dX8_failureOfMeets_54 : decode cX8_failureOfMeets 54 = .ok (.goto 4, 3) := tb_at tbX8_failureOfMeets_n20_ok 30 rfl
theorem dX8_failureOfMeets_57 : decode cX8_failureOfMeets 57 = .ok (.iconst 4, 1) := tb_at tbX8_failureOfMeets_n20_ok 31 rfl
theorem dX8_failureOfMeets_58 : decode cX8_failureOfMeets 58 = .ok (.ireturn, 1) := tb_at tbX8_failureOfMeets_n20_ok 32 rfl
set_option maxRecDepth 20000 in
theorem ggX8_failureOfHas_X7_hasRowLane : GoodIn wsX8_failureOfHas wsX7_hasRowLane := goodIn_r _ [12, 13, 14, 15, 16, 11, 17, 18, 19, 20, 21, 22, 23, 38, 39, 40, 41, 42, 43, 44, 45] (by decide +kernel) (by decide +kernel)
set_option maxRecDepth 20000 in
theorem gX8_failureOfHas_X7_hasRowLane : GoodIn wsX8_failureOfHas (wsV RX8 315 RX7 yX7_hasRowLane wsX7_hasRowLane) := goodIn_app (goodIn_of _ (by decide +kernel)) ggX8_failureOfHas_X7_hasRowLane
set_option maxRecDepth 20000 in
theorem ggX8_failureOfHas_X7_hasLane : GoodIn wsX8_failureOfHas wsX7_hasLane := goodIn_r _ [27, 13, 14, 15, 16, 11, 17, 18, 19, 20, 21, 38, 39, 40, 41, 42, 43, 44, 45] (by decide +kernel) (by decide +kernel)
set_option maxRecDepth 20000 in
theorem gX8_failureOfHas_X7_hasLane : GoodIn wsX8_failureOfHas (wsV RX8 305 RX7 yX7_hasLane wsX7_hasLane) := goodIn_app (goodIn_of _ (by decide +kernel)) ggX8_failureOfHas_X7_hasLane
noncomputable def tbX8_failureOfHas_n20 : List (Nat × Instr × Nat) := [(0, (.aload_n 0), 1), (1, (.getfield 97), 3), (4, (.aload_n 1), 1), (5, (.getfield 302), 3), (8, (.invokevirtual 315), 3), (11, (.ifCond .eq 18), 3), (14, (.aload_n 0), 1), (15, (.getfield 97), 3), (18, (.aload_n 1), 1), (19, (.getfield 308), 3), (22, (.iconst 0), 1), (23, (.invokevirtual 305), 3), (26, (.ifCond .ne 5), 3), (29, (.iconst 4), 1), (30, .ireturn, 1), (31, (.aload_n 0), 1), (32, (.getfield 158), 3), (35, (.aload_n 1), 1), (36, (.getfield 302), 3), (39, .aaload, 1), (40, (.astore_n 2), 1), (41, (.aload_n 2), 1), (42, (.ifnonnull 5), 3), (45, (.iconst 1), 1), (46, .ireturn, 1), (47, (.aload_n 0), 1), (48, (.getfield 193), 3), (51, (.aload_n 1), 1), (52, (.getfield 308), 3), (55, .laload, 1), (56, (.lstore_n 3), 1), (57, (.lload_n 3), 1), (58, (.lconst 0), 1), (59, .lcmp, 1), (60, (.ifCond .lt 14), 3), (63, (.lload_n 3), 1), (64, (.aload_n 2), 1), (65, (.getfield 161), 3), (68, .arraylength, 1), (69, .i2l, 1), (70, .lcmp, 1), (71, (.ifCond .lt 5), 3), (74, (.iconst 2), 1), (75, .ireturn, 1), (76, (.aload_n 2), 1), (77, (.getfield 161), 3), (80, (.lload_n 3), 1), (81, .l2i, 1), (82, .laload, 1), (83, (.aload_n 1), 1), (84, (.getfield 311), 3), (87, .lcmp, 1), (88, (.ifCond .le 7), 3), (91, (.iconst 0), 1), (92, (.goto 5), 3), (95, (.bipush 6), 2), (97, .ireturn, 1)]
theorem tbX8_failureOfHas_n20_ok : ∀ q ∈ tbX8_failureOfHas_n20, decode cX8_failureOfHas q.1 = .ok q.2 := by decide +kernel
theorem dX8_failureOfHas_0 : decode cX8_failureOfHas 0 = .ok (.aload_n 0, 1) := tb_at tbX8_failureOfHas_n20_ok 0 rfl
theorem dX8_failureOfHas_1 : decode cX8_failureOfHas 1 = .ok (.getfield 97, 3) := tb_at tbX8_failureOfHas_n20_ok 1 rfl
theorem dX8_failureOfHas_4 : decode cX8_failureOfHas 4 = .ok (.aload_n 1, 1) := tb_at tbX8_failureOfHas_n20_ok 2 rfl
theorem dX8_failureOfHas_5 : decode cX8_failureOfHas 5 = .ok (.getfield 302, 3) := tb_at tbX8_failureOfHas_n20_ok 3 rfl
theorem dX8_failureOfHas_8 : decode cX8_failureOfHas 8 = .ok (.invokevirtual 315, 3) := tb_at tbX8_failureOfHas_n20_ok 4 rfl
theorem dX8_failureOfHas_11 : decode cX8_failureOfHas 11 = .ok (.ifCond .eq 18, 3) := tb_at tbX8_failureOfHas_n20_ok 5 rfl
theorem dX8_failureOfHas_14 : decode cX8_failureOfHas 14 = .ok (.aload_n 0, 1) := tb_at tbX8_failureOfHas_n20_ok 6 rfl
theorem dX8_failureOfHas_15 : decode cX8_failureOfHas 15 = .ok (.getfield 97, 3) := tb_at tbX8_failureOfHas_n20_ok 7 rfl
theorem dX8_failureOfHas_18 : decode cX8_failureOfHas 18 = .ok (.aload_n 1, 1) := tb_at tbX8_failureOfHas_n20_ok 8 rfl
theorem dX8_failureOfHas_19 : decode cX8_failureOfHas 19 = .ok (.getfield 308, 3) := tb_at tbX8_failureOfHas_n20_ok 9 rfl
theorem dX8_failureOfHas_22 : decode cX8_failureOfHas 22 = .ok (.iconst 0, 1) := tb_at tbX8_failureOfHas_n20_ok 10 rfl
theorem dX8_failureOfHas_23 : decode cX8_failureOfHas 23 = .ok (.invokevirtual 305, 3) := tb_at tbX8_failureOfHas_n20_ok 11 rfl
theorem dX8_failureOfHas_26 : decode cX8_failureOfHas 26 = .ok (.ifCond .ne 5, 3) := tb_at tbX8_failureOfHas_n20_ok 12 rfl
theorem dX8_failureOfHas_29 : decode cX8_failureOfHas 29 = .ok (.iconst 4, 1) := tb_at tbX8_failureOfHas_n20_ok 13 rfl
theorem dX8_failureOfHas_30 : decode cX8_failureOfHas 30 = .ok (.ireturn, 1) := tb_at tbX8_failureOfHas_n20_ok 14 rfl
theorem dX8_failureOfHas_31 : decode cX8_failureOfHas 31 = .ok (.aload_n 0, 1) := tb_at tbX8_failureOfHas_n20_ok 15 rfl
theorem dX8_failureOfHas_32 : decode cX8_failureOfHas 32 = .ok (.getfield 158, 3) := tb_at tbX8_failureOfHas_n20_ok 16 rfl
theorem dX8_failureOfHas_35 : decode cX8_failureOfHas 35 = .ok (.aload_n 1, 1) := tb_at tbX8_failureOfHas_n20_ok 17 rfl
theorem dX8_failureOfHas_36 : decode cX8_failureOfHas 36 = .ok (.getfield 302, 3) := tb_at tbX8_failureOfHas_n20_ok 18 rfl
theorem dX8_failureOfHas_39 : decode cX8_failureOfHas 39 = .ok (.aaload, 1) := tb_at tbX8_failureOfHas_n20_ok 19 rfl
theorem dX8_failureOfHas_40 : decode cX8_failureOfHas 40 = .ok (.astore_n 2, 1) := tb_at tbX8_failureOfHas_n20_ok 20 rfl
theorem dX8_failureOfHas_41 : decode cX8_failureOfHas 41 = .ok (.aload_n 2, 1) := tb_at tbX8_failureOfHas_n20_ok 21 rfl
theorem dX8_failureOfHas_42 : decode cX8_failureOfHas 42 = .ok (.ifnonnull 5, 3) := tb_at tbX8_failureOfHas_n20_ok 22 rfl
theorem dX8_failureOfHas_45 : decode cX8_failureOfHas 45 = .ok (.iconst 1, 1) := tb_at tbX8_failureOfHas_n20_ok 23 rfl
theorem dX8_failureOfHas_46 : decode cX8_failureOfHas 46 = .ok (.ireturn, 1) := tb_at tbX8_failureOfHas_n20_ok 24 rfl
theorem dX8_failureOfHas_47 : decode cX8_failureOfHas 47 = .ok (.aload_n 0, 1) := tb_at tbX8_failureOfHas_n20_ok 25 rfl
theorem dX8_failureOfHas_48 : decode cX8_failureOfHas 48 = .ok (.getfield 193, 3) := tb_at tbX8_failureOfHas_n20_ok 26 rfl
theorem dX8_failureOfHas_51 : decode cX8_failureOfHas 51 = .ok (.aload_n 1, 1) := tb_at tbX8_failureOfHas_n20_ok 27 rfl
theorem dX8_failureOfHas_52 : decode cX8_failureOfHas 52 = .ok (.getfield 308, 3) := tb_at tbX8_failureOfHas_n20_ok 28 rfl
theorem dX8_failureOfHas_55 : decode cX8_failureOfHas 55 = .ok (.laload, 1) := tb_at tbX8_failureOfHas_n20_ok 29 rfl
theorem dX8_failureOfHas_56 : decode cX8_failureOfHas 56 = .ok (.lstore_n 3, 1) := tb_at tbX8_failureOfHas_n20_ok 30 rfl
theorem dX8_failureOfHas_57 : decode cX8_failureOfHas 57 = .ok (.lload_n 3, 1) := tb_at tbX8_failureOfHas_n20_ok 31 rfl
theorem dX8_failureOfHas_58 : decode cX8_failureOfHas 58 = .ok (.lconst 0, 1) := tb_at tbX8_failureOfHas_n20_ok 32 rfl
theorem dX8_failureOfHas_59 : decode cX8_failureOfHas 59 = .ok (.lcmp, 1) := tb_at tbX8_failureOfHas_n20_ok 33 rfl
theorem dX8_failureOfHas_60 : decode cX8_failureOfHas 60 = .ok (.ifCond .lt 14, 3) := tb_at tbX8_failureOfHas_n20_ok 34 rfl
theorem dX8_failureOfHas_63 : decode cX8_failureOfHas 63 = .ok (.lload_n 3, 1) := tb_at tbX8_failureOfHas_n20_ok 35 rfl
theorem dX8_failureOfHas_64 : decode cX8_failureOfHas 64 = .ok (.aload_n 2, 1) := tb_at tbX8_failureOfHas_n20_ok 36 rfl
theorem dX8_failureOfHas_65 : decode cX8_failureOfHas 65 = .ok (.getfield 161, 3) := tb_at tbX8_failureOfHas_n20_ok 37 rfl
theorem dX8_failureOfHas_68 : decode cX8_failureOfHas 68 = .ok (.arraylength, 1) := tb_at tbX8_failureOfHas_n20_ok 38 rfl
theorem dX8_failureOfHas_69 : decode cX8_failureOfHas 69 = .ok (.i2l, 1) := tb_at tbX8_failureOfHas_n20_ok 39 rfl
theorem dX8_failureOfHas_70 : decode cX8_failureOfHas 70 = .ok (.lcmp, 1) := tb_at tbX8_failureOfHas_n20_ok 40 rfl
theorem dX8_failureOfHas_71 : decode cX8_failureOfHas 71 = .ok (.ifCond .lt 5, 3) := tb_at tbX8_failureOfHas_n20_ok 41 rfl
theorem dX8_failureOfHas_74 : decode cX8_failureOfHas 74 = .ok (.iconst 2, 1) := tb_at tbX8_failureOfHas_n20_ok 42 rfl
theorem dX8_failureOfHas_75 : decode cX8_failureOfHas 75 = .ok (.ireturn, 1) := tb_at tbX8_failureOfHas_n20_ok 43 rfl
theorem dX8_failureOfHas_76 : decode cX8_failureOfHas 76 = .ok (.aload_n 2, 1) := tb_at tbX8_failureOfHas_n20_ok 44 rfl
theorem dX8_failureOfHas_77 : decode cX8_failureOfHas 77 = .ok (.getfield 161, 3) := tb_at tbX8_failureOfHas_n20_ok 45 rfl
theorem dX8_failureOfHas_80 : decode cX8_failureOfHas 80 = .ok (.lload_n 3, 1) := tb_at tbX8_failureOfHas_n20_ok 46 rfl
theorem dX8_failureOfHas_81 : decode cX8_failureOfHas 81 = .ok (.l2i, 1) := tb_at tbX8_failureOfHas_n20_ok 47 rfl
theorem dX8_failureOfHas_82 : decode cX8_failureOfHas 82 = .ok (.laload, 1) := tb_at tbX8_failureOfHas_n20_ok 48 rfl
theorem dX8_failureOfHas_83 : decode cX8_failureOfHas 83 = .ok (.aload_n 1, 1) := tb_at tbX8_failureOfHas_n20_ok 49 rfl
theorem dX8_failureOfHas_84 : decode cX8_failureOfHas 84 = .ok (.getfield 311, 3) := tb_at tbX8_failureOfHas_n20_ok 50 rfl
theorem dX8_failureOfHas_87 : decode cX8_failureOfHas 87 = .ok (.lcmp, 1) := tb_at tbX8_failureOfHas_n20_ok 51 rfl
theorem dX8_failureOfHas_88 : decode cX8_failureOfHas 88 = .ok (.ifCond .le 7, 3) := tb_at tbX8_failureOfHas_n20_ok 52 rfl
theorem dX8_failureOfHas_91 : decode cX8_failureOfHas 91 = .ok (.iconst 0, 1) := tb_at tbX8_failureOfHas_n20_ok 53 rfl
theorem dX8_failureOfHas_92 : decode cX8_failureOfHas 92 = .ok (.goto 5, 3) := tb_at tbX8_failureOfHas_n20_ok 54 rfl
theorem dX8_failureOfHas_95 : decode cX8_failureOfHas 95 = .ok (.bipush 6, 2) := tb_at tbX8_failureOfHas_n20_ok 55 rfl
theorem dX8_failureOfHas_97 : decode cX8_failureOfHas 97 = .ok (.ireturn, 1) := tb_at tbX8_failureOfHas_n20_ok 56 rfl
set_option maxRecDepth 20000 in
theorem ggX8_failureOfHolds_X7_hasLane : GoodIn wsX8_failureOfHolds wsX7_hasLane := goodIn_r _ [9, 10, 11, 12, 13, 8, 14, 15, 16, 17, 18, 27, 28, 29, 30, 31, 32, 33, 34] (by decide +kernel) (by decide +kernel)
set_option maxRecDepth 20000 in
theorem gX8_failureOfHolds_X7_hasLane : GoodIn wsX8_failureOfHolds (wsV RX8 305 RX7 yX7_hasLane wsX7_hasLane) := goodIn_app (goodIn_of _ (by decide +kernel)) ggX8_failureOfHolds_X7_hasLane
noncomputable def tbX8_failureOfHolds_n20 : List (Nat × Instr × Nat) := [(0, (.aload_n 0), 1), (1, (.getfield 97), 3), (4, (.aload_n 1), 1), (5, (.getfield 302), 3), (8, (.iconst 0), 1), (9, (.invokevirtual 305), 3), (12, (.ifCond .ne 5), 3), (15, (.iconst 4), 1), (16, .ireturn, 1), (17, (.aload_n 0), 1), (18, (.getfield 193), 3), (21, (.aload_n 1), 1), (22, (.getfield 302), 3), (25, .laload, 1), (26, (.lstore_n 2), 1), (27, (.lload_n 2), 1), (28, (.ldc2_w 318), 3), (31, .lcmp, 1), (32, (.ifCond .le 6), 3), (35, (.bipush 6), 2), (37, .ireturn, 1), (38, (.lload_n 2), 1), (39, (.lconst 0), 1), (40, .lcmp, 1), (41, (.ifCond .ge 7), 3), (44, (.iconst 3), 1), (45, (.goto 4), 3), (48, (.iconst 0), 1), (49, .ireturn, 1)]
theorem tbX8_failureOfHolds_n20_ok : ∀ q ∈ tbX8_failureOfHolds_n20, decode cX8_failureOfHolds q.1 = .ok q.2 := by decide +kernel
theorem dX8_failureOfHolds_0 : decode cX8_failureOfHolds 0 = .ok (.aload_n 0, 1) := tb_at tbX8_failureOfHolds_n20_ok 0 rfl
theorem dX8_failureOfHolds_1 : decode cX8_failureOfHolds 1 = .ok (.getfield 97, 3) := tb_at tbX8_failureOfHolds_n20_ok 1 rfl
theorem dX8_failureOfHolds_4 : decode cX8_failureOfHolds 4 = .ok (.aload_n 1, 1) := tb_at tbX8_failureOfHolds_n20_ok 2 rfl
theorem dX8_failureOfHolds_5 : decode cX8_failureOfHolds 5 = .ok (.getfield 302, 3) := tb_at tbX8_failureOfHolds_n20_ok 3 rfl
theorem dX8_failureOfHolds_8 : decode cX8_failureOfHolds 8 = .ok (.iconst 0, 1) := tb_at tbX8_failureOfHolds_n20_ok 4 rfl
theorem dX8_failureOfHolds_9 : decode cX8_failureOfHolds 9 = .ok (.invokevirtual 305, 3) := tb_at tbX8_failureOfHolds_n20_ok 5 rfl
theorem dX8_failureOfHolds_12 : decode cX8_failureOfHolds 12 = .ok (.ifCond .ne 5, 3) := tb_at tbX8_failureOfHolds_n20_ok 6 rfl
theorem dX8_failureOfHolds_15 : decode cX8_failureOfHolds 15 = .ok (.iconst 4, 1) := tb_at tbX8_failureOfHolds_n20_ok 7 rfl
theorem dX8_failureOfHolds_16 : decode cX8_failureOfHolds 16 = .ok (.ireturn, 1) := tb_at tbX8_failureOfHolds_n20_ok 8 rfl
theorem dX8_failureOfHolds_17 : decode cX8_failureOfHolds 17 = .ok (.aload_n 0, 1) := tb_at tbX8_failureOfHolds_n20_ok 9 rfl
theorem dX8_failureOfHolds_18 : decode cX8_failureOfHolds 18 = .ok (.getfield 193, 3) := tb_at tbX8_failureOfHolds_n20_ok 10 rfl
theorem dX8_failureOfHolds_21 : decode cX8_failureOfHolds 21 = .ok (.aload_n 1, 1) := tb_at tbX8_failureOfHolds_n20_ok 11 rfl
theorem dX8_failureOfHolds_22 : decode cX8_failureOfHolds 22 = .ok (.getfield 302, 3) := tb_at tbX8_failureOfHolds_n20_ok 12 rfl
theorem dX8_failureOfHolds_25 : decode cX8_failureOfHolds 25 = .ok (.laload, 1) := tb_at tbX8_failureOfHolds_n20_ok 13 rfl
theorem dX8_failureOfHolds_26 : decode cX8_failureOfHolds 26 = .ok (.lstore_n 2, 1) := tb_at tbX8_failureOfHolds_n20_ok 14 rfl
theorem dX8_failureOfHolds_27 : decode cX8_failureOfHolds 27 = .ok (.lload_n 2, 1) := tb_at tbX8_failureOfHolds_n20_ok 15 rfl
theorem dX8_failureOfHolds_28 : decode cX8_failureOfHolds 28 = .ok (.ldc2_w 318, 3) := tb_at tbX8_failureOfHolds_n20_ok 16 rfl
theorem dX8_failureOfHolds_31 : decode cX8_failureOfHolds 31 = .ok (.lcmp, 1) := tb_at tbX8_failureOfHolds_n20_ok 17 rfl
theorem dX8_failureOfHolds_32 : decode cX8_failureOfHolds 32 = .ok (.ifCond .le 6, 3) := tb_at tbX8_failureOfHolds_n20_ok 18 rfl
theorem dX8_failureOfHolds_35 : decode cX8_failureOfHolds 35 = .ok (.bipush 6, 2) := tb_at tbX8_failureOfHolds_n20_ok 19 rfl
theorem dX8_failureOfHolds_37 : decode cX8_failureOfHolds 37 = .ok (.ireturn, 1) := tb_at tbX8_failureOfHolds_n20_ok 20 rfl
theorem dX8_failureOfHolds_38 : decode cX8_failureOfHolds 38 = .ok (.lload_n 2, 1) := tb_at tbX8_failureOfHolds_n20_ok 21 rfl
theorem dX8_failureOfHolds_39 : decode cX8_failureOfHolds 39 = .ok (.lconst 0, 1) := tb_at tbX8_failureOfHolds_n20_ok 22 rfl
theorem dX8_failureOfHolds_40 : decode cX8_failureOfHolds 40 = .ok (.lcmp, 1) := tb_at tbX8_failureOfHolds_n20_ok 23 rfl
theorem dX8_failureOfHolds_41 : decode cX8_failureOfHolds 41 = .ok (.ifCond .ge 7, 3) := tb_at tbX8_failureOfHolds_n20_ok 24 rfl
theorem dX8_failureOfHolds_44 : decode cX8_failureOfHolds 44 = .ok (.iconst 3, 1) := tb_at tbX8_failureOfHolds_n20_ok 25 rfl
theorem dX8_failureOfHolds_45 : decode cX8_failureOfHolds 45 = .ok (.goto 4, 3) := tb_at tbX8_failureOfHolds_n20_ok 26 rfl
theorem dX8_failureOfHolds_48 : decode cX8_failureOfHolds 48 = .ok (.iconst 0, 1) := tb_at tbX8_failureOfHolds_n20_ok 27 rfl
theorem dX8_failureOfHolds_49 : decode cX8_failureOfHolds 49 = .ok (.ireturn, 1) := tb_at tbX8_failureOfHolds_n20_ok 28 rfl
set_option maxRecDepth 20000 in
theorem ggX8_failureOfLeast_X7_hasLane : GoodIn wsX8_failureOfLeast wsX7_hasLane := goodIn_r _ [9, 10, 11, 12, 13, 8, 14, 15, 16, 17, 18, 27, 28, 29, 30, 31, 32, 33, 34] (by decide +kernel) (by decide +kernel)
set_option maxRecDepth 20000 in
theorem gX8_failureOfLeast_X7_hasLane : GoodIn wsX8_failureOfLeast (wsV RX8 305 RX7 yX7_hasLane wsX7_hasLane) := goodIn_app (goodIn_of _ (by decide +kernel)) ggX8_failureOfLeast_X7_hasLane
noncomputable def tbX8_failureOfLeast_n20 : List (Nat × Instr × Nat) := [(0, (.aload_n 0), 1), (1, (.getfield 97), 3), (4, (.aload_n 1), 1), (5, (.getfield 302), 3), (8, (.iconst 0), 1), (9, (.invokevirtual 305), 3), (12, (.ifCond .ne 5), 3), (15, (.iconst 4), 1), (16, .ireturn, 1), (17, (.aload_n 0), 1), (18, (.getfield 193), 3), (21, (.aload_n 1), 1), (22, (.getfield 302), 3), (25, .laload, 1), (26, (.aload_n 1), 1), (27, (.getfield 311), 3), (30, .lcmp, 1), (31, (.ifCond .ge 8), 3), (34, (.bipush 6), 2), (36, (.goto 4), 3), (39, (.iconst 0), 1), (40, .ireturn, 1)]
theorem tbX8_failureOfLeast_n20_ok : ∀ q ∈ tbX8_failureOfLeast_n20, decode cX8_failureOfLeast q.1 = .ok q.2 := by decide +kernel
theorem dX8_failureOfLeast_0 : decode cX8_failureOfLeast 0 = .ok (.aload_n 0, 1) := tb_at tbX8_failureOfLeast_n20_ok 0 rfl
theorem dX8_failureOfLeast_1 : decode cX8_failureOfLeast 1 = .ok (.getfield 97, 3) := tb_at tbX8_failureOfLeast_n20_ok 1 rfl
theorem dX8_failureOfLeast_4 : decode cX8_failureOfLeast 4 = .ok (.aload_n 1, 1) := tb_at tbX8_failureOfLeast_n20_ok 2 rfl
theorem dX8_failureOfLeast_5 : decode cX8_failureOfLeast 5 = .ok (.getfield 302, 3) := tb_at tbX8_failureOfLeast_n20_ok 3 rfl
theorem dX8_failureOfLeast_8 : decode cX8_failureOfLeast 8 = .ok (.iconst 0, 1) := tb_at tbX8_failureOfLeast_n20_ok 4 rfl
theorem dX8_failureOfLeast_9 : decode cX8_failureOfLeast 9 = .ok (.invokevirtual 305, 3) := tb_at tbX8_failureOfLeast_n20_ok 5 rfl
theorem dX8_failureOfLeast_12 : decode cX8_failureOfLeast 12 = .ok (.ifCond .ne 5, 3) := tb_at tbX8_failureOfLeast_n20_ok 6 rfl
theorem dX8_failureOfLeast_15 : decode cX8_failureOfLeast 15 = .ok (.iconst 4, 1) := tb_at tbX8_failureOfLeast_n20_ok 7 rfl
theorem dX8_failureOfLeast_16 : decode cX8_failureOfLeast 16 = .ok (.ireturn, 1) := tb_at tbX8_failureOfLeast_n20_ok 8 rfl
theorem dX8_failureOfLeast_17 : decode cX8_failureOfLeast 17 = .ok (.aload_n 0, 1) := tb_at tbX8_failureOfLeast_n20_ok 9 rfl
theorem dX8_failureOfLeast_18 : decode cX8_failureOfLeast 18 = .ok (.getfield 193, 3) := tb_at tbX8_failureOfLeast_n20_ok 10 rfl
theorem dX8_failureOfLeast_21 : decode cX8_failureOfLeast 21 = .ok (.aload_n 1, 1) := tb_at tbX8_failureOfLeast_n20_ok 11 rfl
theorem dX8_failureOfLeast_22 : decode cX8_failureOfLeast 22 = .ok (.getfield 302, 3) := tb_at tbX8_failureOfLeast_n20_ok 12 rfl
theorem dX8_failureOfLeast_25 : decode cX8_failureOfLeast 25 = .ok (.laload, 1) := tb_at tbX8_failureOfLeast_n20_ok 13 rfl
theorem dX8_failureOfLeast_26 : decode cX8_failureOfLeast 26 = .ok (.aload_n 1, 1) := tb_at tbX8_failureOfLeast_n20_ok 14 rfl
theorem dX8_failureOfLeast_27 : decode cX8_failureOfLeast 27 = .ok (.getfield 311, 3) := tb_at tbX8_failureOfLeast_n20_ok 15 rfl
theorem dX8_failureOfLeast_30 : decode cX8_failureOfLeast 30 = .ok (.lcmp, 1) := tb_at tbX8_failureOfLeast_n20_ok 16 rfl
theorem dX8_failureOfLeast_31 : decode cX8_failureOfLeast 31 = .ok (.ifCond .ge 8, 3) := tb_at tbX8_failureOfLeast_n20_ok 17 rfl
theorem dX8_failureOfLeast_34 : decode cX8_failureOfLeast 34 = .ok (.bipush 6, 2) := tb_at tbX8_failureOfLeast_n20_ok 18 rfl
theorem dX8_failureOfLeast_36 : decode cX8_failureOfLeast 36 = .ok (.goto 4, 3) := tb_at tbX8_failureOfLeast_n20_ok 19 rfl
theorem dX8_failureOfLeast_39 : decode cX8_failureOfLeast 39 = .ok (.iconst 0, 1) := tb_at tbX8_failureOfLeast_n20_ok 20 rfl
theorem dX8_failureOfLeast_40 : decode cX8_failureOfLeast 40 = .ok (.ireturn, 1) := tb_at tbX8_failureOfLeast_n20_ok 21 rfl
set_option maxRecDepth 20000 in
theorem ggX8_failureOfLeads_X7_hasLane : GoodIn wsX8_failureOfLeads wsX7_hasLane := goodIn_r _ [9, 10, 11, 12, 13, 8, 14, 15, 16, 17, 18, 38, 39, 40, 41, 42, 43, 44, 45] (by decide +kernel) (by decide +kernel)
set_option maxRecDepth 20000 in
theorem gX8_failureOfLeads_X7_hasLane : GoodIn wsX8_failureOfLeads (wsV RX8 305 RX7 yX7_hasLane wsX7_hasLane) := goodIn_app (goodIn_of _ (by decide +kernel)) ggX8_failureOfLeads_X7_hasLane
set_option maxRecDepth 20000 in
theorem ggX8_failureOfLeads_X8_thingNumbered : GoodIn wsX8_failureOfLeads wsX8_thingNumbered := goodIn_r _ [22, 23, 24, 46, 47, 48, 49, 50, 51, 52, 53, 54, 55, 56, 57] (by decide +kernel) (by decide +kernel)
set_option maxRecDepth 20000 in
theorem gX8_failureOfLeads_X8_thingNumbered : GoodIn wsX8_failureOfLeads (wsV RX8 177 RX8 yX8_thingNumbered wsX8_thingNumbered) := goodIn_app (goodIn_of _ (by decide +kernel)) ggX8_failureOfLeads_X8_thingNumbered
set_option maxRecDepth 20000 in
theorem ggX8_failureOfLeads_X7_fieldNamed : GoodIn wsX8_failureOfLeads wsX7_fieldNamed := goodIn_r _ [28, 15, 29, 38, 39, 40, 41, 42, 43, 44, 45] (by decide +kernel) (by decide +kernel)
set_option maxRecDepth 20000 in
theorem gX8_failureOfLeads_X7_fieldNamed : GoodIn wsX8_failureOfLeads (wsV RX8 78 RX7 yX7_fieldNamed wsX7_fieldNamed) := goodIn_app (goodIn_of _ (by decide +kernel)) ggX8_failureOfLeads_X7_fieldNamed
noncomputable def tbX8_failureOfLeads_n20 : List (Nat × Instr × Nat) := [(0, (.aload_n 1), 1), (1, (.getfield 97), 3), (4, (.aload_n 2), 1), (5, (.getfield 302), 3), (8, (.iconst 2), 1), (9, (.invokevirtual 305), 3), (12, (.ifCond .ne 5), 3), (15, (.iconst 4), 1), (16, .ireturn, 1), (17, (.aload_n 0), 1), (18, (.aload_n 1), 1), (19, (.getfield 193), 3), (22, (.aload_n 2), 1), (23, (.getfield 302), 3), (26, .laload, 1), (27, (.invokevirtual 177), 3), (30, (.astore_n 3), 1), (31, (.aload_n 3), 1), (32, (.ifnonnull 5), 3), (35, (.iconst 1), 1), (36, .ireturn, 1), (37, (.aload_n 3), 1), (38, (.getfield 97), 3), (41, (.aload_n 1), 1), (42, (.getfield 97), 3), (45, (.getfield 320), 3), (48, (.aload_n 2), 1), (49, (.getfield 302), 3), (52, .iaload, 1), (53, (.invokevirtual 78), 3), (56, (.istore 4), 2), (58, (.aload_n 3), 1), (59, (.getfield 97), 3), (62, (.iload 4), 2), (64, (.iconst 2), 1), (65, (.invokevirtual 305), 3), (68, (.ifCond .ne 5), 3), (71, (.iconst 4), 1), (72, .ireturn, 1), (73, (.aload_n 0), 1), (74, (.aload_n 3), 1), (75, (.getfield 193), 3), (78, (.iload 4), 2), (80, .laload, 1), (81, (.invokevirtual 177), 3), (84, (.ifnonnull 7), 3), (87, (.iconst 1), 1), (88, (.goto 4), 3), (91, (.iconst 0), 1), (92, .ireturn, 1)]
theorem tbX8_failureOfLeads_n20_ok : ∀ q ∈ tbX8_failureOfLeads_n20, decode cX8_failureOfLeads q.1 = .ok q.2 := by decide +kernel
theorem dX8_failureOfLeads_0 : decode cX8_failureOfLeads 0 = .ok (.aload_n 1, 1) := tb_at tbX8_failureOfLeads_n20_ok 0 rfl
theorem dX8_failureOfLeads_1 : decode cX8_failureOfLeads 1 = .ok (.getfield 97, 3) := tb_at tbX8_failureOfLeads_n20_ok 1 rfl
theorem dX8_failureOfLeads_4 : decode cX8_failureOfLeads 4 = .ok (.aload_n 2, 1) := tb_at tbX8_failureOfLeads_n20_ok 2 rfl
theorem dX8_failureOfLeads_5 : decode cX8_failureOfLeads 5 = .ok (.getfield 302, 3) := tb_at tbX8_failureOfLeads_n20_ok 3 rfl
theorem dX8_failureOfLeads_8 : decode cX8_failureOfLeads 8 = .ok (.iconst 2, 1) := tb_at tbX8_failureOfLeads_n20_ok 4 rfl
theorem dX8_failureOfLeads_9 : decode cX8_failureOfLeads 9 = .ok (.invokevirtual 305, 3) := tb_at tbX8_failureOfLeads_n20_ok 5 rfl
theorem dX8_failureOfLeads_12 : decode cX8_failureOfLeads 12 = .ok (.ifCond .ne 5, 3) := tb_at tbX8_failureOfLeads_n20_ok 6 rfl
theorem dX8_failureOfLeads_15 : decode cX8_failureOfLeads 15 = .ok (.iconst 4, 1) := tb_at tbX8_failureOfLeads_n20_ok 7 rfl
theorem dX8_failureOfLeads_16 : decode cX8_failureOfLeads 16 = .ok (.ireturn, 1) := tb_at tbX8_failureOfLeads_n20_ok 8 rfl
theorem dX8_failureOfLeads_17 : decode cX8_failureOfLeads 17 = .ok (.aload_n 0, 1) := tb_at tbX8_failureOfLeads_n20_ok 9 rfl
theorem dX8_failureOfLeads_18 : decode cX8_failureOfLeads 18 = .ok (.aload_n 1, 1) := tb_at tbX8_failureOfLeads_n20_ok 10 rfl
theorem dX8_failureOfLeads_19 : decode cX8_failureOfLeads 19 = .ok (.getfield 193, 3) := tb_at tbX8_failureOfLeads_n20_ok 11 rfl
theorem dX8_failureOfLeads_22 : decode cX8_failureOfLeads 22 = .ok (.aload_n 2, 1) := tb_at tbX8_failureOfLeads_n20_ok 12 rfl
theorem dX8_failureOfLeads_23 : decode cX8_failureOfLeads 23 = .ok (.getfield 302, 3) := tb_at tbX8_failureOfLeads_n20_ok 13 rfl
theorem dX8_failureOfLeads_26 : decode cX8_failureOfLeads 26 = .ok (.laload, 1) := tb_at tbX8_failureOfLeads_n20_ok 14 rfl
theorem dX8_failureOfLeads_27 : decode cX8_failureOfLeads 27 = .ok (.invokevirtual 177, 3) := tb_at tbX8_failureOfLeads_n20_ok 15 rfl
theorem dX8_failureOfLeads_30 : decode cX8_failureOfLeads 30 = .ok (.astore_n 3, 1) := tb_at tbX8_failureOfLeads_n20_ok 16 rfl
theorem dX8_failureOfLeads_31 : decode cX8_failureOfLeads 31 = .ok (.aload_n 3, 1) := tb_at tbX8_failureOfLeads_n20_ok 17 rfl
theorem dX8_failureOfLeads_32 : decode cX8_failureOfLeads 32 = .ok (.ifnonnull 5, 3) := tb_at tbX8_failureOfLeads_n20_ok 18 rfl
theorem dX8_failureOfLeads_35 : decode cX8_failureOfLeads 35 = .ok (.iconst 1, 1) := tb_at tbX8_failureOfLeads_n20_ok 19 rfl
theorem dX8_failureOfLeads_36 : decode cX8_failureOfLeads 36 = .ok (.ireturn, 1) := tb_at tbX8_failureOfLeads_n20_ok 20 rfl
theorem dX8_failureOfLeads_37 : decode cX8_failureOfLeads 37 = .ok (.aload_n 3, 1) := tb_at tbX8_failureOfLeads_n20_ok 21 rfl
theorem dX8_failureOfLeads_38 : decode cX8_failureOfLeads 38 = .ok (.getfield 97, 3) := tb_at tbX8_failureOfLeads_n20_ok 22 rfl
theorem dX8_failureOfLeads_41 : decode cX8_failureOfLeads 41 = .ok (.aload_n 1, 1) := tb_at tbX8_failureOfLeads_n20_ok 23 rfl
theorem dX8_failureOfLeads_42 : decode cX8_failureOfLeads 42 = .ok (.getfield 97, 3) := tb_at tbX8_failureOfLeads_n20_ok 24 rfl
theorem dX8_failureOfLeads_45 : decode cX8_failureOfLeads 45 = .ok (.getfield 320, 3) := tb_at tbX8_failureOfLeads_n20_ok 25 rfl
theorem dX8_failureOfLeads_48 : decode cX8_failureOfLeads 48 = .ok (.aload_n 2, 1) := tb_at tbX8_failureOfLeads_n20_ok 26 rfl
theorem dX8_failureOfLeads_49 : decode cX8_failureOfLeads 49 = .ok (.getfield 302, 3) := tb_at tbX8_failureOfLeads_n20_ok 27 rfl
theorem dX8_failureOfLeads_52 : decode cX8_failureOfLeads 52 = .ok (.iaload, 1) := tb_at tbX8_failureOfLeads_n20_ok 28 rfl
theorem dX8_failureOfLeads_53 : decode cX8_failureOfLeads 53 = .ok (.invokevirtual 78, 3) := tb_at tbX8_failureOfLeads_n20_ok 29 rfl
theorem dX8_failureOfLeads_56 : decode cX8_failureOfLeads 56 = .ok (.istore 4, 2) := tb_at tbX8_failureOfLeads_n20_ok 30 rfl
theorem dX8_failureOfLeads_58 : decode cX8_failureOfLeads 58 = .ok (.aload_n 3, 1) := tb_at tbX8_failureOfLeads_n20_ok 31 rfl
theorem dX8_failureOfLeads_59 : decode cX8_failureOfLeads 59 = .ok (.getfield 97, 3) := tb_at tbX8_failureOfLeads_n20_ok 32 rfl
theorem dX8_failureOfLeads_62 : decode cX8_failureOfLeads 62 = .ok (.iload 4, 2) := tb_at tbX8_failureOfLeads_n20_ok 33 rfl
theorem dX8_failureOfLeads_64 : decode cX8_failureOfLeads 64 = .ok (.iconst 2, 1) := tb_at tbX8_failureOfLeads_n20_ok 34 rfl
theorem dX8_failureOfLeads_65 : decode cX8_failureOfLeads 65 = .ok (.invokevirtual 305, 3) := tb_at tbX8_failureOfLeads_n20_ok 35 rfl
theorem dX8_failureOfLeads_68 : decode cX8_failureOfLeads 68 = .ok (.ifCond .ne 5, 3) := tb_at tbX8_failureOfLeads_n20_ok 36 rfl
theorem dX8_failureOfLeads_71 : decode cX8_failureOfLeads 71 = .ok (.iconst 4, 1) := tb_at tbX8_failureOfLeads_n20_ok 37 rfl
theorem dX8_failureOfLeads_72 : decode cX8_failureOfLeads 72 = .ok (.ireturn, 1) := tb_at tbX8_failureOfLeads_n20_ok 38 rfl
theorem dX8_failureOfLeads_73 : decode cX8_failureOfLeads 73 = .ok (.aload_n 0, 1) := tb_at tbX8_failureOfLeads_n20_ok 39 rfl
theorem dX8_failureOfLeads_74 : decode cX8_failureOfLeads 74 = .ok (.aload_n 3, 1) := tb_at tbX8_failureOfLeads_n20_ok 40 rfl
theorem dX8_failureOfLeads_75 : decode cX8_failureOfLeads 75 = .ok (.getfield 193, 3) := tb_at tbX8_failureOfLeads_n20_ok 41 rfl
theorem dX8_failureOfLeads_78 : decode cX8_failureOfLeads 78 = .ok (.iload 4, 2) := tb_at tbX8_failureOfLeads_n20_ok 42 rfl
theorem dX8_failureOfLeads_80 : decode cX8_failureOfLeads 80 = .ok (.laload, 1) := tb_at tbX8_failureOfLeads_n20_ok 43 rfl
theorem dX8_failureOfLeads_81 : decode cX8_failureOfLeads 81 = .ok (.invokevirtual 177, 3) := tb_at tbX8_failureOfLeads_n20_ok 44 rfl
theorem dX8_failureOfLeads_84 : decode cX8_failureOfLeads 84 = .ok (.ifnonnull 7, 3) := tb_at tbX8_failureOfLeads_n20_ok 45 rfl
theorem dX8_failureOfLeads_87 : decode cX8_failureOfLeads 87 = .ok (.iconst 1, 1) := tb_at tbX8_failureOfLeads_n20_ok 46 rfl
theorem dX8_failureOfLeads_88 : decode cX8_failureOfLeads 88 = .ok (.goto 4, 3) := tb_at tbX8_failureOfLeads_n20_ok 47 rfl
theorem dX8_failureOfLeads_91 : decode cX8_failureOfLeads 91 = .ok (.iconst 0, 1) := tb_at tbX8_failureOfLeads_n20_ok 48 rfl
theorem dX8_failureOfLeads_92 : decode cX8_failureOfLeads 92 = .ok (.ireturn, 1) := tb_at tbX8_failureOfLeads_n20_ok 49 rfl
set_option maxRecDepth 20000 in
theorem ggX8_recordFrom_X8_forgetNumbers : GoodIn wsX8_recordFrom wsX8_forgetNumbers := goodIn_r _ [8, 9, 10, 11, 12, 13, 14, 15, 16, 17, 18, 19, 20, 73, 74, 75, 76, 77, 78, 79, 80, 81, 82, 83, 84, 85, 86, 87, 88, 89, 90, 91, 92, 93, 94, 95, 96, 97, 98] (by decide +kernel) (by decide +kernel)
set_option maxRecDepth 20000 in
theorem gX8_recordFrom_X8_forgetNumbers : GoodIn wsX8_recordFrom (wsV RX8 321 RX8 yX8_forgetNumbers wsX8_forgetNumbers) := goodIn_app (goodIn_of _ (by decide +kernel)) ggX8_recordFrom_X8_forgetNumbers
set_option maxRecDepth 20000 in
theorem ggX8_recordFrom_X8_recordNumberOf : GoodIn wsX8_recordFrom wsX8_recordNumberOf := goodIn_r _ [24, 25, 1, 3, 26, 27, 28, 29, 30, 85, 86, 87, 88, 64, 65, 66, 67, 68, 69, 70, 71, 72, 73, 74, 75, 76, 77, 78, 79, 80, 81, 82, 83, 84, 89, 90, 91, 92, 93, 94, 95, 96] (by decide +kernel) (by decide +kernel)
set_option maxRecDepth 20000 in
theorem gX8_recordFrom_X8_recordNumberOf : GoodIn wsX8_recordFrom (wsV RX8 324 RX8 yX8_recordNumberOf wsX8_recordNumberOf) := goodIn_app (goodIn_of _ (by decide +kernel)) ggX8_recordFrom_X8_recordNumberOf
set_option maxRecDepth 20000 in
theorem ggX8_recordFrom_X8_recordFields : GoodIn wsX8_recordFrom wsX8_recordFields := goodIn_r _ [34, 27, 30, 35, 36, 37, 38, 39, 40, 41, 42, 7, 43, 44, 45, 46, 47, 48, 49, 50, 51, 52, 53, 54, 55, 56, 57, 58, 59, 60, 61, 62, 63, 9, 10, 21, 22, 23, 24, 25, 1, 3, 26, 28, 29, 85, 86, 87, 88, 89, 90, 91, 92, 93, 94, 95, 96, 64, 65, 66, 67, 68, 69, 70, 71, 72, 97, 98, 73, 74, 75, 76, 77, 78, 79, 80, 81, 82, 83, 84] (by decide +kernel) (by decide +kernel)
set_option maxRecDepth 20000 in
theorem gX8_recordFrom_X8_recordFields : GoodIn wsX8_recordFrom (wsV RX8 328 RX8 yX8_recordFields wsX8_recordFields) := goodIn_app (goodIn_of _ (by decide +kernel)) ggX8_recordFrom_X8_recordFields
noncomputable def tbX8_recordFrom_n20 : List (Nat × Instr × Nat) := [(0, (.aload_n 0), 1), (1, (.invokevirtual 321), 3), (4, (.aload_n 2), 1), (5, (.iconst 0), 1), (6, (.putfield 231), 3), (9, (.aload_n 2), 1), (10, (.iconst 0), 1), (11, (.putfield 234), 3), (14, (.aload_n 0), 1), (15, (.aload_n 1), 1), (16, (.aload_n 2), 1), (17, (.invokevirtual 324), 3), (20, .pop, 1), (21, (.iconst 0), 1), (22, (.istore_n 3), 1), (23, (.iload_n 3), 1), (24, (.bipush 30), 2), (26, (.if_icmp .ge 29), 3), (29, (.iload_n 3), 1), (30, (.aload_n 2), 1), (31, (.getfield 231), 3), (34, (.if_icmp .ge 21), 3), (37, (.aload_n 0), 1), (38, (.aload_n 0), 1), (39, (.getfield 39), 3), (42, (.iload_n 3), 1), (43, .aaload, 1), (44, (.iload_n 3), 1), (45, (.aload_n 2), 1), (46, (.invokevirtual 328), 3), (49, (.iinc 3 1), 3), (52, (.goto (-29)), 3), (55, .return_, 1)]
theorem tbX8_recordFrom_n20_ok : ∀ q ∈ tbX8_recordFrom_n20, decode cX8_recordFrom q.1 = .ok q.2 := by decide +kernel
theorem dX8_recordFrom_0 : decode cX8_recordFrom 0 = .ok (.aload_n 0, 1) := tb_at tbX8_recordFrom_n20_ok 0 rfl
theorem dX8_recordFrom_1 : decode cX8_recordFrom 1 = .ok (.invokevirtual 321, 3) := tb_at tbX8_recordFrom_n20_ok 1 rfl
theorem dX8_recordFrom_4 : decode cX8_recordFrom 4 = .ok (.aload_n 2, 1) := tb_at tbX8_recordFrom_n20_ok 2 rfl
theorem dX8_recordFrom_5 : decode cX8_recordFrom 5 = .ok (.iconst 0, 1) := tb_at tbX8_recordFrom_n20_ok 3 rfl
theorem dX8_recordFrom_6 : decode cX8_recordFrom 6 = .ok (.putfield 231, 3) := tb_at tbX8_recordFrom_n20_ok 4 rfl
theorem dX8_recordFrom_9 : decode cX8_recordFrom 9 = .ok (.aload_n 2, 1) := tb_at tbX8_recordFrom_n20_ok 5 rfl
theorem dX8_recordFrom_10 : decode cX8_recordFrom 10 = .ok (.iconst 0, 1) := tb_at tbX8_recordFrom_n20_ok 6 rfl
theorem dX8_recordFrom_11 : decode cX8_recordFrom 11 = .ok (.putfield 234, 3) := tb_at tbX8_recordFrom_n20_ok 7 rfl
theorem dX8_recordFrom_14 : decode cX8_recordFrom 14 = .ok (.aload_n 0, 1) := tb_at tbX8_recordFrom_n20_ok 8 rfl
theorem dX8_recordFrom_15 : decode cX8_recordFrom 15 = .ok (.aload_n 1, 1) := tb_at tbX8_recordFrom_n20_ok 9 rfl
theorem dX8_recordFrom_16 : decode cX8_recordFrom 16 = .ok (.aload_n 2, 1) := tb_at tbX8_recordFrom_n20_ok 10 rfl
theorem dX8_recordFrom_17 : decode cX8_recordFrom 17 = .ok (.invokevirtual 324, 3) := tb_at tbX8_recordFrom_n20_ok 11 rfl
theorem dX8_recordFrom_20 : decode cX8_recordFrom 20 = .ok (.pop, 1) := tb_at tbX8_recordFrom_n20_ok 12 rfl
theorem dX8_recordFrom_21 : decode cX8_recordFrom 21 = .ok (.iconst 0, 1) := tb_at tbX8_recordFrom_n20_ok 13 rfl
theorem dX8_recordFrom_22 : decode cX8_recordFrom 22 = .ok (.istore_n 3, 1) := tb_at tbX8_recordFrom_n20_ok 14 rfl
theorem dX8_recordFrom_23 : decode cX8_recordFrom 23 = .ok (.iload_n 3, 1) := tb_at tbX8_recordFrom_n20_ok 15 rfl
theorem dX8_recordFrom_24 : decode cX8_recordFrom 24 = .ok (.bipush 30, 2) := tb_at tbX8_recordFrom_n20_ok 16 rfl
theorem dX8_recordFrom_26 : decode cX8_recordFrom 26 = .ok (.if_icmp .ge 29, 3) := tb_at tbX8_recordFrom_n20_ok 17 rfl
theorem dX8_recordFrom_29 : decode cX8_recordFrom 29 = .ok (.iload_n 3, 1) := tb_at tbX8_recordFrom_n20_ok 18 rfl
theorem dX8_recordFrom_30 : decode cX8_recordFrom 30 = .ok (.aload_n 2, 1) := tb_at tbX8_recordFrom_n20_ok 19 rfl
theorem dX8_recordFrom_31 : decode cX8_recordFrom 31 = .ok (.getfield 231, 3) := tb_at tbX8_recordFrom_n20_ok 20 rfl
theorem dX8_recordFrom_34 : decode cX8_recordFrom 34 = .ok (.if_icmp .ge 21, 3) := tb_at tbX8_recordFrom_n20_ok 21 rfl
theorem dX8_recordFrom_37 : decode cX8_recordFrom 37 = .ok (.aload_n 0, 1) := tb_at tbX8_recordFrom_n20_ok 22 rfl
theorem dX8_recordFrom_38 : decode cX8_recordFrom 38 = .ok (.aload_n 0, 1) := tb_at tbX8_recordFrom_n20_ok 23 rfl
theorem dX8_recordFrom_39 : decode cX8_recordFrom 39 = .ok (.getfield 39, 3) := tb_at tbX8_recordFrom_n20_ok 24 rfl
theorem dX8_recordFrom_42 : decode cX8_recordFrom 42 = .ok (.iload_n 3, 1) := tb_at tbX8_recordFrom_n20_ok 25 rfl
theorem dX8_recordFrom_43 : decode cX8_recordFrom 43 = .ok (.aaload, 1) := tb_at tbX8_recordFrom_n20_ok 26 rfl
theorem dX8_recordFrom_44 : decode cX8_recordFrom 44 = .ok (.iload_n 3, 1) := tb_at tbX8_recordFrom_n20_ok 27 rfl
theorem dX8_recordFrom_45 : decode cX8_recordFrom 45 = .ok (.aload_n 2, 1) := tb_at tbX8_recordFrom_n20_ok 28 rfl
theorem dX8_recordFrom_46 : decode cX8_recordFrom 46 = .ok (.invokevirtual 328, 3) := tb_at tbX8_recordFrom_n20_ok 29 rfl
theorem dX8_recordFrom_49 : decode cX8_recordFrom 49 = .ok (.iinc 3 1, 3) := tb_at tbX8_recordFrom_n20_ok 30 rfl
theorem dX8_recordFrom_52 : decode cX8_recordFrom 52 = .ok (.goto (-29), 3) := tb_at tbX8_recordFrom_n20_ok 31 rfl
theorem dX8_recordFrom_55 : decode cX8_recordFrom 55 = .ok (.return_, 1) := tb_at tbX8_recordFrom_n20_ok 32 rfl
set_option maxRecDepth 20000 in
theorem ggX8_forgetNumbers_X6_forgetNumbers : GoodIn wsX8_forgetNumbers wsX6_forgetNumbers := goodIn_r _ [7, 8, 9, 10, 11, 12, 25, 26, 27, 28, 29, 30, 31, 32, 33, 34, 35, 36, 37, 38] (by decide +kernel) (by decide +kernel)
set_option maxRecDepth 20000 in
theorem gX8_forgetNumbers_X6_forgetNumbers : GoodIn wsX8_forgetNumbers (wsV RX8 332 RX6 yX6_forgetNumbers wsX6_forgetNumbers) := goodIn_app (goodIn_of _ (by decide +kernel)) ggX8_forgetNumbers_X6_forgetNumbers
noncomputable def tbX8_forgetNumbers_n20 : List (Nat × Instr × Nat) := [(0, (.iconst 0), 1), (1, (.istore_n 1), 1), (2, (.iload_n 1), 1), (3, (.aload_n 0), 1), (4, (.getfield 94), 3), (7, (.if_icmp .ge 18), 3), (10, (.aload_n 0), 1), (11, (.getfield 17), 3), (14, (.iload_n 1), 1), (15, .aaload, 1), (16, (.invokevirtual 332), 3), (19, (.iinc 1 1), 3), (22, (.goto (-20)), 3), (25, .return_, 1)]
theorem tbX8_forgetNumbers_n20_ok : ∀ q ∈ tbX8_forgetNumbers_n20, decode cX8_forgetNumbers q.1 = .ok q.2 := by decide +kernel
theorem dX8_forgetNumbers_0 : decode cX8_forgetNumbers 0 = .ok (.iconst 0, 1) := tb_at tbX8_forgetNumbers_n20_ok 0 rfl
theorem dX8_forgetNumbers_1 : decode cX8_forgetNumbers 1 = .ok (.istore_n 1, 1) := tb_at tbX8_forgetNumbers_n20_ok 1 rfl
theorem dX8_forgetNumbers_2 : decode cX8_forgetNumbers 2 = .ok (.iload_n 1, 1) := tb_at tbX8_forgetNumbers_n20_ok 2 rfl
theorem dX8_forgetNumbers_3 : decode cX8_forgetNumbers 3 = .ok (.aload_n 0, 1) := tb_at tbX8_forgetNumbers_n20_ok 3 rfl
theorem dX8_forgetNumbers_4 : decode cX8_forgetNumbers 4 = .ok (.getfield 94, 3) := tb_at tbX8_forgetNumbers_n20_ok 4 rfl
theorem dX8_forgetNumbers_7 : decode cX8_forgetNumbers 7 = .ok (.if_icmp .ge 18, 3) := tb_at tbX8_forgetNumbers_n20_ok 5 rfl
theorem dX8_forgetNumbers_10 : decode cX8_forgetNumbers 10 = .ok (.aload_n 0, 1) := tb_at tbX8_forgetNumbers_n20_ok 6 rfl
theorem dX8_forgetNumbers_11 : decode cX8_forgetNumbers 11 = .ok (.getfield 17, 3) := tb_at tbX8_forgetNumbers_n20_ok 7 rfl
theorem dX8_forgetNumbers_14 : decode cX8_forgetNumbers 14 = .ok (.iload_n 1, 1) := tb_at tbX8_forgetNumbers_n20_ok 8 rfl
theorem dX8_forgetNumbers_15 : decode cX8_forgetNumbers 15 = .ok (.aaload, 1) := tb_at tbX8_forgetNumbers_n20_ok 9 rfl
theorem dX8_forgetNumbers_16 : decode cX8_forgetNumbers 16 = .ok (.invokevirtual 332, 3) := tb_at tbX8_forgetNumbers_n20_ok 10 rfl
theorem dX8_forgetNumbers_19 : decode cX8_forgetNumbers 19 = .ok (.iinc 1 1, 3) := tb_at tbX8_forgetNumbers_n20_ok 11 rfl
theorem dX8_forgetNumbers_22 : decode cX8_forgetNumbers 22 = .ok (.goto (-20), 3) := tb_at tbX8_forgetNumbers_n20_ok 12 rfl
theorem dX8_forgetNumbers_25 : decode cX8_forgetNumbers 25 = .ok (.return_, 1) := tb_at tbX8_forgetNumbers_n20_ok 13 rfl
noncomputable def tbX8_recordNumberOf_n20 : List (Nat × Instr × Nat) := [(0, (.aload_n 1), 1), (1, (.getfield 333), 3), (4, (.iconst (-1)), 1), (5, (.if_icmp .ne 63), 3), (8, (.aload_n 1), 1), (9, (.aload_n 2), 1), (10, (.getfield 231), 3), (13, (.putfield 333), 3), (16, (.aload_n 0), 1), (17, (.getfield 39), 3), (20, (.aload_n 2), 1), (21, (.getfield 231), 3), (24, (.aload_n 1), 1), (25, .aastore, 1), (26, (.aload_n 2), 1), (27, (.getfield 336), 3), (30, (.aload_n 2), 1), (31, (.getfield 231), 3), (34, (.aload_n 1), 1), (35, (.getfield 97), 3), (38, (.getfield 205), 3), (41, .iastore, 1), (42, (.aload_n 2), 1), (43, (.getfield 338), 3), (46, (.aload_n 2), 1), (47, (.getfield 231), 3), (50, (.aload_n 1), 1), (51, (.getfield 97), 3), (54, (.getfield 85), 3), (57, .iastore, 1), (58, (.aload_n 2), 1), (59, .dup, 1), (60, (.getfield 231), 3), (63, (.iconst 1), 1), (64, .iadd, 1), (65, (.putfield 231), 3), (68, (.aload_n 1), 1), (69, (.getfield 333), 3), (72, .ireturn, 1)]
theorem tbX8_recordNumberOf_n20_ok : ∀ q ∈ tbX8_recordNumberOf_n20, decode cX8_recordNumberOf q.1 = .ok q.2 := by decide +kernel
theorem dX8_recordNumberOf_0 : decode cX8_recordNumberOf 0 = .ok (.aload_n 1, 1) := tb_at tbX8_recordNumberOf_n20_ok 0 rfl
theorem dX8_recordNumberOf_1 : decode cX8_recordNumberOf 1 = .ok (.getfield 333, 3) := tb_at tbX8_recordNumberOf_n20_ok 1 rfl
theorem dX8_recordNumberOf_4 : decode cX8_recordNumberOf 4 = .ok (.iconst (-1), 1) := tb_at tbX8_recordNumberOf_n20_ok 2 rfl
theorem dX8_recordNumberOf_5 : decode cX8_recordNumberOf 5 = .ok (.if_icmp .ne 63, 3) := tb_at tbX8_recordNumberOf_n20_ok 3 rfl
theorem dX8_recordNumberOf_8 : decode cX8_recordNumberOf 8 = .ok (.aload_n 1, 1) := tb_at tbX8_recordNumberOf_n20_ok 4 rfl
theorem dX8_recordNumberOf_9 : decode cX8_recordNumberOf 9 = .ok (.aload_n 2, 1) := tb_at tbX8_recordNumberOf_n20_ok 5 rfl
theorem dX8_recordNumberOf_10 : decode cX8_recordNumberOf 10 = .ok (.getfield 231, 3) := tb_at tbX8_recordNumberOf_n20_ok 6 rfl
theorem dX8_recordNumberOf_13 : decode cX8_recordNumberOf 13 = .ok (.putfield 333, 3) := tb_at tbX8_recordNumberOf_n20_ok 7 rfl
theorem dX8_recordNumberOf_16 : decode cX8_recordNumberOf 16 = .ok (.aload_n 0, 1) := tb_at tbX8_recordNumberOf_n20_ok 8 rfl
theorem dX8_recordNumberOf_17 : decode cX8_recordNumberOf 17 = .ok (.getfield 39, 3) := tb_at tbX8_recordNumberOf_n20_ok 9 rfl
theorem dX8_recordNumberOf_20 : decode cX8_recordNumberOf 20 = .ok (.aload_n 2, 1) := tb_at tbX8_recordNumberOf_n20_ok 10 rfl
theorem dX8_recordNumberOf_21 : decode cX8_recordNumberOf 21 = .ok (.getfield 231, 3) := tb_at tbX8_recordNumberOf_n20_ok 11 rfl
theorem dX8_recordNumberOf_24 : decode cX8_recordNumberOf 24 = .ok (.aload_n 1, 1) := tb_at tbX8_recordNumberOf_n20_ok 12 rfl
theorem dX8_recordNumberOf_25 : decode cX8_recordNumberOf 25 = .ok (.aastore, 1) := tb_at tbX8_recordNumberOf_n20_ok 13 rfl
theorem dX8_recordNumberOf_26 : decode cX8_recordNumberOf 26 = .ok (.aload_n 2, 1) := tb_at tbX8_recordNumberOf_n20_ok 14 rfl
theorem dX8_recordNumberOf_27 : decode cX8_recordNumberOf 27 = .ok (.getfield 336, 3) := tb_at tbX8_recordNumberOf_n20_ok 15 rfl
theorem dX8_recordNumberOf_30 : decode cX8_recordNumberOf 30 = .ok (.aload_n 2, 1) := tb_at tbX8_recordNumberOf_n20_ok 16 rfl
theorem dX8_recordNumberOf_31 : decode cX8_recordNumberOf 31 = .ok (.getfield 231, 3) := tb_at tbX8_recordNumberOf_n20_ok 17 rfl
theorem dX8_recordNumberOf_34 : decode cX8_recordNumberOf 34 = .ok (.aload_n 1, 1) := tb_at tbX8_recordNumberOf_n20_ok 18 rfl
theorem dX8_recordNumberOf_35 : decode cX8_recordNumberOf 35 = .ok (.getfield 97, 3) := tb_at tbX8_recordNumberOf_n20_ok 19 rfl
theorem dX8_recordNumberOf_38 : decode cX8_recordNumberOf 38 = .ok (.getfield 205, 3) := tb_at tbX8_recordNumberOf_n20_ok 20 rfl
theorem dX8_recordNumberOf_41 : decode cX8_recordNumberOf 41 = .ok (.iastore, 1) := tb_at tbX8_recordNumberOf_n20_ok 21 rfl
theorem dX8_recordNumberOf_42 : decode cX8_recordNumberOf 42 = .ok (.aload_n 2, 1) := tb_at tbX8_recordNumberOf_n20_ok 22 rfl
theorem dX8_recordNumberOf_43 : decode cX8_recordNumberOf 43 = .ok (.getfield 338, 3) := tb_at tbX8_recordNumberOf_n20_ok 23 rfl
theorem dX8_recordNumberOf_46 : decode cX8_recordNumberOf 46 = .ok (.aload_n 2, 1) := tb_at tbX8_recordNumberOf_n20_ok 24 rfl
theorem dX8_recordNumberOf_47 : decode cX8_recordNumberOf 47 = .ok (.getfield 231, 3) := tb_at tbX8_recordNumberOf_n20_ok 25 rfl
theorem dX8_recordNumberOf_50 : decode cX8_recordNumberOf 50 = .ok (.aload_n 1, 1) := tb_at tbX8_recordNumberOf_n20_ok 26 rfl
theorem dX8_recordNumberOf_51 : decode cX8_recordNumberOf 51 = .ok (.getfield 97, 3) := tb_at tbX8_recordNumberOf_n20_ok 27 rfl
theorem dX8_recordNumberOf_54 : decode cX8_recordNumberOf 54 = .ok (.getfield 85, 3) := tb_at tbX8_recordNumberOf_n20_ok 28 rfl
theorem dX8_recordNumberOf_57 : decode cX8_recordNumberOf 57 = .ok (.iastore, 1) := tb_at tbX8_recordNumberOf_n20_ok 29 rfl
theorem dX8_recordNumberOf_58 : decode cX8_recordNumberOf 58 = .ok (.aload_n 2, 1) := tb_at tbX8_recordNumberOf_n20_ok 30 rfl
theorem dX8_recordNumberOf_59 : decode cX8_recordNumberOf 59 = .ok (.dup, 1) := tb_at tbX8_recordNumberOf_n20_ok 31 rfl
theorem dX8_recordNumberOf_60 : decode cX8_recordNumberOf 60 = .ok (.getfield 231, 3) := tb_at tbX8_recordNumberOf_n20_ok 32 rfl
theorem dX8_recordNumberOf_63 : decode cX8_recordNumberOf 63 = .ok (.iconst 1, 1) := tb_at tbX8_recordNumberOf_n20_ok 33 rfl
theorem dX8_recordNumberOf_64 : decode cX8_recordNumberOf 64 = .ok (.iadd, 1) := tb_at tbX8_recordNumberOf_n20_ok 34 rfl
theorem dX8_recordNumberOf_65 : decode cX8_recordNumberOf 65 = .ok (.putfield 231, 3) := tb_at tbX8_recordNumberOf_n20_ok 35 rfl
theorem dX8_recordNumberOf_68 : decode cX8_recordNumberOf 68 = .ok (.aload_n 1, 1) := tb_at tbX8_recordNumberOf_n20_ok 36 rfl
theorem dX8_recordNumberOf_69 : decode cX8_recordNumberOf 69 = .ok (.getfield 333, 3) := tb_at tbX8_recordNumberOf_n20_ok 37 rfl
theorem dX8_recordNumberOf_72 : decode cX8_recordNumberOf 72 = .ok (.ireturn, 1) := tb_at tbX8_recordNumberOf_n20_ok 38 rfl
set_option maxRecDepth 20000 in
theorem ggX8_recordFields_X8_recordedValue : GoodIn wsX8_recordFields wsX8_recordedValue := goodIn_r _ [12, 1, 6, 13, 14, 15, 16, 17, 11, 18, 19, 20, 21, 22, 23, 24, 25, 26, 27, 28, 29, 30, 31, 32, 33, 34, 35, 36, 37, 38, 39, 40, 41, 42, 43, 44, 2, 45, 46, 47, 48, 49, 50, 51, 52, 53, 54, 55, 56, 66, 67, 57, 58, 59, 60, 61, 62, 63, 64, 65, 68, 69, 70, 71, 72, 73, 74, 75, 76, 77, 78, 79] (by decide +kernel) (by decide +kernel)
set_option maxRecDepth 20000 in
theorem gX8_recordFields_X8_recordedValue : GoodIn wsX8_recordFields (wsV RX8 343 RX8 yX8_recordedValue wsX8_recordedValue) := goodIn_app (goodIn_of _ (by decide +kernel)) ggX8_recordFields_X8_recordedValue
noncomputable def tbX8_recordFields_n20 : List (Nat × Instr × Nat) := [(0, (.iconst 0), 1), (1, (.istore 4), 2), (3, (.iload 4), 2), (5, (.aload_n 1), 1), (6, (.getfield 97), 3), (9, (.getfield 85), 3), (12, (.if_icmp .ge 66), 3), (15, (.iload_n 2), 1), (16, (.iconst 5), 1), (17, .imul, 1), (18, (.iload 4), 2), (20, .iadd, 1), (21, (.istore 5), 2), (23, (.aload_n 3), 1), (24, (.getfield 224), 3), (27, (.iload 5), 2), (29, (.aload_n 1), 1), (30, (.getfield 97), 3), (33, (.getfield 320), 3), (36, (.iload 4), 2), (38, .iaload, 1), (39, .iastore, 1), (40, (.aload_n 3), 1), (41, (.getfield 341), 3), (44, (.iload 5), 2), (46, (.aload_n 1), 1), (47, (.getfield 97), 3), (50, (.getfield 135), 3), (53, (.iload 4), 2), (55, .iaload, 1), (56, .iastore, 1), (57, (.aload_n 3), 1), (58, (.getfield 342), 3), (61, (.iload 5), 2), (63, (.aload_n 0), 1), (64, (.aload_n 1), 1), (65, (.iload 4), 2), (67, (.aload_n 3), 1), (68, (.invokevirtual 343), 3), (71, .lastore, 1), (72, (.iinc 4 1), 3), (75, (.goto (-72)), 3), (78, .return_, 1)]
theorem tbX8_recordFields_n20_ok : ∀ q ∈ tbX8_recordFields_n20, decode cX8_recordFields q.1 = .ok q.2 := by decide +kernel
theorem dX8_recordFields_0 : decode cX8_recordFields 0 = .ok (.iconst 0, 1) := tb_at tbX8_recordFields_n20_ok 0 rfl
theorem dX8_recordFields_1 : decode cX8_recordFields 1 = .ok (.istore 4, 2) := tb_at tbX8_recordFields_n20_ok 1 rfl
theorem dX8_recordFields_3 : decode cX8_recordFields 3 = .ok (.iload 4, 2) := tb_at tbX8_recordFields_n20_ok 2 rfl
theorem dX8_recordFields_5 : decode cX8_recordFields 5 = .ok (.aload_n 1, 1) := tb_at tbX8_recordFields_n20_ok 3 rfl
theorem dX8_recordFields_6 : decode cX8_recordFields 6 = .ok (.getfield 97, 3) := tb_at tbX8_recordFields_n20_ok 4 rfl
theorem dX8_recordFields_9 : decode cX8_recordFields 9 = .ok (.getfield 85, 3) := tb_at tbX8_recordFields_n20_ok 5 rfl
theorem dX8_recordFields_12 : decode cX8_recordFields 12 = .ok (.if_icmp .ge 66, 3) := tb_at tbX8_recordFields_n20_ok 6 rfl
theorem dX8_recordFields_15 : decode cX8_recordFields 15 = .ok (.iload_n 2, 1) := tb_at tbX8_recordFields_n20_ok 7 rfl
theorem dX8_recordFields_16 : decode cX8_recordFields 16 = .ok (.iconst 5, 1) := tb_at tbX8_recordFields_n20_ok 8 rfl
theorem dX8_recordFields_17 : decode cX8_recordFields 17 = .ok (.imul, 1) := tb_at tbX8_recordFields_n20_ok 9 rfl
theorem dX8_recordFields_18 : decode cX8_recordFields 18 = .ok (.iload 4, 2) := tb_at tbX8_recordFields_n20_ok 10 rfl
theorem dX8_recordFields_20 : decode cX8_recordFields 20 = .ok (.iadd, 1) := tb_at tbX8_recordFields_n20_ok 11 rfl
theorem dX8_recordFields_21 : decode cX8_recordFields 21 = .ok (.istore 5, 2) := tb_at tbX8_recordFields_n20_ok 12 rfl
theorem dX8_recordFields_23 : decode cX8_recordFields 23 = .ok (.aload_n 3, 1) := tb_at tbX8_recordFields_n20_ok 13 rfl
theorem dX8_recordFields_24 : decode cX8_recordFields 24 = .ok (.getfield 224, 3) := tb_at tbX8_recordFields_n20_ok 14 rfl
theorem dX8_recordFields_27 : decode cX8_recordFields 27 = .ok (.iload 5, 2) := tb_at tbX8_recordFields_n20_ok 15 rfl
theorem dX8_recordFields_29 : decode cX8_recordFields 29 = .ok (.aload_n 1, 1) := tb_at tbX8_recordFields_n20_ok 16 rfl
theorem dX8_recordFields_30 : decode cX8_recordFields 30 = .ok (.getfield 97, 3) := tb_at tbX8_recordFields_n20_ok 17 rfl
theorem dX8_recordFields_33 : decode cX8_recordFields 33 = .ok (.getfield 320, 3) := tb_at tbX8_recordFields_n20_ok 18 rfl
theorem dX8_recordFields_36 : decode cX8_recordFields 36 = .ok (.iload 4, 2) := tb_at tbX8_recordFields_n20_ok 19 rfl
theorem dX8_recordFields_38 : decode cX8_recordFields 38 = .ok (.iaload, 1) := tb_at tbX8_recordFields_n20_ok 20 rfl
theorem dX8_recordFields_39 : decode cX8_recordFields 39 = .ok (.iastore, 1) := tb_at tbX8_recordFields_n20_ok 21 rfl
theorem dX8_recordFields_40 : decode cX8_recordFields 40 = .ok (.aload_n 3, 1) := tb_at tbX8_recordFields_n20_ok 22 rfl
theorem dX8_recordFields_41 : decode cX8_recordFields 41 = .ok (.getfield 341, 3) := tb_at tbX8_recordFields_n20_ok 23 rfl
theorem dX8_recordFields_44 : decode cX8_recordFields 44 = .ok (.iload 5, 2) := tb_at tbX8_recordFields_n20_ok 24 rfl
theorem dX8_recordFields_46 : decode cX8_recordFields 46 = .ok (.aload_n 1, 1) := tb_at tbX8_recordFields_n20_ok 25 rfl
theorem dX8_recordFields_47 : decode cX8_recordFields 47 = .ok (.getfield 97, 3) := tb_at tbX8_recordFields_n20_ok 26 rfl
theorem dX8_recordFields_50 : decode cX8_recordFields 50 = .ok (.getfield 135, 3) := tb_at tbX8_recordFields_n20_ok 27 rfl
theorem dX8_recordFields_53 : decode cX8_recordFields 53 = .ok (.iload 4, 2) := tb_at tbX8_recordFields_n20_ok 28 rfl
theorem dX8_recordFields_55 : decode cX8_recordFields 55 = .ok (.iaload, 1) := tb_at tbX8_recordFields_n20_ok 29 rfl
theorem dX8_recordFields_56 : decode cX8_recordFields 56 = .ok (.iastore, 1) := tb_at tbX8_recordFields_n20_ok 30 rfl
theorem dX8_recordFields_57 : decode cX8_recordFields 57 = .ok (.aload_n 3, 1) := tb_at tbX8_recordFields_n20_ok 31 rfl
theorem dX8_recordFields_58 : decode cX8_recordFields 58 = .ok (.getfield 342, 3) := tb_at tbX8_recordFields_n20_ok 32 rfl
theorem dX8_recordFields_61 : decode cX8_recordFields 61 = .ok (.iload 5, 2) := tb_at tbX8_recordFields_n20_ok 33 rfl
theorem dX8_recordFields_63 : decode cX8_recordFields 63 = .ok (.aload_n 0, 1) := tb_at tbX8_recordFields_n20_ok 34 rfl
theorem dX8_recordFields_64 : decode cX8_recordFields 64 = .ok (.aload_n 1, 1) := tb_at tbX8_recordFields_n20_ok 35 rfl
theorem dX8_recordFields_65 : decode cX8_recordFields 65 = .ok (.iload 4, 2) := tb_at tbX8_recordFields_n20_ok 36 rfl
theorem dX8_recordFields_67 : decode cX8_recordFields 67 = .ok (.aload_n 3, 1) := tb_at tbX8_recordFields_n20_ok 37 rfl
theorem dX8_recordFields_68 : decode cX8_recordFields 68 = .ok (.invokevirtual 343, 3) := tb_at tbX8_recordFields_n20_ok 38 rfl
theorem dX8_recordFields_71 : decode cX8_recordFields 71 = .ok (.lastore, 1) := tb_at tbX8_recordFields_n20_ok 39 rfl
theorem dX8_recordFields_72 : decode cX8_recordFields 72 = .ok (.iinc 4 1, 3) := tb_at tbX8_recordFields_n20_ok 40 rfl
theorem dX8_recordFields_75 : decode cX8_recordFields 75 = .ok (.goto (-72), 3) := tb_at tbX8_recordFields_n20_ok 41 rfl
theorem dX8_recordFields_78 : decode cX8_recordFields 78 = .ok (.return_, 1) := tb_at tbX8_recordFields_n20_ok 42 rfl
set_option maxRecDepth 20000 in
theorem ggX8_recordedValue_X8_isRowLane : GoodIn wsX8_recordedValue wsX8_isRowLane := goodIn_r _ [9] (by decide +kernel) (by decide +kernel)
set_option maxRecDepth 20000 in
theorem gX8_recordedValue_X8_isRowLane : GoodIn wsX8_recordedValue (va_wsS RX8 150 yX8_isRowLane wsX8_isRowLane) := goodIn_app (goodIn_of _ (by decide +kernel)) ggX8_recordedValue_X8_isRowLane
set_option maxRecDepth 20000 in
theorem ggX8_recordedValue_X4_numberOf : GoodIn wsX8_recordedValue wsX4_numberOf := goodIn_r _ [14, 15, 16, 17, 18, 19, 49, 50, 51, 52, 53, 54, 55, 56, 57, 58, 59] (by decide +kernel) (by decide +kernel)
set_option maxRecDepth 20000 in
theorem gX8_recordedValue_X4_numberOf : GoodIn wsX8_recordedValue (wsV RX8 347 RX4 yX4_numberOf wsX4_numberOf) := goodIn_app (goodIn_of _ (by decide +kernel)) ggX8_recordedValue_X4_numberOf
set_option maxRecDepth 20000 in
theorem ggX8_recordedValue_X8_thingNumbered : GoodIn wsX8_recordedValue wsX8_thingNumbered := goodIn_r _ [23, 24, 25, 60, 61, 62, 63, 64, 65, 66, 67, 68, 69, 70, 71] (by decide +kernel) (by decide +kernel)
set_option maxRecDepth 20000 in
theorem gX8_recordedValue_X8_thingNumbered : GoodIn wsX8_recordedValue (wsV RX8 177 RX8 yX8_thingNumbered wsX8_thingNumbered) := goodIn_app (goodIn_of _ (by decide +kernel)) ggX8_recordedValue_X8_thingNumbered
set_option maxRecDepth 20000 in
theorem ggX8_recordedValue_X8_recordNumberOf : GoodIn wsX8_recordedValue wsX8_recordNumberOf := goodIn_r _ [29, 30, 31, 32, 33, 1, 34, 35, 36, 37, 38, 39, 40, 51, 52, 53, 54, 55, 56, 57, 58, 59, 60, 61, 62, 63, 64, 65, 66, 67, 68, 69, 70, 71, 41, 42, 43, 44, 45, 46, 47, 48] (by decide +kernel) (by decide +kernel)
set_option maxRecDepth 20000 in
theorem gX8_recordedValue_X8_recordNumberOf : GoodIn wsX8_recordedValue (wsV RX8 324 RX8 yX8_recordNumberOf wsX8_recordNumberOf) := goodIn_app (goodIn_of _ (by decide +kernel)) ggX8_recordedValue_X8_recordNumberOf
noncomputable def tbX8_recordedValue_n20 : List (Nat × Instr × Nat) := [(0, (.aload_n 1), 1), (1, (.getfield 97), 3), (4, (.getfield 135), 3), (7, (.iload_n 2), 1), (8, .iaload, 1), (9, (.istore 4), 2), (11, (.iload 4), 2), (13, (.invokestatic 150), 3), (16, (.ifCond .eq 30), 3), (19, (.aload_n 1), 1), (20, (.getfield 158), 3), (23, (.iload_n 2), 1), (24, .aaload, 1), (25, (.ifnonnull 9), 3), (28, (.ldc2_w 88), 3), (31, (.goto 14), 3), (34, (.aload_n 3), 1), (35, (.aload_n 1), 1), (36, (.getfield 158), 3), (39, (.iload_n 2), 1), (40, .aaload, 1), (41, (.invokevirtual 347), 3), (44, .i2l, 1), (45, .lreturn, 1), (46, (.iload 4), 2), (48, (.iconst 2), 1), (49, (.if_icmp .ne 35), 3), (52, (.aload_n 0), 1), (53, (.aload_n 1), 1), (54, (.getfield 193), 3), (57, (.iload_n 2), 1), (58, .laload, 1), (59, (.invokevirtual 177), 3), (62, (.astore 5), 2), (64, (.aload 5), 2), (66, (.ifnonnull 9), 3), (69, (.ldc2_w 88), 3), (72, (.goto 11), 3), (75, (.aload_n 0), 1), (76, (.aload 5), 2), (78, (.aload_n 3), 1), (79, (.invokevirtual 324), 3), (82, .i2l, 1), (83, .lreturn, 1), (84, (.aload_n 1), 1), (85, (.getfield 193), 3), (88, (.iload_n 2), 1), (89, .laload, 1), (90, .lreturn, 1)]
theorem tbX8_recordedValue_n20_ok : ∀ q ∈ tbX8_recordedValue_n20, decode cX8_recordedValue q.1 = .ok q.2 := by decide +kernel
theorem dX8_recordedValue_0 : decode cX8_recordedValue 0 = .ok (.aload_n 1, 1) := tb_at tbX8_recordedValue_n20_ok 0 rfl
theorem dX8_recordedValue_1 : decode cX8_recordedValue 1 = .ok (.getfield 97, 3) := tb_at tbX8_recordedValue_n20_ok 1 rfl
theorem dX8_recordedValue_4 : decode cX8_recordedValue 4 = .ok (.getfield 135, 3) := tb_at tbX8_recordedValue_n20_ok 2 rfl
theorem dX8_recordedValue_7 : decode cX8_recordedValue 7 = .ok (.iload_n 2, 1) := tb_at tbX8_recordedValue_n20_ok 3 rfl
theorem dX8_recordedValue_8 : decode cX8_recordedValue 8 = .ok (.iaload, 1) := tb_at tbX8_recordedValue_n20_ok 4 rfl
theorem dX8_recordedValue_9 : decode cX8_recordedValue 9 = .ok (.istore 4, 2) := tb_at tbX8_recordedValue_n20_ok 5 rfl
theorem dX8_recordedValue_11 : decode cX8_recordedValue 11 = .ok (.iload 4, 2) := tb_at tbX8_recordedValue_n20_ok 6 rfl
theorem dX8_recordedValue_13 : decode cX8_recordedValue 13 = .ok (.invokestatic 150, 3) := tb_at tbX8_recordedValue_n20_ok 7 rfl
theorem dX8_recordedValue_16 : decode cX8_recordedValue 16 = .ok (.ifCond .eq 30, 3) := tb_at tbX8_recordedValue_n20_ok 8 rfl
theorem dX8_recordedValue_19 : decode cX8_recordedValue 19 = .ok (.aload_n 1, 1) := tb_at tbX8_recordedValue_n20_ok 9 rfl
theorem dX8_recordedValue_20 : decode cX8_recordedValue 20 = .ok (.getfield 158, 3) := tb_at tbX8_recordedValue_n20_ok 10 rfl
theorem dX8_recordedValue_23 : decode cX8_recordedValue 23 = .ok (.iload_n 2, 1) := tb_at tbX8_recordedValue_n20_ok 11 rfl
theorem dX8_recordedValue_24 : decode cX8_recordedValue 24 = .ok (.aaload, 1) := tb_at tbX8_recordedValue_n20_ok 12 rfl
theorem dX8_recordedValue_25 : decode cX8_recordedValue 25 = .ok (.ifnonnull 9, 3) := tb_at tbX8_recordedValue_n20_ok 13 rfl
theorem dX8_recordedValue_28 : decode cX8_recordedValue 28 = .ok (.ldc2_w 88, 3) := tb_at tbX8_recordedValue_n20_ok 14 rfl
theorem dX8_recordedValue_31 : decode cX8_recordedValue 31 = .ok (.goto 14, 3) := tb_at tbX8_recordedValue_n20_ok 15 rfl
theorem dX8_recordedValue_34 : decode cX8_recordedValue 34 = .ok (.aload_n 3, 1) := tb_at tbX8_recordedValue_n20_ok 16 rfl
theorem dX8_recordedValue_35 : decode cX8_recordedValue 35 = .ok (.aload_n 1, 1) := tb_at tbX8_recordedValue_n20_ok 17 rfl
theorem dX8_recordedValue_36 : decode cX8_recordedValue 36 = .ok (.getfield 158, 3) := tb_at tbX8_recordedValue_n20_ok 18 rfl
theorem dX8_recordedValue_39 : decode cX8_recordedValue 39 = .ok (.iload_n 2, 1) := tb_at tbX8_recordedValue_n20_ok 19 rfl
theorem dX8_recordedValue_40 : decode cX8_recordedValue 40 = .ok (.aaload, 1) := tb_at tbX8_recordedValue_n20_ok 20 rfl
theorem dX8_recordedValue_41 : decode cX8_recordedValue 41 = .ok (.invokevirtual 347, 3) := tb_at tbX8_recordedValue_n20_ok 21 rfl
theorem dX8_recordedValue_44 : decode cX8_recordedValue 44 = .ok (.i2l, 1) := tb_at tbX8_recordedValue_n20_ok 22 rfl
theorem dX8_recordedValue_45 : decode cX8_recordedValue 45 = .ok (.lreturn, 1) := tb_at tbX8_recordedValue_n20_ok 23 rfl
theorem dX8_recordedValue_46 : decode cX8_recordedValue 46 = .ok (.iload 4, 2) := tb_at tbX8_recordedValue_n20_ok 24 rfl
theorem dX8_recordedValue_48 : decode cX8_recordedValue 48 = .ok (.iconst 2, 1) := tb_at tbX8_recordedValue_n20_ok 25 rfl
theorem dX8_recordedValue_49 : decode cX8_recordedValue 49 = .ok (.if_icmp .ne 35, 3) := tb_at tbX8_recordedValue_n20_ok 26 rfl
theorem dX8_recordedValue_52 : decode cX8_recordedValue 52 = .ok (.aload_n 0, 1) := tb_at tbX8_recordedValue_n20_ok 27 rfl
theorem dX8_recordedValue_53 : decode cX8_recordedValue 53 = .ok (.aload_n 1, 1) := tb_at tbX8_recordedValue_n20_ok 28 rfl
theorem dX8_recordedValue_54 : decode cX8_recordedValue 54 = .ok (.getfield 193, 3) := tb_at tbX8_recordedValue_n20_ok 29 rfl
theorem dX8_recordedValue_57 : decode cX8_recordedValue 57 = .ok (.iload_n 2, 1) := tb_at tbX8_recordedValue_n20_ok 30 rfl
theorem dX8_recordedValue_58 : decode cX8_recordedValue 58 = .ok (.laload, 1) := tb_at tbX8_recordedValue_n20_ok 31 rfl
theorem dX8_recordedValue_59 : decode cX8_recordedValue 59 = .ok (.invokevirtual 177, 3) := tb_at tbX8_recordedValue_n20_ok 32 rfl
theorem dX8_recordedValue_62 : decode cX8_recordedValue 62 = .ok (.astore 5, 2) := tb_at tbX8_recordedValue_n20_ok 33 rfl
theorem dX8_recordedValue_64 : decode cX8_recordedValue 64 = .ok (.aload 5, 2) := tb_at tbX8_recordedValue_n20_ok 34 rfl
theorem dX8_recordedValue_66 : decode cX8_recordedValue 66 = .ok (.ifnonnull 9, 3) := tb_at tbX8_recordedValue_n20_ok 35 rfl
theorem dX8_recordedValue_69 : decode cX8_recordedValue 69 = .ok (.ldc2_w 88, 3) := tb_at tbX8_recordedValue_n20_ok 36 rfl
theorem dX8_recordedValue_72 : decode cX8_recordedValue 72 = .ok (.goto 11, 3) := tb_at tbX8_recordedValue_n20_ok 37 rfl
theorem dX8_recordedValue_75 : decode cX8_recordedValue 75 = .ok (.aload_n 0, 1) := tb_at tbX8_recordedValue_n20_ok 38 rfl
theorem dX8_recordedValue_76 : decode cX8_recordedValue 76 = .ok (.aload 5, 2) := tb_at tbX8_recordedValue_n20_ok 39 rfl
theorem dX8_recordedValue_78 : decode cX8_recordedValue 78 = .ok (.aload_n 3, 1) := tb_at tbX8_recordedValue_n20_ok 40 rfl
theorem dX8_recordedValue_79 : decode cX8_recordedValue 79 = .ok (.invokevirtual 324, 3) := tb_at tbX8_recordedValue_n20_ok 41 rfl
theorem dX8_recordedValue_82 : decode cX8_recordedValue 82 = .ok (.i2l, 1) := tb_at tbX8_recordedValue_n20_ok 42 rfl
theorem dX8_recordedValue_83 : decode cX8_recordedValue 83 = .ok (.lreturn, 1) := tb_at tbX8_recordedValue_n20_ok 43 rfl
theorem dX8_recordedValue_84 : decode cX8_recordedValue 84 = .ok (.aload_n 1, 1) := tb_at tbX8_recordedValue_n20_ok 44 rfl
theorem dX8_recordedValue_85 : decode cX8_recordedValue 85 = .ok (.getfield 193, 3) := tb_at tbX8_recordedValue_n20_ok 45 rfl
theorem dX8_recordedValue_88 : decode cX8_recordedValue 88 = .ok (.iload_n 2, 1) := tb_at tbX8_recordedValue_n20_ok 46 rfl
theorem dX8_recordedValue_89 : decode cX8_recordedValue 89 = .ok (.laload, 1) := tb_at tbX8_recordedValue_n20_ok 47 rfl
theorem dX8_recordedValue_90 : decode cX8_recordedValue 90 = .ok (.lreturn, 1) := tb_at tbX8_recordedValue_n20_ok 48 rfl
noncomputable def tbX8_firstShutSlot_n20 : List (Nat × Instr × Nat) := [(0, (.iconst 0), 1), (1, (.istore_n 2), 1), (2, (.iload_n 2), 1), (3, (.aload_n 1), 1), (4, (.getfield 231), 3), (7, (.if_icmp .ge 54), 3), (10, (.aload_n 0), 1), (11, (.getfield 39), 3), (14, (.iload_n 2), 1), (15, .aaload, 1), (16, (.getfield 97), 3), (19, (.astore_n 3), 1), (20, (.iconst 0), 1), (21, (.istore 4), 2), (23, (.iload 4), 2), (25, (.aload_n 3), 1), (26, (.getfield 85), 3), (29, (.if_icmp .ge 26), 3), (32, (.aload_n 3), 1), (33, (.getfield 112), 3), (36, (.iload 4), 2), (38, .baload, 1), (39, (.ifCond .eq 10), 3), (42, (.iload_n 2), 1), (43, (.iconst 5), 1), (44, .imul, 1), (45, (.iload 4), 2), (47, .iadd, 1), (48, .ireturn, 1), (49, (.iinc 4 1), 3), (52, (.goto (-29)), 3), (55, (.iinc 2 1), 3), (58, (.goto (-56)), 3), (61, (.iconst (-1)), 1), (62, .ireturn, 1)]
theorem tbX8_firstShutSlot_n20_ok : ∀ q ∈ tbX8_firstShutSlot_n20, decode cX8_firstShutSlot q.1 = .ok q.2 := by decide +kernel
theorem dX8_firstShutSlot_0 : decode cX8_firstShutSlot 0 = .ok (.iconst 0, 1) := tb_at tbX8_firstShutSlot_n20_ok 0 rfl
theorem dX8_firstShutSlot_1 : decode cX8_firstShutSlot 1 = .ok (.istore_n 2, 1) := tb_at tbX8_firstShutSlot_n20_ok 1 rfl
theorem dX8_firstShutSlot_2 : decode cX8_firstShutSlot 2 = .ok (.iload_n 2, 1) := tb_at tbX8_firstShutSlot_n20_ok 2 rfl
theorem dX8_firstShutSlot_3 : decode cX8_firstShutSlot 3 = .ok (.aload_n 1, 1) := tb_at tbX8_firstShutSlot_n20_ok 3 rfl
theorem dX8_firstShutSlot_4 : decode cX8_firstShutSlot 4 = .ok (.getfield 231, 3) := tb_at tbX8_firstShutSlot_n20_ok 4 rfl
theorem dX8_firstShutSlot_7 : decode cX8_firstShutSlot 7 = .ok (.if_icmp .ge 54, 3) := tb_at tbX8_firstShutSlot_n20_ok 5 rfl
theorem dX8_firstShutSlot_10 : decode cX8_firstShutSlot 10 = .ok (.aload_n 0, 1) := tb_at tbX8_firstShutSlot_n20_ok 6 rfl
theorem dX8_firstShutSlot_11 : decode cX8_firstShutSlot 11 = .ok (.getfield 39, 3) := tb_at tbX8_firstShutSlot_n20_ok 7 rfl
theorem dX8_firstShutSlot_14 : decode cX8_firstShutSlot 14 = .ok (.iload_n 2, 1) := tb_at tbX8_firstShutSlot_n20_ok 8 rfl
theorem dX8_firstShutSlot_15 : decode cX8_firstShutSlot 15 = .ok (.aaload, 1) := tb_at tbX8_firstShutSlot_n20_ok 9 rfl
theorem dX8_firstShutSlot_16 : decode cX8_firstShutSlot 16 = .ok (.getfield 97, 3) := tb_at tbX8_firstShutSlot_n20_ok 10 rfl
theorem dX8_firstShutSlot_19 : decode cX8_firstShutSlot 19 = .ok (.astore_n 3, 1) := tb_at tbX8_firstShutSlot_n20_ok 11 rfl
theorem dX8_firstShutSlot_20 : decode cX8_firstShutSlot 20 = .ok (.iconst 0, 1) := tb_at tbX8_firstShutSlot_n20_ok 12 rfl
theorem dX8_firstShutSlot_21 : decode cX8_firstShutSlot 21 = .ok (.istore 4, 2) := tb_at tbX8_firstShutSlot_n20_ok 13 rfl
theorem dX8_firstShutSlot_23 : decode cX8_firstShutSlot 23 = .ok (.iload 4, 2) := tb_at tbX8_firstShutSlot_n20_ok 14 rfl
theorem dX8_firstShutSlot_25 : decode cX8_firstShutSlot 25 = .ok (.aload_n 3, 1) := tb_at tbX8_firstShutSlot_n20_ok 15 rfl
theorem dX8_firstShutSlot_26 : decode cX8_firstShutSlot 26 = .ok (.getfield 85, 3) := tb_at tbX8_firstShutSlot_n20_ok 16 rfl
theorem dX8_firstShutSlot_29 : decode cX8_firstShutSlot 29 = .ok (.if_icmp .ge 26, 3) := tb_at tbX8_firstShutSlot_n20_ok 17 rfl
theorem dX8_firstShutSlot_32 : decode cX8_firstShutSlot 32 = .ok (.aload_n 3, 1) := tb_at tbX8_firstShutSlot_n20_ok 18 rfl
theorem dX8_firstShutSlot_33 : decode cX8_firstShutSlot 33 = .ok (.getfield 112, 3) := tb_at tbX8_firstShutSlot_n20_ok 19 rfl
theorem dX8_firstShutSlot_36 : decode cX8_firstShutSlot 36 = .ok (.iload 4, 2) := tb_at tbX8_firstShutSlot_n20_ok 20 rfl
theorem dX8_firstShutSlot_38 : decode cX8_firstShutSlot 38 = .ok (.baload, 1) := tb_at tbX8_firstShutSlot_n20_ok 21 rfl
theorem dX8_firstShutSlot_39 : decode cX8_firstShutSlot 39 = .ok (.ifCond .eq 10, 3) := tb_at tbX8_firstShutSlot_n20_ok 22 rfl
theorem dX8_firstShutSlot_42 : decode cX8_firstShutSlot 42 = .ok (.iload_n 2, 1) := tb_at tbX8_firstShutSlot_n20_ok 23 rfl
theorem dX8_firstShutSlot_43 : decode cX8_firstShutSlot 43 = .ok (.iconst 5, 1) := tb_at tbX8_firstShutSlot_n20_ok 24 rfl
theorem dX8_firstShutSlot_44 : decode cX8_firstShutSlot 44 = .ok (.imul, 1) := tb_at tbX8_firstShutSlot_n20_ok 25 rfl
theorem dX8_firstShutSlot_45 : decode cX8_firstShutSlot 45 = .ok (.iload 4, 2) := tb_at tbX8_firstShutSlot_n20_ok 26 rfl
theorem dX8_firstShutSlot_47 : decode cX8_firstShutSlot 47 = .ok (.iadd, 1) := tb_at tbX8_firstShutSlot_n20_ok 27 rfl
theorem dX8_firstShutSlot_48 : decode cX8_firstShutSlot 48 = .ok (.ireturn, 1) := tb_at tbX8_firstShutSlot_n20_ok 28 rfl
theorem dX8_firstShutSlot_49 : decode cX8_firstShutSlot 49 = .ok (.iinc 4 1, 3) := tb_at tbX8_firstShutSlot_n20_ok 29 rfl
theorem dX8_firstShutSlot_52 : decode cX8_firstShutSlot 52 = .ok (.goto (-29), 3) := tb_at tbX8_firstShutSlot_n20_ok 30 rfl
theorem dX8_firstShutSlot_55 : decode cX8_firstShutSlot 55 = .ok (.iinc 2 1, 3) := tb_at tbX8_firstShutSlot_n20_ok 31 rfl
theorem dX8_firstShutSlot_58 : decode cX8_firstShutSlot 58 = .ok (.goto (-56), 3) := tb_at tbX8_firstShutSlot_n20_ok 32 rfl
theorem dX8_firstShutSlot_61 : decode cX8_firstShutSlot 61 = .ok (.iconst (-1), 1) := tb_at tbX8_firstShutSlot_n20_ok 33 rfl
theorem dX8_firstShutSlot_62 : decode cX8_firstShutSlot 62 = .ok (.ireturn, 1) := tb_at tbX8_firstShutSlot_n20_ok 34 rfl
set_option maxRecDepth 20000 in
theorem ggX8_firstDifference_X4_hasShapeOf : GoodIn wsX8_firstDifference wsX4_hasShapeOf := goodIn_r _ [12, 13, 14, 15, 16, 17, 33, 34, 35, 36, 37, 38, 39, 40, 41] (by decide +kernel) (by decide +kernel)
set_option maxRecDepth 20000 in
theorem gX8_firstDifference_X4_hasShapeOf : GoodIn wsX8_firstDifference (wsV RX8 357 RX4 yX4_hasShapeOf wsX4_hasShapeOf) := goodIn_app (goodIn_of _ (by decide +kernel)) ggX8_firstDifference_X4_hasShapeOf
set_option maxRecDepth 20000 in
theorem ggX8_firstDifference_X4_hasValueOf : GoodIn wsX8_firstDifference wsX4_hasValueOf := goodIn_r _ [21, 22, 17, 23, 24, 25, 26, 27, 28, 29, 11, 30, 31, 32, 33, 34, 35, 36, 37, 38, 39, 40, 41] (by decide +kernel) (by decide +kernel)
set_option maxRecDepth 20000 in
theorem gX8_firstDifference_X4_hasValueOf : GoodIn wsX8_firstDifference (wsV RX8 361 RX4 yX4_hasValueOf wsX4_hasValueOf) := goodIn_app (goodIn_of _ (by decide +kernel)) ggX8_firstDifference_X4_hasValueOf
noncomputable def tbX8_firstDifference_n20 : List (Nat × Instr × Nat) := [(0, (.aload_n 0), 1), (1, (.getfield 231), 3), (4, (.aload_n 1), 1), (5, (.getfield 231), 3), (8, (.invokestatic 351), 3), (11, (.istore_n 2), 1), (12, (.iconst 0), 1), (13, (.istore_n 3), 1), (14, (.iload_n 3), 1), (15, (.iload_n 2), 1), (16, (.if_icmp .ge 77), 3), (19, (.aload_n 0), 1), (20, (.aload_n 1), 1), (21, (.iload_n 3), 1), (22, (.invokevirtual 357), 3), (25, (.ifCond .ne 11), 3), (28, (.iload_n 3), 1), (29, (.bipush 100), 2), (31, .imul, 1), (32, (.bipush 99), 2), (34, .iadd, 1), (35, .ireturn, 1), (36, (.iconst 0), 1), (37, (.istore 4), 2), (39, (.iload 4), 2), (41, (.aload_n 0), 1), (42, (.getfield 338), 3), (45, (.iload_n 3), 1), (46, .iaload, 1), (47, (.if_icmp .ge 40), 3), (50, (.iload_n 3), 1), (51, (.iconst 5), 1), (52, .imul, 1), (53, (.iload 4), 2), (55, .iadd, 1), (56, (.istore 5), 2), (58, (.aload_n 0), 1), (59, (.aload_n 1), 1), (60, (.iload 5), 2), (62, (.invokevirtual 361), 3), (65, (.ifCond .ne 16), 3), (68, (.iload_n 3), 1), (69, (.bipush 100), 2), (71, .imul, 1), (72, (.aload_n 0), 1), (73, (.getfield 224), 3), (76, (.iload 5), 2), (78, .iaload, 1), (79, .iadd, 1), (80, .ireturn, 1), (81, (.iinc 4 1), 3), (84, (.goto (-45)), 3), (87, (.iinc 3 1), 3), (90, (.goto (-76)), 3), (93, (.iconst (-1)), 1), (94, .ireturn, 1)]
theorem tbX8_firstDifference_n20_ok : ∀ q ∈ tbX8_firstDifference_n20, decode cX8_firstDifference q.1 = .ok q.2 := by decide +kernel
theorem dX8_firstDifference_0 : decode cX8_firstDifference 0 = .ok (.aload_n 0, 1) := tb_at tbX8_firstDifference_n20_ok 0 rfl
theorem dX8_firstDifference_1 : decode cX8_firstDifference 1 = .ok (.getfield 231, 3) := tb_at tbX8_firstDifference_n20_ok 1 rfl
theorem dX8_firstDifference_4 : decode cX8_firstDifference 4 = .ok (.aload_n 1, 1) := tb_at tbX8_firstDifference_n20_ok 2 rfl
theorem dX8_firstDifference_5 : decode cX8_firstDifference 5 = .ok (.getfield 231, 3) := tb_at tbX8_firstDifference_n20_ok 3 rfl
theorem dX8_firstDifference_8 : decode cX8_firstDifference 8 = .ok (.invokestatic 351, 3) := tb_at tbX8_firstDifference_n20_ok 4 rfl
theorem dX8_firstDifference_11 : decode cX8_firstDifference 11 = .ok (.istore_n 2, 1) := tb_at tbX8_firstDifference_n20_ok 5 rfl
theorem dX8_firstDifference_12 : decode cX8_firstDifference 12 = .ok (.iconst 0, 1) := tb_at tbX8_firstDifference_n20_ok 6 rfl
theorem dX8_firstDifference_13 : decode cX8_firstDifference 13 = .ok (.istore_n 3, 1) := tb_at tbX8_firstDifference_n20_ok 7 rfl
theorem dX8_firstDifference_14 : decode cX8_firstDifference 14 = .ok (.iload_n 3, 1) := tb_at tbX8_firstDifference_n20_ok 8 rfl
theorem dX8_firstDifference_15 : decode cX8_firstDifference 15 = .ok (.iload_n 2, 1) := tb_at tbX8_firstDifference_n20_ok 9 rfl
theorem dX8_firstDifference_16 : decode cX8_firstDifference 16 = .ok (.if_icmp .ge 77, 3) := tb_at tbX8_firstDifference_n20_ok 10 rfl
theorem dX8_firstDifference_19 : decode cX8_firstDifference 19 = .ok (.aload_n 0, 1) := tb_at tbX8_firstDifference_n20_ok 11 rfl
theorem dX8_firstDifference_20 : decode cX8_firstDifference 20 = .ok (.aload_n 1, 1) := tb_at tbX8_firstDifference_n20_ok 12 rfl
theorem dX8_firstDifference_21 : decode cX8_firstDifference 21 = .ok (.iload_n 3, 1) := tb_at tbX8_firstDifference_n20_ok 13 rfl
theorem dX8_firstDifference_22 : decode cX8_firstDifference 22 = .ok (.invokevirtual 357, 3) := tb_at tbX8_firstDifference_n20_ok 14 rfl
theorem dX8_firstDifference_25 : decode cX8_firstDifference 25 = .ok (.ifCond .ne 11, 3) := tb_at tbX8_firstDifference_n20_ok 15 rfl
theorem dX8_firstDifference_28 : decode cX8_firstDifference 28 = .ok (.iload_n 3, 1) := tb_at tbX8_firstDifference_n20_ok 16 rfl
theorem dX8_firstDifference_29 : decode cX8_firstDifference 29 = .ok (.bipush 100, 2) := tb_at tbX8_firstDifference_n20_ok 17 rfl
theorem dX8_firstDifference_31 : decode cX8_firstDifference 31 = .ok (.imul, 1) := tb_at tbX8_firstDifference_n20_ok 18 rfl
theorem dX8_firstDifference_32 : decode cX8_firstDifference 32 = .ok (.bipush 99, 2) := tb_at tbX8_firstDifference_n20_ok 19 rfl
theorem dX8_firstDifference_34 : decode cX8_firstDifference 34 = .ok (.iadd, 1) := tb_at tbX8_firstDifference_n20_ok 20 rfl
theorem dX8_firstDifference_35 : decode cX8_firstDifference 35 = .ok (.ireturn, 1) := tb_at tbX8_firstDifference_n20_ok 21 rfl
theorem dX8_firstDifference_36 : decode cX8_firstDifference 36 = .ok (.iconst 0, 1) := tb_at tbX8_firstDifference_n20_ok 22 rfl
theorem dX8_firstDifference_37 : decode cX8_firstDifference 37 = .ok (.istore 4, 2) := tb_at tbX8_firstDifference_n20_ok 23 rfl
theorem dX8_firstDifference_39 : decode cX8_firstDifference 39 = .ok (.iload 4, 2) := tb_at tbX8_firstDifference_n20_ok 24 rfl
theorem dX8_firstDifference_41 : decode cX8_firstDifference 41 = .ok (.aload_n 0, 1) := tb_at tbX8_firstDifference_n20_ok 25 rfl
theorem dX8_firstDifference_42 : decode cX8_firstDifference 42 = .ok (.getfield 338, 3) := tb_at tbX8_firstDifference_n20_ok 26 rfl
theorem dX8_firstDifference_45 : decode cX8_firstDifference 45 = .ok (.iload_n 3, 1) := tb_at tbX8_firstDifference_n20_ok 27 rfl
theorem dX8_firstDifference_46 : decode cX8_firstDifference 46 = .ok (.iaload, 1) := tb_at tbX8_firstDifference_n20_ok 28 rfl
theorem dX8_firstDifference_47 : decode cX8_firstDifference 47 = .ok (.if_icmp .ge 40, 3) := tb_at tbX8_firstDifference_n20_ok 29 rfl
theorem dX8_firstDifference_50 : decode cX8_firstDifference 50 = .ok (.iload_n 3, 1) := tb_at tbX8_firstDifference_n20_ok 30 rfl
theorem dX8_firstDifference_51 : decode cX8_firstDifference 51 = .ok (.iconst 5, 1) := tb_at tbX8_firstDifference_n20_ok 31 rfl
theorem dX8_firstDifference_52 : decode cX8_firstDifference 52 = .ok (.imul, 1) := tb_at tbX8_firstDifference_n20_ok 32 rfl
theorem dX8_firstDifference_53 : decode cX8_firstDifference 53 = .ok (.iload 4, 2) := tb_at tbX8_firstDifference_n20_ok 33 rfl
theorem dX8_firstDifference_55 : decode cX8_firstDifference 55 = .ok (.iadd, 1) := tb_at tbX8_firstDifference_n20_ok 34 rfl
theorem dX8_firstDifference_56 : decode cX8_firstDifference 56 = .ok (.istore 5, 2) := tb_at tbX8_firstDifference_n20_ok 35 rfl
theorem dX8_firstDifference_58 : decode cX8_firstDifference 58 = .ok (.aload_n 0, 1) := tb_at tbX8_firstDifference_n20_ok 36 rfl
theorem dX8_firstDifference_59 : decode cX8_firstDifference 59 = .ok (.aload_n 1, 1) := tb_at tbX8_firstDifference_n20_ok 37 rfl
theorem dX8_firstDifference_60 : decode cX8_firstDifference 60 = .ok (.iload 5, 2) := tb_at tbX8_firstDifference_n20_ok 38 rfl
theorem dX8_firstDifference_62 : decode cX8_firstDifference 62 = .ok (.invokevirtual 361, 3) := tb_at tbX8_firstDifference_n20_ok 39 rfl
theorem dX8_firstDifference_65 : decode cX8_firstDifference 65 = .ok (.ifCond .ne 16, 3) := tb_at tbX8_firstDifference_n20_ok 40 rfl
theorem dX8_firstDifference_68 : decode cX8_firstDifference 68 = .ok (.iload_n 3, 1) := tb_at tbX8_firstDifference_n20_ok 41 rfl
theorem dX8_firstDifference_69 : decode cX8_firstDifference 69 = .ok (.bipush 100, 2) := tb_at tbX8_firstDifference_n20_ok 42 rfl
theorem dX8_firstDifference_71 : decode cX8_firstDifference 71 = .ok (.imul, 1) := tb_at tbX8_firstDifference_n20_ok 43 rfl
theorem dX8_firstDifference_72 : decode cX8_firstDifference 72 = .ok (.aload_n 0, 1) := tb_at tbX8_firstDifference_n20_ok 44 rfl
theorem dX8_firstDifference_73 : decode cX8_firstDifference 73 = .ok (.getfield 224, 3) := tb_at tbX8_firstDifference_n20_ok 45 rfl
theorem dX8_firstDifference_76 : decode cX8_firstDifference 76 = .ok (.iload 5, 2) := tb_at tbX8_firstDifference_n20_ok 46 rfl
theorem dX8_firstDifference_78 : decode cX8_firstDifference 78 = .ok (.iaload, 1) := tb_at tbX8_firstDifference_n20_ok 47 rfl
theorem dX8_firstDifference_79 : decode cX8_firstDifference 79 = .ok (.iadd, 1) := tb_at tbX8_firstDifference_n20_ok 48 rfl
theorem dX8_firstDifference_80 : decode cX8_firstDifference 80 = .ok (.ireturn, 1) := tb_at tbX8_firstDifference_n20_ok 49 rfl
theorem dX8_firstDifference_81 : decode cX8_firstDifference 81 = .ok (.iinc 4 1, 3) := tb_at tbX8_firstDifference_n20_ok 50 rfl
theorem dX8_firstDifference_84 : decode cX8_firstDifference 84 = .ok (.goto (-45), 3) := tb_at tbX8_firstDifference_n20_ok 51 rfl
theorem dX8_firstDifference_87 : decode cX8_firstDifference 87 = .ok (.iinc 3 1, 3) := tb_at tbX8_firstDifference_n20_ok 52 rfl
theorem dX8_firstDifference_90 : decode cX8_firstDifference 90 = .ok (.goto (-76), 3) := tb_at tbX8_firstDifference_n20_ok 53 rfl
theorem dX8_firstDifference_93 : decode cX8_firstDifference 93 = .ok (.iconst (-1), 1) := tb_at tbX8_firstDifference_n20_ok 54 rfl
theorem dX8_firstDifference_94 : decode cX8_firstDifference 94 = .ok (.ireturn, 1) := tb_at tbX8_firstDifference_n20_ok 55 rfl
set_option maxRecDepth 20000 in
theorem ggX8_addThings_X6_become : GoodIn wsX8_addThings wsX6_become := goodIn_r _ [10, 11, 12, 13, 14, 15, 9, 16, 17, 18, 19, 41, 42, 43, 44, 45, 46, 47, 48, 49, 50, 51, 52] (by decide +kernel) (by decide +kernel)
set_option maxRecDepth 20000 in
theorem gX8_addThings_X6_become : GoodIn wsX8_addThings (wsV RX8 127 RX6 yX6_become wsX6_become) := goodIn_app (goodIn_of _ (by decide +kernel)) ggX8_addThings_X6_become
noncomputable def tbX8_addThings_n20 : List (Nat × Instr × Nat) := [(0, (.iconst 0), 1), (1, (.istore_n 2), 1), (2, (.iload_n 2), 1), (3, (.aload_n 1), 1), (4, (.getfield 231), 3), (7, (.if_icmp .ge 42), 3), (10, (.aload_n 0), 1), (11, (.getfield 17), 3), (14, (.aload_n 0), 1), (15, (.getfield 94), 3), (18, .aaload, 1), (19, (.aload_n 0), 1), (20, (.getfield 11), 3), (23, (.aload_n 1), 1), (24, (.getfield 336), 3), (27, (.iload_n 2), 1), (28, .iaload, 1), (29, .aaload, 1), (30, (.invokevirtual 127), 3), (33, (.aload_n 0), 1), (34, .dup, 1), (35, (.getfield 94), 3), (38, (.iconst 1), 1), (39, .iadd, 1), (40, (.putfield 94), 3), (43, (.iinc 2 1), 3), (46, (.goto (-44)), 3), (49, .return_, 1)]
theorem tbX8_addThings_n20_ok : ∀ q ∈ tbX8_addThings_n20, decode cX8_addThings q.1 = .ok q.2 := by decide +kernel
theorem dX8_addThings_0 : decode cX8_addThings 0 = .ok (.iconst 0, 1) := tb_at tbX8_addThings_n20_ok 0 rfl
theorem dX8_addThings_1 : decode cX8_addThings 1 = .ok (.istore_n 2, 1) := tb_at tbX8_addThings_n20_ok 1 rfl
theorem dX8_addThings_2 : decode cX8_addThings 2 = .ok (.iload_n 2, 1) := tb_at tbX8_addThings_n20_ok 2 rfl
theorem dX8_addThings_3 : decode cX8_addThings 3 = .ok (.aload_n 1, 1) := tb_at tbX8_addThings_n20_ok 3 rfl
theorem dX8_addThings_4 : decode cX8_addThings 4 = .ok (.getfield 231, 3) := tb_at tbX8_addThings_n20_ok 4 rfl
theorem dX8_addThings_7 : decode cX8_addThings 7 = .ok (.if_icmp .ge 42, 3) := tb_at tbX8_addThings_n20_ok 5 rfl
theorem dX8_addThings_10 : decode cX8_addThings 10 = .ok (.aload_n 0, 1) := tb_at tbX8_addThings_n20_ok 6 rfl
theorem dX8_addThings_11 : decode cX8_addThings 11 = .ok (.getfield 17, 3) := tb_at tbX8_addThings_n20_ok 7 rfl
theorem dX8_addThings_14 : decode cX8_addThings 14 = .ok (.aload_n 0, 1) := tb_at tbX8_addThings_n20_ok 8 rfl
theorem dX8_addThings_15 : decode cX8_addThings 15 = .ok (.getfield 94, 3) := tb_at tbX8_addThings_n20_ok 9 rfl
theorem dX8_addThings_18 : decode cX8_addThings 18 = .ok (.aaload, 1) := tb_at tbX8_addThings_n20_ok 10 rfl
theorem dX8_addThings_19 : decode cX8_addThings 19 = .ok (.aload_n 0, 1) := tb_at tbX8_addThings_n20_ok 11 rfl
theorem dX8_addThings_20 : decode cX8_addThings 20 = .ok (.getfield 11, 3) := tb_at tbX8_addThings_n20_ok 12 rfl
theorem dX8_addThings_23 : decode cX8_addThings 23 = .ok (.aload_n 1, 1) := tb_at tbX8_addThings_n20_ok 13 rfl
theorem dX8_addThings_24 : decode cX8_addThings 24 = .ok (.getfield 336, 3) := tb_at tbX8_addThings_n20_ok 14 rfl
theorem dX8_addThings_27 : decode cX8_addThings 27 = .ok (.iload_n 2, 1) := tb_at tbX8_addThings_n20_ok 15 rfl
theorem dX8_addThings_28 : decode cX8_addThings 28 = .ok (.iaload, 1) := tb_at tbX8_addThings_n20_ok 16 rfl
theorem dX8_addThings_29 : decode cX8_addThings 29 = .ok (.aaload, 1) := tb_at tbX8_addThings_n20_ok 17 rfl
theorem dX8_addThings_30 : decode cX8_addThings 30 = .ok (.invokevirtual 127, 3) := tb_at tbX8_addThings_n20_ok 18 rfl
theorem dX8_addThings_33 : decode cX8_addThings 33 = .ok (.aload_n 0, 1) := tb_at tbX8_addThings_n20_ok 19 rfl
theorem dX8_addThings_34 : decode cX8_addThings 34 = .ok (.dup, 1) := tb_at tbX8_addThings_n20_ok 20 rfl
theorem dX8_addThings_35 : decode cX8_addThings 35 = .ok (.getfield 94, 3) := tb_at tbX8_addThings_n20_ok 21 rfl
theorem dX8_addThings_38 : decode cX8_addThings 38 = .ok (.iconst 1, 1) := tb_at tbX8_addThings_n20_ok 22 rfl
theorem dX8_addThings_39 : decode cX8_addThings 39 = .ok (.iadd, 1) := tb_at tbX8_addThings_n20_ok 23 rfl
theorem dX8_addThings_40 : decode cX8_addThings 40 = .ok (.putfield 94, 3) := tb_at tbX8_addThings_n20_ok 24 rfl
theorem dX8_addThings_43 : decode cX8_addThings 43 = .ok (.iinc 2 1, 3) := tb_at tbX8_addThings_n20_ok 25 rfl
theorem dX8_addThings_46 : decode cX8_addThings 46 = .ok (.goto (-44), 3) := tb_at tbX8_addThings_n20_ok 26 rfl
theorem dX8_addThings_49 : decode cX8_addThings 49 = .ok (.return_, 1) := tb_at tbX8_addThings_n20_ok 27 rfl
set_option maxRecDepth 20000 in
theorem ggX8_fillThings_X8_fillField : GoodIn wsX8_fillThings wsX8_fillField := goodIn_r _ [12, 13, 7, 14, 15, 16, 17, 18, 19, 20, 21, 22, 23, 24, 25, 26, 27, 28, 11, 29, 30, 31, 32, 33, 34, 35, 36, 37, 38, 39, 40, 41, 42, 2, 43, 44, 45, 46, 47, 48, 49, 50, 51, 52, 53, 54, 55, 56, 57, 58, 59, 60, 61, 92, 93, 94, 95, 71, 72, 73, 74, 75, 76, 77, 78, 79, 96, 97, 98, 99, 100, 101, 102, 103, 80, 81, 82, 83, 84, 85, 86, 87, 88, 89, 90, 91, 104, 105] (by decide +kernel) (by decide +kernel)
set_option maxRecDepth 20000 in
theorem gX8_fillThings_X8_fillField : GoodIn wsX8_fillThings (wsV RX8 364 RX8 yX8_fillField wsX8_fillField) := goodIn_app (goodIn_of _ (by decide +kernel)) ggX8_fillThings_X8_fillField
set_option maxRecDepth 20000 in
theorem ggX8_fillThings_X1_tell : GoodIn wsX8_fillThings wsX1_tell := goodIn_r _ [66, 67, 68, 69, 70, 106, 107, 108, 109] (by decide +kernel) (by decide +kernel)
set_option maxRecDepth 20000 in
theorem gX8_fillThings_X1_tell : GoodIn wsX8_fillThings (wsV RX8 227 RX1 yX1_tell wsX1_tell) := goodIn_app (goodIn_of _ (by decide +kernel)) ggX8_fillThings_X1_tell
noncomputable def tbX8_fillThings_n20 : List (Nat × Instr × Nat) := [(0, (.iconst 0), 1), (1, (.istore 4), 2), (3, (.iload 4), 2), (5, (.aload_n 1), 1), (6, (.getfield 234), 3), (9, (.iconst 3), 1), (10, .imul, 1), (11, (.if_icmp .ge 17), 3), (14, (.aload_n 0), 1), (15, (.getfield 44), 3), (18, (.iload 4), 2), (20, .aconst_null, 1), (21, .aastore, 1), (22, (.iinc 4 1), 3), (25, (.goto (-22)), 3), (28, (.iconst 0), 1), (29, (.istore 4), 2), (31, (.iload 4), 2), (33, (.aload_n 1), 1), (34, (.getfield 231), 3), (37, (.if_icmp .ge 84), 3), (40, (.iconst 0), 1), (41, (.istore 5), 2), (43, (.iload 5), 2), (45, (.aload_n 1), 1), (46, (.getfield 338), 3), (49, (.iload 4), 2), (51, .iaload, 1), (52, (.if_icmp .ge 63), 3), (55, (.iload 4), 2), (57, (.iconst 5), 1), (58, .imul, 1), (59, (.iload 5), 2), (61, .iadd, 1), (62, (.istore 6), 2), (64, (.aload_n 0), 1), (65, (.aload_n 0), 1), (66, (.getfield 17), 3), (69, (.iload_n 2), 1), (70, (.iload 4), 2), (72, .iadd, 1), (73, .aaload, 1), (74, (.aload_n 1), 1), (75, (.iload 6), 2), (77, (.iload_n 2), 1), (78, (.iload_n 3), 1), (79, (.invokevirtual 364), 3), (82, (.istore 7), 2), (84, (.iload 7), 2), (86, (.ifCond .eq 23), 3), (89, (.aload_n 0), 1), (90, (.getfield 58), 3), (93, (.iload 4), 2), (95, (.aload_n 1), 1), (96, (.getfield 224), 3), (99, (.iload 6), 2), (101, .iaload, 1), (102, (.iconst (-1)), 1), (103, (.invokevirtual 227), 3), (106, (.iload 7), 2), (108, .ireturn, 1), (109, (.iinc 5 1), 3), (112, (.goto (-69)), 3), (115, (.iinc 4 1), 3), (118, (.goto (-87)), 3), (121, (.iconst 0), 1), (122, .ireturn, 1)]
theorem tbX8_fillThings_n20_ok : ∀ q ∈ tbX8_fillThings_n20, decode cX8_fillThings q.1 = .ok q.2 := by decide +kernel
theorem dX8_fillThings_0 : decode cX8_fillThings 0 = .ok (.iconst 0, 1) := tb_at tbX8_fillThings_n20_ok 0 rfl
theorem dX8_fillThings_1 : decode cX8_fillThings 1 = .ok (.istore 4, 2) := tb_at tbX8_fillThings_n20_ok 1 rfl
theorem dX8_fillThings_3 : decode cX8_fillThings 3 = .ok (.iload 4, 2) := tb_at tbX8_fillThings_n20_ok 2 rfl
theorem dX8_fillThings_5 : decode cX8_fillThings 5 = .ok (.aload_n 1, 1) := tb_at tbX8_fillThings_n20_ok 3 rfl
theorem dX8_fillThings_6 : decode cX8_fillThings 6 = .ok (.getfield 234, 3) := tb_at tbX8_fillThings_n20_ok 4 rfl
theorem dX8_fillThings_9 : decode cX8_fillThings 9 = .ok (.iconst 3, 1) := tb_at tbX8_fillThings_n20_ok 5 rfl
theorem dX8_fillThings_10 : decode cX8_fillThings 10 = .ok (.imul, 1) := tb_at tbX8_fillThings_n20_ok 6 rfl
theorem dX8_fillThings_11 : decode cX8_fillThings 11 = .ok (.if_icmp .ge 17, 3) := tb_at tbX8_fillThings_n20_ok 7 rfl
theorem dX8_fillThings_14 : decode cX8_fillThings 14 = .ok (.aload_n 0, 1) := tb_at tbX8_fillThings_n20_ok 8 rfl
theorem dX8_fillThings_15 : decode cX8_fillThings 15 = .ok (.getfield 44, 3) := tb_at tbX8_fillThings_n20_ok 9 rfl
theorem dX8_fillThings_18 : decode cX8_fillThings 18 = .ok (.iload 4, 2) := tb_at tbX8_fillThings_n20_ok 10 rfl
theorem dX8_fillThings_20 : decode cX8_fillThings 20 = .ok (.aconst_null, 1) := tb_at tbX8_fillThings_n20_ok 11 rfl
theorem dX8_fillThings_21 : decode cX8_fillThings 21 = .ok (.aastore, 1) := tb_at tbX8_fillThings_n20_ok 12 rfl
theorem dX8_fillThings_22 : decode cX8_fillThings 22 = .ok (.iinc 4 1, 3) := tb_at tbX8_fillThings_n20_ok 13 rfl
theorem dX8_fillThings_25 : decode cX8_fillThings 25 = .ok (.goto (-22), 3) := tb_at tbX8_fillThings_n20_ok 14 rfl
theorem dX8_fillThings_28 : decode cX8_fillThings 28 = .ok (.iconst 0, 1) := tb_at tbX8_fillThings_n20_ok 15 rfl
theorem dX8_fillThings_29 : decode cX8_fillThings 29 = .ok (.istore 4, 2) := tb_at tbX8_fillThings_n20_ok 16 rfl
theorem dX8_fillThings_31 : decode cX8_fillThings 31 = .ok (.iload 4, 2) := tb_at tbX8_fillThings_n20_ok 17 rfl
theorem dX8_fillThings_33 : decode cX8_fillThings 33 = .ok (.aload_n 1, 1) := tb_at tbX8_fillThings_n20_ok 18 rfl
theorem dX8_fillThings_34 : decode cX8_fillThings 34 = .ok (.getfield 231, 3) := tb_at tbX8_fillThings_n20_ok 19 rfl
theorem dX8_fillThings_37 : decode cX8_fillThings 37 = .ok (.if_icmp .ge 84, 3) := tb_at tbX8_fillThings_n20_ok 20 rfl
theorem dX8_fillThings_40 : decode cX8_fillThings 40 = .ok (.iconst 0, 1) := tb_at tbX8_fillThings_n20_ok 21 rfl
theorem dX8_fillThings_41 : decode cX8_fillThings 41 = .ok (.istore 5, 2) := tb_at tbX8_fillThings_n20_ok 22 rfl
theorem dX8_fillThings_43 : decode cX8_fillThings 43 = .ok (.iload 5, 2) := tb_at tbX8_fillThings_n20_ok 23 rfl
theorem dX8_fillThings_45 : decode cX8_fillThings 45 = .ok (.aload_n 1, 1) := tb_at tbX8_fillThings_n20_ok 24 rfl
theorem dX8_fillThings_46 : decode cX8_fillThings 46 = .ok (.getfield 338, 3) := tb_at tbX8_fillThings_n20_ok 25 rfl
theorem dX8_fillThings_49 : decode cX8_fillThings 49 = .ok (.iload 4, 2) := tb_at tbX8_fillThings_n20_ok 26 rfl
theorem dX8_fillThings_51 : decode cX8_fillThings 51 = .ok (.iaload, 1) := tb_at tbX8_fillThings_n20_ok 27 rfl
theorem dX8_fillThings_52 : decode cX8_fillThings 52 = .ok (.if_icmp .ge 63, 3) := tb_at tbX8_fillThings_n20_ok 28 rfl
theorem dX8_fillThings_55 : decode cX8_fillThings 55 = .ok (.iload 4, 2) := tb_at tbX8_fillThings_n20_ok 29 rfl
theorem dX8_fillThings_57 : decode cX8_fillThings 57 = .ok (.iconst 5, 1) := tb_at tbX8_fillThings_n20_ok 30 rfl
theorem dX8_fillThings_58 : decode cX8_fillThings 58 = .ok (.imul, 1) := tb_at tbX8_fillThings_n20_ok 31 rfl
theorem dX8_fillThings_59 : decode cX8_fillThings 59 = .ok (.iload 5, 2) := tb_at tbX8_fillThings_n20_ok 32 rfl
theorem dX8_fillThings_61 : decode cX8_fillThings 61 = .ok (.iadd, 1) := tb_at tbX8_fillThings_n20_ok 33 rfl
theorem dX8_fillThings_62 : decode cX8_fillThings 62 = .ok (.istore 6, 2) := tb_at tbX8_fillThings_n20_ok 34 rfl
theorem dX8_fillThings_64 : decode cX8_fillThings 64 = .ok (.aload_n 0, 1) := tb_at tbX8_fillThings_n20_ok 35 rfl
theorem dX8_fillThings_65 : decode cX8_fillThings 65 = .ok (.aload_n 0, 1) := tb_at tbX8_fillThings_n20_ok 36 rfl
theorem dX8_fillThings_66 : decode cX8_fillThings 66 = .ok (.getfield 17, 3) := tb_at tbX8_fillThings_n20_ok 37 rfl
theorem dX8_fillThings_69 : decode cX8_fillThings 69 = .ok (.iload_n 2, 1) := tb_at tbX8_fillThings_n20_ok 38 rfl
theorem dX8_fillThings_70 : decode cX8_fillThings 70 = .ok (.iload 4, 2) := tb_at tbX8_fillThings_n20_ok 39 rfl
theorem dX8_fillThings_72 : decode cX8_fillThings 72 = .ok (.iadd, 1) := tb_at tbX8_fillThings_n20_ok 40 rfl
theorem dX8_fillThings_73 : decode cX8_fillThings 73 = .ok (.aaload, 1) := tb_at tbX8_fillThings_n20_ok 41 rfl
theorem dX8_fillThings_74 : decode cX8_fillThings 74 = .ok (.aload_n 1, 1) := tb_at tbX8_fillThings_n20_ok 42 rfl
theorem dX8_fillThings_75 : decode cX8_fillThings 75 = .ok (.iload 6, 2) := tb_at tbX8_fillThings_n20_ok 43 rfl
theorem dX8_fillThings_77 : decode cX8_fillThings 77 = .ok (.iload_n 2, 1) := tb_at tbX8_fillThings_n20_ok 44 rfl
theorem dX8_fillThings_78 : decode cX8_fillThings 78 = .ok (.iload_n 3, 1) := tb_at tbX8_fillThings_n20_ok 45 rfl
theorem dX8_fillThings_79 : decode cX8_fillThings 79 = .ok (.invokevirtual 364, 3) := tb_at tbX8_fillThings_n20_ok 46 rfl
theorem dX8_fillThings_82 : decode cX8_fillThings 82 = .ok (.istore 7, 2) := tb_at tbX8_fillThings_n20_ok 47 rfl
theorem dX8_fillThings_84 : decode cX8_fillThings 84 = .ok (.iload 7, 2) := tb_at tbX8_fillThings_n20_ok 48 rfl
theorem dX8_fillThings_86 : decode cX8_fillThings 86 = .ok (.ifCond .eq 23, 3) := tb_at tbX8_fillThings_n20_ok 49 rfl
theorem dX8_fillThings_89 : decode cX8_fillThings 89 = .ok (.aload_n 0, 1) := tb_at tbX8_fillThings_n20_ok 50 rfl
theorem dX8_fillThings_90 : decode cX8_fillThings 90 = .ok (.getfield 58, 3) := tb_at tbX8_fillThings_n20_ok 51 rfl
theorem dX8_fillThings_93 : decode cX8_fillThings 93 = .ok (.iload 4, 2) := tb_at tbX8_fillThings_n20_ok 52 rfl
theorem dX8_fillThings_95 : decode cX8_fillThings 95 = .ok (.aload_n 1, 1) := tb_at tbX8_fillThings_n20_ok 53 rfl
theorem dX8_fillThings_96 : decode cX8_fillThings 96 = .ok (.getfield 224, 3) := tb_at tbX8_fillThings_n20_ok 54 rfl
theorem dX8_fillThings_99 : decode cX8_fillThings 99 = .ok (.iload 6, 2) := tb_at tbX8_fillThings_n20_ok 55 rfl
theorem dX8_fillThings_101 : decode cX8_fillThings 101 = .ok (.iaload, 1) := tb_at tbX8_fillThings_n20_ok 56 rfl
theorem dX8_fillThings_102 : decode cX8_fillThings 102 = .ok (.iconst (-1), 1) := tb_at tbX8_fillThings_n20_ok 57 rfl
theorem dX8_fillThings_103 : decode cX8_fillThings 103 = .ok (.invokevirtual 227, 3) := tb_at tbX8_fillThings_n20_ok 58 rfl
theorem dX8_fillThings_106 : decode cX8_fillThings 106 = .ok (.iload 7, 2) := tb_at tbX8_fillThings_n20_ok 59 rfl
theorem dX8_fillThings_108 : decode cX8_fillThings 108 = .ok (.ireturn, 1) := tb_at tbX8_fillThings_n20_ok 60 rfl
theorem dX8_fillThings_109 : decode cX8_fillThings 109 = .ok (.iinc 5 1, 3) := tb_at tbX8_fillThings_n20_ok 61 rfl
theorem dX8_fillThings_112 : decode cX8_fillThings 112 = .ok (.goto (-69), 3) := tb_at tbX8_fillThings_n20_ok 62 rfl
theorem dX8_fillThings_115 : decode cX8_fillThings 115 = .ok (.iinc 4 1, 3) := tb_at tbX8_fillThings_n20_ok 63 rfl
theorem dX8_fillThings_118 : decode cX8_fillThings 118 = .ok (.goto (-87), 3) := tb_at tbX8_fillThings_n20_ok 64 rfl
theorem dX8_fillThings_121 : decode cX8_fillThings 121 = .ok (.iconst 0, 1) := tb_at tbX8_fillThings_n20_ok 65 rfl
theorem dX8_fillThings_122 : decode cX8_fillThings 122 = .ok (.ireturn, 1) := tb_at tbX8_fillThings_n20_ok 66 rfl
set_option maxRecDepth 20000 in
theorem ggX8_fillField_X7_fieldNamed : GoodIn wsX8_fillField wsX7_fieldNamed := goodIn_r _ [13, 14, 15, 66, 67, 68, 69, 70, 71, 72, 73] (by decide +kernel) (by decide +kernel)
set_option maxRecDepth 20000 in
theorem gX8_fillField_X7_fieldNamed : GoodIn wsX8_fillField (wsV RX8 78 RX7 yX7_fieldNamed wsX7_fieldNamed) := goodIn_app (goodIn_of _ (by decide +kernel)) ggX8_fillField_X7_fieldNamed
set_option maxRecDepth 20000 in
theorem ggX8_fillField_X8_mayCome : GoodIn wsX8_fillField wsX8_mayCome := goodIn_r _ [19, 20, 21, 18, 22] (by decide +kernel) (by decide +kernel)
set_option maxRecDepth 20000 in
theorem gX8_fillField_X8_mayCome : GoodIn wsX8_fillField (va_wsS RX8 368 yX8_mayCome wsX8_mayCome) := goodIn_app (goodIn_of _ (by decide +kernel)) ggX8_fillField_X8_mayCome
set_option maxRecDepth 20000 in
theorem ggX8_fillField_X8_isWordInUse : GoodIn wsX8_fillField wsX8_isWordInUse := goodIn_r _ [26, 27, 28, 74, 75, 76, 77, 78, 79, 80, 81, 82, 83, 84, 85] (by decide +kernel) (by decide +kernel)
set_option maxRecDepth 20000 in
theorem gX8_fillField_X8_isWordInUse : GoodIn wsX8_fillField (wsV RX8 142 RX8 yX8_isWordInUse wsX8_isWordInUse) := goodIn_app (goodIn_of _ (by decide +kernel)) ggX8_fillField_X8_isWordInUse
set_option maxRecDepth 20000 in
theorem ggX8_fillField_X8_isRowLane : GoodIn wsX8_fillField wsX8_isRowLane := goodIn_r _ [22] (by decide +kernel) (by decide +kernel)
set_option maxRecDepth 20000 in
theorem gX8_fillField_X8_isRowLane : GoodIn wsX8_fillField (va_wsS RX8 150 yX8_isRowLane wsX8_isRowLane) := goodIn_app (goodIn_of _ (by decide +kernel)) ggX8_fillField_X8_isRowLane
set_option maxRecDepth 20000 in
theorem ggX8_fillField_X8_rowPutBack : GoodIn wsX8_fillField wsX8_rowPutBack := goodIn_r _ [32, 33, 34, 35, 36, 37, 38, 39, 40, 41, 42, 43, 44, 45, 46, 47, 48, 49, 50, 51, 52, 74, 75, 76, 77, 78, 79, 80, 81, 82, 83, 84, 85, 86, 87, 57, 58, 59, 60, 61, 62, 63, 64, 65] (by decide +kernel) (by decide +kernel)
set_option maxRecDepth 20000 in
theorem gX8_fillField_X8_rowPutBack : GoodIn wsX8_fillField (wsV RX8 371 RX8 yX8_rowPutBack wsX8_rowPutBack) := goodIn_app (goodIn_of _ (by decide +kernel)) ggX8_fillField_X8_rowPutBack
noncomputable def tbX8_fillField_n20 : List (Nat × Instr × Nat) := [(0, (.aload_n 1), 1), (1, (.getfield 97), 3), (4, (.aload_n 2), 1), (5, (.getfield 224), 3), (8, (.iload_n 3), 1), (9, .iaload, 1), (10, (.invokevirtual 78), 3), (13, (.istore 6), 2), (15, (.iload 6), 2), (17, (.iconst (-1)), 1), (18, (.if_icmp .ne 17), 3), (21, (.iload 5), 2), (23, (.iconst 1), 1), (24, .iand, 1), (25, (.ifCond .eq 7), 3), (28, (.iconst 0), 1), (29, (.goto 5), 3), (32, (.bipush 8), 2), (34, .ireturn, 1), (35, (.aload_n 1), 1), (36, (.getfield 97), 3), (39, (.getfield 135), 3), (42, (.iload 6), 2), (44, .iaload, 1), (45, (.istore 7), 2), (47, (.aload_n 2), 1), (48, (.getfield 341), 3), (51, (.iload_n 3), 1), (52, .iaload, 1), (53, (.iload 7), 2), (55, (.invokestatic 368), 3), (58, (.ifCond .ne 6), 3), (61, (.bipush 9), 2), (63, .ireturn, 1), (64, (.aload_n 2), 1), (65, (.getfield 342), 3), (68, (.iload_n 3), 1), (69, .laload, 1), (70, (.lstore 8), 2), (72, (.iload 7), 2), (74, (.iconst 1), 1), (75, (.if_icmp .ne 36), 3), (78, (.lload 8), 2), (80, (.ldc2_w 88), 3), (83, .lcmp, 1), (84, (.ifCond .eq 27), 3), (87, (.aload_n 0), 1), (88, (.lload 8), 2), (90, (.invokevirtual 142), 3), (93, (.ifCond .ne 18), 3), (96, (.iload 5), 2), (98, (.iconst 2), 1), (99, .iand, 1), (100, (.ifCond .ne 6), 3), (103, (.bipush 7), 2), (105, .ireturn, 1), (106, (.ldc2_w 88), 3), (109, (.lstore 8), 2), (111, (.iload 7), 2), (113, (.invokestatic 150), 3), (116, (.ifCond .eq 36), 3), (119, (.aload_n 1), 1), (120, (.getfield 158), 3), (123, (.iload 6), 2), (125, (.lload 8), 2), (127, (.ldc2_w 88), 3), (130, .lcmp, 1), (131, (.ifCond .ne 7), 3), (134, .aconst_null, 1), (135, (.goto 13), 3)]
theorem tbX8_fillField_n20_ok : ∀ q ∈ tbX8_fillField_n20, decode cX8_fillField q.1 = .ok q.2 := by decide +kernel
theorem dX8_fillField_0 : decode cX8_fillField 0 = .ok (.aload_n 1, 1) := tb_at tbX8_fillField_n20_ok 0 rfl
theorem dX8_fillField_1 : decode cX8_fillField 1 = .ok (.getfield 97, 3) := tb_at tbX8_fillField_n20_ok 1 rfl
theorem dX8_fillField_4 : decode cX8_fillField 4 = .ok (.aload_n 2, 1) := tb_at tbX8_fillField_n20_ok 2 rfl
theorem dX8_fillField_5 : decode cX8_fillField 5 = .ok (.getfield 224, 3) := tb_at tbX8_fillField_n20_ok 3 rfl
theorem dX8_fillField_8 : decode cX8_fillField 8 = .ok (.iload_n 3, 1) := tb_at tbX8_fillField_n20_ok 4 rfl
theorem dX8_fillField_9 : decode cX8_fillField 9 = .ok (.iaload, 1) := tb_at tbX8_fillField_n20_ok 5 rfl
theorem dX8_fillField_10 : decode cX8_fillField 10 = .ok (.invokevirtual 78, 3) := tb_at tbX8_fillField_n20_ok 6 rfl
theorem dX8_fillField_13 : decode cX8_fillField 13 = .ok (.istore 6, 2) := tb_at tbX8_fillField_n20_ok 7 rfl
theorem dX8_fillField_15 : decode cX8_fillField 15 = .ok (.iload 6, 2) := tb_at tbX8_fillField_n20_ok 8 rfl
theorem dX8_fillField_17 : decode cX8_fillField 17 = .ok (.iconst (-1), 1) := tb_at tbX8_fillField_n20_ok 9 rfl
theorem dX8_fillField_18 : decode cX8_fillField 18 = .ok (.if_icmp .ne 17, 3) := tb_at tbX8_fillField_n20_ok 10 rfl
theorem dX8_fillField_21 : decode cX8_fillField 21 = .ok (.iload 5, 2) := tb_at tbX8_fillField_n20_ok 11 rfl
theorem dX8_fillField_23 : decode cX8_fillField 23 = .ok (.iconst 1, 1) := tb_at tbX8_fillField_n20_ok 12 rfl
theorem dX8_fillField_24 : decode cX8_fillField 24 = .ok (.iand, 1) := tb_at tbX8_fillField_n20_ok 13 rfl
theorem dX8_fillField_25 : decode cX8_fillField 25 = .ok (.ifCond .eq 7, 3) := tb_at tbX8_fillField_n20_ok 14 rfl
theorem dX8_fillField_28 : decode cX8_fillField 28 = .ok (.iconst 0, 1) := tb_at tbX8_fillField_n20_ok 15 rfl
theorem dX8_fillField_29 : decode cX8_fillField 29 = .ok (.goto 5, 3) := tb_at tbX8_fillField_n20_ok 16 rfl
theorem dX8_fillField_32 : decode cX8_fillField 32 = .ok (.bipush 8, 2) := tb_at tbX8_fillField_n20_ok 17 rfl
theorem dX8_fillField_34 : decode cX8_fillField 34 = .ok (.ireturn, 1) := tb_at tbX8_fillField_n20_ok 18 rfl
theorem dX8_fillField_35 : decode cX8_fillField 35 = .ok (.aload_n 1, 1) := tb_at tbX8_fillField_n20_ok 19 rfl
theorem dX8_fillField_36 : decode cX8_fillField 36 = .ok (.getfield 97, 3) := tb_at tbX8_fillField_n20_ok 20 rfl
theorem dX8_fillField_39 : decode cX8_fillField 39 = .ok (.getfield 135, 3) := tb_at tbX8_fillField_n20_ok 21 rfl
theorem dX8_fillField_42 : decode cX8_fillField 42 = .ok (.iload 6, 2) := tb_at tbX8_fillField_n20_ok 22 rfl
theorem dX8_fillField_44 : decode cX8_fillField 44 = .ok (.iaload, 1) := tb_at tbX8_fillField_n20_ok 23 rfl
theorem dX8_fillField_45 : decode cX8_fillField 45 = .ok (.istore 7, 2) := tb_at tbX8_fillField_n20_ok 24 rfl
theorem dX8_fillField_47 : decode cX8_fillField 47 = .ok (.aload_n 2, 1) := tb_at tbX8_fillField_n20_ok 25 rfl
theorem dX8_fillField_48 : decode cX8_fillField 48 = .ok (.getfield 341, 3) := tb_at tbX8_fillField_n20_ok 26 rfl
theorem dX8_fillField_51 : decode cX8_fillField 51 = .ok (.iload_n 3, 1) := tb_at tbX8_fillField_n20_ok 27 rfl
theorem dX8_fillField_52 : decode cX8_fillField 52 = .ok (.iaload, 1) := tb_at tbX8_fillField_n20_ok 28 rfl
theorem dX8_fillField_53 : decode cX8_fillField 53 = .ok (.iload 7, 2) := tb_at tbX8_fillField_n20_ok 29 rfl
theorem dX8_fillField_55 : decode cX8_fillField 55 = .ok (.invokestatic 368, 3) := tb_at tbX8_fillField_n20_ok 30 rfl
theorem dX8_fillField_58 : decode cX8_fillField 58 = .ok (.ifCond .ne 6, 3) := tb_at tbX8_fillField_n20_ok 31 rfl
theorem dX8_fillField_61 : decode cX8_fillField 61 = .ok (.bipush 9, 2) := tb_at tbX8_fillField_n20_ok 32 rfl
theorem dX8_fillField_63 : decode cX8_fillField 63 = .ok (.ireturn, 1) := tb_at tbX8_fillField_n20_ok 33 rfl
theorem dX8_fillField_64 : decode cX8_fillField 64 = .ok (.aload_n 2, 1) := tb_at tbX8_fillField_n20_ok 34 rfl
theorem dX8_fillField_65 : decode cX8_fillField 65 = .ok (.getfield 342, 3) := tb_at tbX8_fillField_n20_ok 35 rfl
theorem dX8_fillField_68 : decode cX8_fillField 68 = .ok (.iload_n 3, 1) := tb_at tbX8_fillField_n20_ok 36 rfl
theorem dX8_fillField_69 : decode cX8_fillField 69 = .ok (.laload, 1) := tb_at tbX8_fillField_n20_ok 37 rfl
theorem dX8_fillField_70 : decode cX8_fillField 70 = .ok (.lstore 8, 2) := tb_at tbX8_fillField_n20_ok 38 rfl
theorem dX8_fillField_72 : decode cX8_fillField 72 = .ok (.iload 7, 2) := tb_at tbX8_fillField_n20_ok 39 rfl
theorem dX8_fillField_74 : decode cX8_fillField 74 = .ok (.iconst 1, 1) := tb_at tbX8_fillField_n20_ok 40 rfl
theorem dX8_fillField_75 : decode cX8_fillField 75 = .ok (.if_icmp .ne 36, 3) := tb_at tbX8_fillField_n20_ok 41 rfl
theorem dX8_fillField_78 : decode cX8_fillField 78 = .ok (.lload 8, 2) := tb_at tbX8_fillField_n20_ok 42 rfl
theorem dX8_fillField_80 : decode cX8_fillField 80 = .ok (.ldc2_w 88, 3) := tb_at tbX8_fillField_n20_ok 43 rfl
theorem dX8_fillField_83 : decode cX8_fillField 83 = .ok (.lcmp, 1) := tb_at tbX8_fillField_n20_ok 44 rfl
theorem dX8_fillField_84 : decode cX8_fillField 84 = .ok (.ifCond .eq 27, 3) := tb_at tbX8_fillField_n20_ok 45 rfl
theorem dX8_fillField_87 : decode cX8_fillField 87 = .ok (.aload_n 0, 1) := tb_at tbX8_fillField_n20_ok 46 rfl
theorem dX8_fillField_88 : decode cX8_fillField 88 = .ok (.lload 8, 2) := tb_at tbX8_fillField_n20_ok 47 rfl
theorem dX8_fillField_90 : decode cX8_fillField 90 = .ok (.invokevirtual 142, 3) := tb_at tbX8_fillField_n20_ok 48 rfl
theorem dX8_fillField_93 : decode cX8_fillField 93 = .ok (.ifCond .ne 18, 3) := tb_at tbX8_fillField_n20_ok 49 rfl
theorem dX8_fillField_96 : decode cX8_fillField 96 = .ok (.iload 5, 2) := tb_at tbX8_fillField_n20_ok 50 rfl
theorem dX8_fillField_98 : decode cX8_fillField 98 = .ok (.iconst 2, 1) := tb_at tbX8_fillField_n20_ok 51 rfl
theorem dX8_fillField_99 : decode cX8_fillField 99 = .ok (.iand, 1) := tb_at tbX8_fillField_n20_ok 52 rfl
theorem dX8_fillField_100 : decode cX8_fillField 100 = .ok (.ifCond .ne 6, 3) := tb_at tbX8_fillField_n20_ok 53 rfl
theorem dX8_fillField_103 : decode cX8_fillField 103 = .ok (.bipush 7, 2) := tb_at tbX8_fillField_n20_ok 54 rfl
theorem dX8_fillField_105 : decode cX8_fillField 105 = .ok (.ireturn, 1) := tb_at tbX8_fillField_n20_ok 55 rfl
theorem dX8_fillField_106 : decode cX8_fillField 106 = .ok (.ldc2_w 88, 3) := tb_at tbX8_fillField_n20_ok 56 rfl
theorem dX8_fillField_109 : decode cX8_fillField 109 = .ok (.lstore 8, 2) := tb_at tbX8_fillField_n20_ok 57 rfl
theorem dX8_fillField_111 : decode cX8_fillField 111 = .ok (.iload 7, 2) := tb_at tbX8_fillField_n20_ok 58 rfl
theorem dX8_fillField_113 : decode cX8_fillField 113 = .ok (.invokestatic 150, 3) := tb_at tbX8_fillField_n20_ok 59 rfl
theorem dX8_fillField_116 : decode cX8_fillField 116 = .ok (.ifCond .eq 36, 3) := tb_at tbX8_fillField_n20_ok 60 rfl
theorem dX8_fillField_119 : decode cX8_fillField 119 = .ok (.aload_n 1, 1) := tb_at tbX8_fillField_n20_ok 61 rfl
theorem dX8_fillField_120 : decode cX8_fillField 120 = .ok (.getfield 158, 3) := tb_at tbX8_fillField_n20_ok 62 rfl
theorem dX8_fillField_123 : decode cX8_fillField 123 = .ok (.iload 6, 2) := tb_at tbX8_fillField_n20_ok 63 rfl
theorem dX8_fillField_125 : decode cX8_fillField 125 = .ok (.lload 8, 2) := tb_at tbX8_fillField_n20_ok 64 rfl
theorem dX8_fillField_127 : decode cX8_fillField 127 = .ok (.ldc2_w 88, 3) := tb_at tbX8_fillField_n20_ok 65 rfl
theorem dX8_fillField_130 : decode cX8_fillField 130 = .ok (.lcmp, 1) := tb_at tbX8_fillField_n20_ok 66 rfl
theorem dX8_fillField_131 : decode cX8_fillField 131 = .ok (.ifCond .ne 7, 3) := tb_at tbX8_fillField_n20_ok 67 rfl
theorem dX8_fillField_134 : decode cX8_fillField 134 = .ok (.aconst_null, 1) := tb_at tbX8_fillField_n20_ok 68 rfl
theorem dX8_fillField_135 : decode cX8_fillField 135 = .ok (.goto 13, 3) := tb_at tbX8_fillField_n20_ok 69 rfl
