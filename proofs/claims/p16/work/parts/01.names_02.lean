noncomputable def nX8_unchecked : Nat := 0xac1d7300b5032c3e7300b42cac020500c72c4d4600b61b2a
theorem bX8_unchecked : Bts cX8_unchecked nX8_unchecked 24 := by unfold Bts; decide +kernel
theorem dX8_unchecked_0 : decode cX8_unchecked 0 = .ok (.aload_n 0, 1) := dz_42 (b_1 bX8_unchecked (by decide +kernel))
theorem dX8_unchecked_1 : decode cX8_unchecked 1 = .ok (.iload_n 1, 1) := dz_27 (b_1 bX8_unchecked (by decide +kernel))
theorem dX8_unchecked_2 : decode cX8_unchecked 2 = .ok (.invokevirtual 70, 3) := dz_182 (b_3 (a := 0) (b := 70) bX8_unchecked (by decide +kernel))
theorem dX8_unchecked_5 : decode cX8_unchecked 5 = .ok (.astore_n 2, 1) := dz_77 (b_1 bX8_unchecked (by decide +kernel))
theorem dX8_unchecked_6 : decode cX8_unchecked 6 = .ok (.aload_n 2, 1) := dz_44 (b_1 bX8_unchecked (by decide +kernel))
theorem dX8_unchecked_7 : decode cX8_unchecked 7 = .ok (.ifnonnull 5, 3) := dz_199 (b_3 (a := 0) (b := 5) bX8_unchecked (by decide +kernel)) (by decide +kernel)
theorem dX8_unchecked_10 : decode cX8_unchecked 10 = .ok (.iconst (-1), 1) := dz_2 (b_1 bX8_unchecked (by decide +kernel))
theorem dX8_unchecked_11 : decode cX8_unchecked 11 = .ok (.ireturn, 1) := dz_172 (b_1 bX8_unchecked (by decide +kernel))
theorem dX8_unchecked_12 : decode cX8_unchecked 12 = .ok (.aload_n 2, 1) := dz_44 (b_1 bX8_unchecked (by decide +kernel))
theorem dX8_unchecked_13 : decode cX8_unchecked 13 = .ok (.getfield 115, 3) := dz_180 (b_3 (a := 0) (b := 115) bX8_unchecked (by decide +kernel))
theorem dX8_unchecked_16 : decode cX8_unchecked 16 = .ok (.istore_n 3, 1) := dz_62 (b_1 bX8_unchecked (by decide +kernel))
theorem dX8_unchecked_17 : decode cX8_unchecked 17 = .ok (.aload_n 2, 1) := dz_44 (b_1 bX8_unchecked (by decide +kernel))
theorem dX8_unchecked_18 : decode cX8_unchecked 18 = .ok (.iconst 0, 1) := dz_3 (b_1 bX8_unchecked (by decide +kernel))
theorem dX8_unchecked_19 : decode cX8_unchecked 19 = .ok (.putfield 115, 3) := dz_181 (b_3 (a := 0) (b := 115) bX8_unchecked (by decide +kernel))
theorem dX8_unchecked_22 : decode cX8_unchecked 22 = .ok (.iload_n 3, 1) := dz_29 (b_1 bX8_unchecked (by decide +kernel))
theorem dX8_unchecked_23 : decode cX8_unchecked 23 = .ok (.ireturn, 1) := dz_172 (b_1 bX8_unchecked (by decide +kernel))
theorem gj_X8_word_0 : GpS ([.fieldLink RX8 21 "StateRecords" "wordsInUse" "[Z", .methodLink RX8 74 yX8_isBelow, .static yX8_isBelow, .initialized RX8, .code yX8_isBelow cX8_isBelow 2 (some .boolean)]) wsX8_word := fun w h => List.mem_cons_of_mem _ (List.mem_append_left _ (h))
set_option maxRecDepth 20000 in
theorem ggX8_word_X8_isBelow : GoodIn wsX8_word wsX8_isBelow := gp_s (gp_c (gj_X8_word_0 _ (gp_4 gp_h)) (gp_n)) gb_X8_isBelow
set_option maxRecDepth 20000 in
theorem gX8_word_X8_isBelow : GoodIn wsX8_word (va_wsS RX8 74 yX8_isBelow wsX8_isBelow) := goodIn_app (gp_s (gp_c (gj_X8_word_0 _ (gp_1 gp_h)) (gp_c (gj_X8_word_0 _ (gp_1 (gp_1 gp_h))) (gp_c (gj_X8_word_0 _ (gp_1 (gp_1 (gp_1 gp_h)))) (gp_n)))) (gp_t)) ggX8_word_X8_isBelow
noncomputable def nX8_word : Nat := 0xac1d541c1b1500b42a3e030400a704070099331b1500b42aac0205009a4a00b810101b
theorem bX8_word : Bts cX8_word nX8_word 35 := by unfold Bts; decide +kernel
theorem dX8_word_0 : decode cX8_word 0 = .ok (.iload_n 1, 1) := dz_27 (b_1 bX8_word (by decide +kernel))
theorem dX8_word_1 : decode cX8_word 1 = .ok (.bipush 16, 2) := dz_16 (b_2 (a := 16) bX8_word (by decide +kernel)) (by decide +kernel)
theorem dX8_word_3 : decode cX8_word 3 = .ok (.invokestatic 74, 3) := dz_184 (b_3 (a := 0) (b := 74) bX8_word (by decide +kernel))
theorem dX8_word_6 : decode cX8_word 6 = .ok (.ifCond .ne 5, 3) := dz_154 (b_3 (a := 0) (b := 5) bX8_word (by decide +kernel)) (by decide +kernel)
theorem dX8_word_9 : decode cX8_word 9 = .ok (.iconst (-1), 1) := dz_2 (b_1 bX8_word (by decide +kernel))
theorem dX8_word_10 : decode cX8_word 10 = .ok (.ireturn, 1) := dz_172 (b_1 bX8_word (by decide +kernel))
theorem dX8_word_11 : decode cX8_word 11 = .ok (.aload_n 0, 1) := dz_42 (b_1 bX8_word (by decide +kernel))
theorem dX8_word_12 : decode cX8_word 12 = .ok (.getfield 21, 3) := dz_180 (b_3 (a := 0) (b := 21) bX8_word (by decide +kernel))
theorem dX8_word_15 : decode cX8_word 15 = .ok (.iload_n 1, 1) := dz_27 (b_1 bX8_word (by decide +kernel))
theorem dX8_word_16 : decode cX8_word 16 = .ok (.baload, 1) := dz_51 (b_1 bX8_word (by decide +kernel))
theorem dX8_word_17 : decode cX8_word 17 = .ok (.ifCond .eq 7, 3) := dz_153 (b_3 (a := 0) (b := 7) bX8_word (by decide +kernel)) (by decide +kernel)
theorem dX8_word_20 : decode cX8_word 20 = .ok (.iconst 1, 1) := dz_4 (b_1 bX8_word (by decide +kernel))
theorem dX8_word_21 : decode cX8_word 21 = .ok (.goto 4, 3) := dz_167 (b_3 (a := 0) (b := 4) bX8_word (by decide +kernel)) (by decide +kernel)
theorem dX8_word_24 : decode cX8_word 24 = .ok (.iconst 0, 1) := dz_3 (b_1 bX8_word (by decide +kernel))
theorem dX8_word_25 : decode cX8_word 25 = .ok (.istore_n 3, 1) := dz_62 (b_1 bX8_word (by decide +kernel))
theorem dX8_word_26 : decode cX8_word 26 = .ok (.aload_n 0, 1) := dz_42 (b_1 bX8_word (by decide +kernel))
theorem dX8_word_27 : decode cX8_word 27 = .ok (.getfield 21, 3) := dz_180 (b_3 (a := 0) (b := 21) bX8_word (by decide +kernel))
theorem dX8_word_30 : decode cX8_word 30 = .ok (.iload_n 1, 1) := dz_27 (b_1 bX8_word (by decide +kernel))
theorem dX8_word_31 : decode cX8_word 31 = .ok (.iload_n 2, 1) := dz_28 (b_1 bX8_word (by decide +kernel))
theorem dX8_word_32 : decode cX8_word 32 = .ok (.bastore, 1) := dz_84 (b_1 bX8_word (by decide +kernel))
theorem dX8_word_33 : decode cX8_word 33 = .ok (.iload_n 3, 1) := dz_29 (b_1 bX8_word (by decide +kernel))
theorem dX8_word_34 : decode cX8_word 34 = .ok (.ireturn, 1) := dz_172 (b_1 bX8_word (by decide +kernel))
theorem gj_X8_thing_0 : GpS (wsX8_thing_r1) wsX8_thing := fun w h => List.mem_cons_of_mem _ (List.mem_append_left _ (List.mem_append_left _ (List.mem_append_left _ (List.mem_append_left _ (h)))))
theorem gj_X8_thing_2 : GpS (wsX80) wsX8_thing := fun w h => List.mem_cons_of_mem _ (List.mem_append_left _ (List.mem_append_left _ (List.mem_append_right _ (h))))
set_option maxRecDepth 20000 in
theorem ggX8_thing_X8_typeNumbered : GoodIn wsX8_thing wsX8_typeNumbered := gp_s (gp_c (gj_X8_thing_0 _ (gp_4 (gp_1 (gp_1 gp_h)))) (gp_a (gp_c (gj_X8_thing_0 _ (gp_4 (gp_1 (gp_1 (gp_1 gp_h))))) (gp_c (gj_X8_thing_0 _ (gp_4 (gp_4 gp_h))) (gp_c (gj_X8_thing_0 _ (gp_4 (gp_4 (gp_1 gp_h)))) (gp_c (gj_X8_thing_0 _ (gp_4 (gp_4 (gp_1 (gp_1 gp_h))))) (gp_c (gj_X8_thing_0 _ (gp_4 (gp_1 gp_h))) (gp_c (gj_X8_thing_0 _ (gp_4 (gp_4 (gp_1 (gp_1 (gp_1 gp_h)))))) (gp_n))))))) (gj_X8_thing_2))) gb_X8_typeNumbered
set_option maxRecDepth 20000 in
theorem gX8_thing_X8_typeNumbered : GoodIn wsX8_thing (wsV RX8 70 RX8 yX8_typeNumbered wsX8_typeNumbered) := goodIn_app (gp_s (gp_c (gj_X8_thing_0 _ (gp_1 (gp_1 gp_h))) (gp_c (gj_X8_thing_0 _ (gp_1 (gp_1 (gp_1 gp_h)))) (gp_c (gj_X8_thing_0 _ (gp_4 gp_h)) (gp_c (gj_X8_thing_0 _ (gp_4 (gp_1 gp_h))) (gp_n))))) (gp_v)) ggX8_thing_X8_typeNumbered
theorem gb_X6_become : wsX6_become.all goodWord = true := by decide +kernel
theorem gj_X8_thing_1 : GpS (wsX8_thing_r2) wsX8_thing := fun w h => List.mem_cons_of_mem _ (List.mem_append_left _ (List.mem_append_left _ (List.mem_append_left _ (List.mem_append_right _ (h)))))
theorem gj_X8_thing_3 : GpS (wsX60) wsX8_thing := fun w h => List.mem_cons_of_mem _ (List.mem_append_left _ (List.mem_append_right _ (h)))
theorem gj_X8_thing_4 : GpS (wsX70) wsX8_thing := fun w h => List.mem_cons_of_mem _ (List.mem_append_right _ (h))
set_option maxRecDepth 20000 in
theorem ggX8_thing_X6_become : GoodIn wsX8_thing wsX6_become := gp_s (gp_c (gj_X8_thing_0 _ (gp_16 gp_h)) (gp_a (gp_a (gp_c (gj_X8_thing_0 _ (gp_16 (gp_1 gp_h))) (gp_c (gj_X8_thing_0 _ (gp_16 (gp_1 (gp_1 gp_h)))) (gp_c (gj_X8_thing_0 _ (gp_16 (gp_1 (gp_1 (gp_1 gp_h))))) (gp_c (gj_X8_thing_0 _ (gp_16 (gp_4 gp_h))) (gp_c (gj_X8_thing_0 _ (gp_16 (gp_4 (gp_1 gp_h)))) (gp_c (gj_X8_thing_0 _ (gp_4 (gp_4 (gp_4 (gp_1 (gp_1 (gp_1 gp_h))))))) (gp_c (gj_X8_thing_0 _ (gp_16 (gp_4 (gp_1 (gp_1 gp_h))))) (gp_c (gj_X8_thing_0 _ (gp_16 (gp_4 (gp_1 (gp_1 (gp_1 gp_h)))))) (gp_c (gj_X8_thing_1 _ (gp_h)) (gp_c (gj_X8_thing_1 _ (gp_1 gp_h)) (gp_n))))))))))) (gj_X8_thing_3)) (gj_X8_thing_4))) gb_X6_become
set_option maxRecDepth 20000 in
theorem gX8_thing_X6_become : GoodIn wsX8_thing (wsV RX8 127 RX6 yX6_become wsX6_become) := goodIn_app (gp_s (gp_c (gj_X8_thing_0 _ (gp_4 (gp_4 (gp_4 gp_h)))) (gp_c (gj_X8_thing_0 _ (gp_4 (gp_4 (gp_4 (gp_1 gp_h))))) (gp_c (gj_X8_thing_0 _ (gp_4 (gp_4 (gp_4 (gp_1 (gp_1 gp_h)))))) (gp_c (gj_X8_thing_0 _ (gp_4 (gp_4 (gp_4 (gp_1 (gp_1 (gp_1 gp_h))))))) (gp_n))))) (gp_v)) ggX8_thing_X6_become
noncomputable def nX8_thing : Nat := 0xac64045e00b42a5e00b560045e00b4592a7f00b62c325e00b42a1100b42aacfc100600a11e105e00b42aac020500c72c4d4600b61b2a
theorem bX8_thing : Bts cX8_thing nX8_thing 54 := by unfold Bts; decide +kernel
theorem dX8_thing_0 : decode cX8_thing 0 = .ok (.aload_n 0, 1) := dz_42 (b_1 bX8_thing (by decide +kernel))
theorem dX8_thing_1 : decode cX8_thing 1 = .ok (.iload_n 1, 1) := dz_27 (b_1 bX8_thing (by decide +kernel))
theorem dX8_thing_2 : decode cX8_thing 2 = .ok (.invokevirtual 70, 3) := dz_182 (b_3 (a := 0) (b := 70) bX8_thing (by decide +kernel))
theorem dX8_thing_5 : decode cX8_thing 5 = .ok (.astore_n 2, 1) := dz_77 (b_1 bX8_thing (by decide +kernel))
theorem dX8_thing_6 : decode cX8_thing 6 = .ok (.aload_n 2, 1) := dz_44 (b_1 bX8_thing (by decide +kernel))
theorem dX8_thing_7 : decode cX8_thing 7 = .ok (.ifnonnull 5, 3) := dz_199 (b_3 (a := 0) (b := 5) bX8_thing (by decide +kernel)) (by decide +kernel)
theorem dX8_thing_10 : decode cX8_thing 10 = .ok (.iconst (-1), 1) := dz_2 (b_1 bX8_thing (by decide +kernel))
theorem dX8_thing_11 : decode cX8_thing 11 = .ok (.ireturn, 1) := dz_172 (b_1 bX8_thing (by decide +kernel))
theorem dX8_thing_12 : decode cX8_thing 12 = .ok (.aload_n 0, 1) := dz_42 (b_1 bX8_thing (by decide +kernel))
theorem dX8_thing_13 : decode cX8_thing 13 = .ok (.getfield 94, 3) := dz_180 (b_3 (a := 0) (b := 94) bX8_thing (by decide +kernel))
theorem dX8_thing_16 : decode cX8_thing 16 = .ok (.bipush 30, 2) := dz_16 (b_2 (a := 30) bX8_thing (by decide +kernel)) (by decide +kernel)
theorem dX8_thing_18 : decode cX8_thing 18 = .ok (.if_icmp .lt 6, 3) := dz_161 (b_3 (a := 0) (b := 6) bX8_thing (by decide +kernel)) (by decide +kernel)
theorem dX8_thing_21 : decode cX8_thing 21 = .ok (.bipush (-4), 2) := dz_16 (b_2 (a := 252) bX8_thing (by decide +kernel)) (by decide +kernel)
theorem dX8_thing_23 : decode cX8_thing 23 = .ok (.ireturn, 1) := dz_172 (b_1 bX8_thing (by decide +kernel))
theorem dX8_thing_24 : decode cX8_thing 24 = .ok (.aload_n 0, 1) := dz_42 (b_1 bX8_thing (by decide +kernel))
theorem dX8_thing_25 : decode cX8_thing 25 = .ok (.getfield 17, 3) := dz_180 (b_3 (a := 0) (b := 17) bX8_thing (by decide +kernel))
theorem dX8_thing_28 : decode cX8_thing 28 = .ok (.aload_n 0, 1) := dz_42 (b_1 bX8_thing (by decide +kernel))
theorem dX8_thing_29 : decode cX8_thing 29 = .ok (.getfield 94, 3) := dz_180 (b_3 (a := 0) (b := 94) bX8_thing (by decide +kernel))
theorem dX8_thing_32 : decode cX8_thing 32 = .ok (.aaload, 1) := dz_50 (b_1 bX8_thing (by decide +kernel))
theorem dX8_thing_33 : decode cX8_thing 33 = .ok (.aload_n 2, 1) := dz_44 (b_1 bX8_thing (by decide +kernel))
theorem dX8_thing_34 : decode cX8_thing 34 = .ok (.invokevirtual 127, 3) := dz_182 (b_3 (a := 0) (b := 127) bX8_thing (by decide +kernel))
theorem dX8_thing_37 : decode cX8_thing 37 = .ok (.aload_n 0, 1) := dz_42 (b_1 bX8_thing (by decide +kernel))
theorem dX8_thing_38 : decode cX8_thing 38 = .ok (.dup, 1) := dz_89 (b_1 bX8_thing (by decide +kernel))
theorem dX8_thing_39 : decode cX8_thing 39 = .ok (.getfield 94, 3) := dz_180 (b_3 (a := 0) (b := 94) bX8_thing (by decide +kernel))
theorem dX8_thing_42 : decode cX8_thing 42 = .ok (.iconst 1, 1) := dz_4 (b_1 bX8_thing (by decide +kernel))
theorem dX8_thing_43 : decode cX8_thing 43 = .ok (.iadd, 1) := dz_96 (b_1 bX8_thing (by decide +kernel))
theorem dX8_thing_44 : decode cX8_thing 44 = .ok (.putfield 94, 3) := dz_181 (b_3 (a := 0) (b := 94) bX8_thing (by decide +kernel))
theorem dX8_thing_47 : decode cX8_thing 47 = .ok (.aload_n 0, 1) := dz_42 (b_1 bX8_thing (by decide +kernel))
theorem dX8_thing_48 : decode cX8_thing 48 = .ok (.getfield 94, 3) := dz_180 (b_3 (a := 0) (b := 94) bX8_thing (by decide +kernel))
theorem dX8_thing_51 : decode cX8_thing 51 = .ok (.iconst 1, 1) := dz_4 (b_1 bX8_thing (by decide +kernel))
theorem dX8_thing_52 : decode cX8_thing 52 = .ok (.isub, 1) := dz_100 (b_1 bX8_thing (by decide +kernel))
theorem dX8_thing_53 : decode cX8_thing 53 = .ok (.ireturn, 1) := dz_172 (b_1 bX8_thing (by decide +kernel))
theorem gb_X8_thingWithField : wsX8_thingWithField.all goodWord = true := by decide +kernel
theorem gj_X8_put_0 : GpS (wsX8_put_r1) wsX8_put := fun w h => List.mem_cons_of_mem _ (List.mem_append_left _ (List.mem_append_left _ (List.mem_append_left _ (List.mem_append_left _ (List.mem_append_left _ (List.mem_append_left _ (h)))))))
theorem gj_X8_put_3 : GpS (wsX60) wsX8_put := fun w h => List.mem_cons_of_mem _ (List.mem_append_left _ (List.mem_append_left _ (List.mem_append_left _ (List.mem_append_left _ (List.mem_append_right _ (h))))))
theorem gj_X8_put_4 : GpS (wsX70) wsX8_put := fun w h => List.mem_cons_of_mem _ (List.mem_append_left _ (List.mem_append_left _ (List.mem_append_left _ (List.mem_append_right _ (h)))))
theorem gj_X8_put_5 : GpS (wsX80) wsX8_put := fun w h => List.mem_cons_of_mem _ (List.mem_append_left _ (List.mem_append_left _ (List.mem_append_right _ (h))))
set_option maxRecDepth 20000 in
theorem ggX8_put_X8_thingWithField : GoodIn wsX8_put wsX8_thingWithField := gp_s (gp_c (gj_X8_put_0 _ (gp_4 (gp_1 (gp_1 (gp_1 gp_h))))) (gp_a (gp_a (gp_a (gp_c (gj_X8_put_0 _ (gp_h)) (gp_c (gj_X8_put_0 _ (gp_4 (gp_4 gp_h))) (gp_c (gj_X8_put_0 _ (gp_4 (gp_4 (gp_1 gp_h)))) (gp_c (gj_X8_put_0 _ (gp_4 (gp_4 (gp_1 (gp_1 gp_h))))) (gp_c (gj_X8_put_0 _ (gp_4 (gp_1 (gp_1 gp_h)))) (gp_c (gj_X8_put_0 _ (gp_4 (gp_4 (gp_1 (gp_1 (gp_1 gp_h)))))) (gp_c (gj_X8_put_0 _ (gp_4 (gp_4 (gp_4 gp_h)))) (gp_c (gj_X8_put_0 _ (gp_4 (gp_4 (gp_4 (gp_1 gp_h))))) (gp_c (gj_X8_put_0 _ (gp_4 (gp_4 (gp_4 (gp_1 (gp_1 gp_h)))))) (gp_c (gj_X8_put_0 _ (gp_4 (gp_4 (gp_4 (gp_1 (gp_1 (gp_1 gp_h))))))) (gp_c (gj_X8_put_0 _ (gp_16 gp_h)) (gp_c (gj_X8_put_0 _ (gp_16 (gp_1 gp_h))) (gp_c (gj_X8_put_0 _ (gp_16 (gp_1 (gp_1 gp_h)))) (gp_c (gj_X8_put_0 _ (gp_16 (gp_1 (gp_1 (gp_1 gp_h))))) (gp_c (gj_X8_put_0 _ (gp_16 (gp_4 gp_h))) (gp_c (gj_X8_put_0 _ (gp_16 (gp_4 (gp_1 gp_h)))) (gp_n))))))))))))))))) (gj_X8_put_3)) (gj_X8_put_5)) (gj_X8_put_4))) gb_X8_thingWithField
set_option maxRecDepth 20000 in
theorem gX8_put_X8_thingWithField : GoodIn wsX8_put (wsV RX8 131 RX8 yX8_thingWithField wsX8_thingWithField) := goodIn_app (gp_s (gp_c (gj_X8_put_0 _ (gp_1 (gp_1 (gp_1 gp_h)))) (gp_c (gj_X8_put_0 _ (gp_4 gp_h)) (gp_c (gj_X8_put_0 _ (gp_4 (gp_1 gp_h))) (gp_c (gj_X8_put_0 _ (gp_4 (gp_1 (gp_1 gp_h)))) (gp_n))))) (gp_v)) ggX8_put_X8_thingWithField
theorem gb_X8_failed : wsX8_failed.all goodWord = true := by decide +kernel
theorem gj_X8_put_1 : GpS (wsX8_put_r2) wsX8_put := fun w h => List.mem_cons_of_mem _ (List.mem_append_left _ (List.mem_append_left _ (List.mem_append_left _ (List.mem_append_left _ (List.mem_append_left _ (List.mem_append_right _ (List.mem_append_left _ (h))))))))
set_option maxRecDepth 20000 in
theorem ggX8_put_X8_failed : GoodIn wsX8_put wsX8_failed := gp_s (gp_c (gj_X8_put_1 _ (gp_h)) (gp_n)) gb_X8_failed
set_option maxRecDepth 20000 in
theorem gX8_put_X8_failed : GoodIn wsX8_put (va_wsS RX8 139 yX8_failed wsX8_failed) := goodIn_app (gp_s (gp_c (gj_X8_put_0 _ (gp_16 (gp_4 (gp_1 (gp_1 gp_h))))) (gp_c (gj_X8_put_0 _ (gp_16 (gp_4 (gp_1 (gp_1 (gp_1 gp_h)))))) (gp_c (gj_X8_put_0 _ (gp_4 (gp_1 (gp_1 gp_h)))) (gp_n)))) (gp_t)) ggX8_put_X8_failed
theorem gb_X8_isWordInUse : wsX8_isWordInUse.all goodWord = true := by decide +kernel
set_option maxRecDepth 20000 in
theorem ggX8_put_X8_isWordInUse : GoodIn wsX8_put wsX8_isWordInUse := gp_s (gp_c (gj_X8_put_1 _ (gp_4 gp_h)) (gp_a (gp_c (gj_X8_put_1 _ (gp_4 (gp_1 gp_h))) (gp_c (gj_X8_put_1 _ (gp_4 (gp_1 (gp_1 gp_h)))) (gp_n))) (gj_X8_put_5))) gb_X8_isWordInUse
set_option maxRecDepth 20000 in
theorem gX8_put_X8_isWordInUse : GoodIn wsX8_put (wsV RX8 142 RX8 yX8_isWordInUse wsX8_isWordInUse) := goodIn_app (gp_s (gp_c (gj_X8_put_1 _ (gp_1 gp_h)) (gp_c (gj_X8_put_1 _ (gp_1 (gp_1 gp_h))) (gp_c (gj_X8_put_1 _ (gp_1 (gp_1 (gp_1 gp_h)))) (gp_c (gj_X8_put_0 _ (gp_4 (gp_1 (gp_1 gp_h)))) (gp_n))))) (gp_v)) ggX8_put_X8_isWordInUse
theorem gb_X8_changeValue : wsX8_changeValue.all goodWord = true := by decide +kernel
theorem gj_X8_put_2 : GpS (wsX8_put_r3) wsX8_put := fun w h => List.mem_cons_of_mem _ (List.mem_append_left _ (List.mem_append_left _ (List.mem_append_left _ (List.mem_append_left _ (List.mem_append_left _ (List.mem_append_right _ (List.mem_append_right _ (h))))))))
theorem gj_X8_put_6 : GpS (wsX20) wsX8_put := fun w h => List.mem_cons_of_mem _ (List.mem_append_left _ (List.mem_append_right _ (h)))
theorem gj_X8_put_7 : GpS (wsX30) wsX8_put := fun w h => List.mem_cons_of_mem _ (List.mem_append_right _ (h))
set_option maxRecDepth 20000 in
theorem ggX8_put_X8_changeValue : GoodIn wsX8_put wsX8_changeValue := gp_s (gp_c (gj_X8_put_1 _ (gp_4 (gp_4 (gp_1 (gp_1 gp_h))))) (gp_a (gp_a (gp_a (gp_a (gp_a (gp_c (gj_X8_put_1 _ (gp_4 (gp_4 (gp_1 (gp_1 (gp_1 gp_h)))))) (gp_c (gj_X8_put_1 _ (gp_4 (gp_4 (gp_4 gp_h)))) (gp_c (gj_X8_put_1 _ (gp_4 (gp_4 (gp_4 (gp_1 gp_h))))) (gp_c (gj_X8_put_1 _ (gp_4 (gp_4 (gp_4 (gp_1 (gp_1 gp_h)))))) (gp_c (gj_X8_put_1 _ (gp_4 (gp_4 (gp_4 (gp_1 (gp_1 (gp_1 gp_h))))))) (gp_c (gj_X8_put_1 _ (gp_16 gp_h)) (gp_c (gj_X8_put_1 _ (gp_16 (gp_1 gp_h))) (gp_c (gj_X8_put_1 _ (gp_16 (gp_1 (gp_1 gp_h)))) (gp_c (gj_X8_put_1 _ (gp_16 (gp_1 (gp_1 (gp_1 gp_h))))) (gp_c (gj_X8_put_1 _ (gp_16 (gp_4 gp_h))) (gp_c (gj_X8_put_1 _ (gp_16 (gp_4 (gp_1 gp_h)))) (gp_c (gj_X8_put_1 _ (gp_16 (gp_4 (gp_1 (gp_1 gp_h))))) (gp_c (gj_X8_put_1 _ (gp_16 (gp_4 (gp_1 (gp_1 (gp_1 gp_h)))))) (gp_c (gj_X8_put_2 _ (gp_h)) (gp_c (gj_X8_put_2 _ (gp_1 gp_h)) (gp_c (gj_X8_put_2 _ (gp_1 (gp_1 gp_h))) (gp_c (gj_X8_put_2 _ (gp_1 (gp_1 (gp_1 gp_h)))) (gp_c (gj_X8_put_2 _ (gp_4 gp_h)) (gp_c (gj_X8_put_2 _ (gp_4 (gp_1 gp_h))) (gp_c (gj_X8_put_2 _ (gp_4 (gp_1 (gp_1 gp_h)))) (gp_c (gj_X8_put_2 _ (gp_4 (gp_1 (gp_1 (gp_1 gp_h))))) (gp_c (gj_X8_put_2 _ (gp_4 (gp_4 gp_h))) (gp_c (gj_X8_put_2 _ (gp_4 (gp_4 (gp_1 gp_h)))) (gp_c (gj_X8_put_2 _ (gp_4 (gp_4 (gp_1 (gp_1 gp_h))))) (gp_n))))))))))))))))))))))))) (gp_c (gj_X8_put_2 _ (gp_4 (gp_4 (gp_1 (gp_1 (gp_1 gp_h)))))) (gp_n))) (gj_X8_put_5)) (gj_X8_put_3)) (gj_X8_put_6)) (gj_X8_put_7))) gb_X8_changeValue
set_option maxRecDepth 20000 in
theorem gX8_put_X8_changeValue : GoodIn wsX8_put (wsV RX8 146 RX8 yX8_changeValue wsX8_changeValue) := goodIn_app (gp_s (gp_c (gj_X8_put_1 _ (gp_4 (gp_1 (gp_1 (gp_1 gp_h))))) (gp_c (gj_X8_put_1 _ (gp_4 (gp_4 gp_h))) (gp_c (gj_X8_put_1 _ (gp_4 (gp_4 (gp_1 gp_h)))) (gp_c (gj_X8_put_0 _ (gp_4 (gp_1 (gp_1 gp_h)))) (gp_n))))) (gp_v)) ggX8_put_X8_changeValue
noncomputable def nX8_put : Nat := 0xac9200b6211c05192aac8b00b8071009009a8e00b6212a11009994580014211900a0040615ac8b00b80708009f0406150e0099061506362e1c8700b46100b40519ac020500c70519053a8300b61c1b2a
theorem bX8_put : Bts cX8_put nX8_put 80 := by unfold Bts; decide +kernel
theorem dX8_put_0 : decode cX8_put 0 = .ok (.aload_n 0, 1) := dz_42 (b_1 bX8_put (by decide +kernel))
theorem dX8_put_1 : decode cX8_put 1 = .ok (.iload_n 1, 1) := dz_27 (b_1 bX8_put (by decide +kernel))
theorem dX8_put_2 : decode cX8_put 2 = .ok (.iload_n 2, 1) := dz_28 (b_1 bX8_put (by decide +kernel))
theorem dX8_put_3 : decode cX8_put 3 = .ok (.invokevirtual 131, 3) := dz_182 (b_3 (a := 0) (b := 131) bX8_put (by decide +kernel))
theorem dX8_put_6 : decode cX8_put 6 = .ok (.astore 5, 2) := dz_58 (b_2 (a := 5) bX8_put (by decide +kernel))
theorem dX8_put_8 : decode cX8_put 8 = .ok (.aload 5, 2) := dz_25 (b_2 (a := 5) bX8_put (by decide +kernel))
theorem dX8_put_10 : decode cX8_put 10 = .ok (.ifnonnull 5, 3) := dz_199 (b_3 (a := 0) (b := 5) bX8_put (by decide +kernel)) (by decide +kernel)
theorem dX8_put_13 : decode cX8_put 13 = .ok (.iconst (-1), 1) := dz_2 (b_1 bX8_put (by decide +kernel))
theorem dX8_put_14 : decode cX8_put 14 = .ok (.ireturn, 1) := dz_172 (b_1 bX8_put (by decide +kernel))
theorem dX8_put_15 : decode cX8_put 15 = .ok (.aload 5, 2) := dz_25 (b_2 (a := 5) bX8_put (by decide +kernel))
theorem dX8_put_17 : decode cX8_put 17 = .ok (.getfield 97, 3) := dz_180 (b_3 (a := 0) (b := 97) bX8_put (by decide +kernel))
theorem dX8_put_20 : decode cX8_put 20 = .ok (.getfield 135, 3) := dz_180 (b_3 (a := 0) (b := 135) bX8_put (by decide +kernel))
theorem dX8_put_23 : decode cX8_put 23 = .ok (.iload_n 2, 1) := dz_28 (b_1 bX8_put (by decide +kernel))
theorem dX8_put_24 : decode cX8_put 24 = .ok (.iaload, 1) := dz_46 (b_1 bX8_put (by decide +kernel))
theorem dX8_put_25 : decode cX8_put 25 = .ok (.istore 6, 2) := dz_54 (b_2 (a := 6) bX8_put (by decide +kernel))
theorem dX8_put_27 : decode cX8_put 27 = .ok (.iload 6, 2) := dz_21 (b_2 (a := 6) bX8_put (by decide +kernel))
theorem dX8_put_29 : decode cX8_put 29 = .ok (.ifCond .eq 14, 3) := dz_153 (b_3 (a := 0) (b := 14) bX8_put (by decide +kernel)) (by decide +kernel)
theorem dX8_put_32 : decode cX8_put 32 = .ok (.iload 6, 2) := dz_21 (b_2 (a := 6) bX8_put (by decide +kernel))
theorem dX8_put_34 : decode cX8_put 34 = .ok (.iconst 1, 1) := dz_4 (b_1 bX8_put (by decide +kernel))
theorem dX8_put_35 : decode cX8_put 35 = .ok (.if_icmp .eq 8, 3) := dz_159 (b_3 (a := 0) (b := 8) bX8_put (by decide +kernel)) (by decide +kernel)
theorem dX8_put_38 : decode cX8_put 38 = .ok (.iconst 4, 1) := dz_7 (b_1 bX8_put (by decide +kernel))
theorem dX8_put_39 : decode cX8_put 39 = .ok (.invokestatic 139, 3) := dz_184 (b_3 (a := 0) (b := 139) bX8_put (by decide +kernel))
theorem dX8_put_42 : decode cX8_put 42 = .ok (.ireturn, 1) := dz_172 (b_1 bX8_put (by decide +kernel))
theorem dX8_put_43 : decode cX8_put 43 = .ok (.iload 6, 2) := dz_21 (b_2 (a := 6) bX8_put (by decide +kernel))
theorem dX8_put_45 : decode cX8_put 45 = .ok (.iconst 1, 1) := dz_4 (b_1 bX8_put (by decide +kernel))
theorem dX8_put_46 : decode cX8_put 46 = .ok (.if_icmp .ne 25, 3) := dz_160 (b_3 (a := 0) (b := 25) bX8_put (by decide +kernel)) (by decide +kernel)
theorem dX8_put_49 : decode cX8_put 49 = .ok (.lload_n 3, 1) := dz_33 (b_1 bX8_put (by decide +kernel))
theorem dX8_put_50 : decode cX8_put 50 = .ok (.ldc2_w 88, 3) := dz_20 (b_3 (a := 0) (b := 88) bX8_put (by decide +kernel))
theorem dX8_put_53 : decode cX8_put 53 = .ok (.lcmp, 1) := dz_148 (b_1 bX8_put (by decide +kernel))
theorem dX8_put_54 : decode cX8_put 54 = .ok (.ifCond .eq 17, 3) := dz_153 (b_3 (a := 0) (b := 17) bX8_put (by decide +kernel)) (by decide +kernel)
theorem dX8_put_57 : decode cX8_put 57 = .ok (.aload_n 0, 1) := dz_42 (b_1 bX8_put (by decide +kernel))
theorem dX8_put_58 : decode cX8_put 58 = .ok (.lload_n 3, 1) := dz_33 (b_1 bX8_put (by decide +kernel))
theorem dX8_put_59 : decode cX8_put 59 = .ok (.invokevirtual 142, 3) := dz_182 (b_3 (a := 0) (b := 142) bX8_put (by decide +kernel))
theorem dX8_put_62 : decode cX8_put 62 = .ok (.ifCond .ne 9, 3) := dz_154 (b_3 (a := 0) (b := 9) bX8_put (by decide +kernel)) (by decide +kernel)
theorem dX8_put_65 : decode cX8_put 65 = .ok (.bipush 7, 2) := dz_16 (b_2 (a := 7) bX8_put (by decide +kernel)) (by decide +kernel)
theorem dX8_put_67 : decode cX8_put 67 = .ok (.invokestatic 139, 3) := dz_184 (b_3 (a := 0) (b := 139) bX8_put (by decide +kernel))
theorem dX8_put_70 : decode cX8_put 70 = .ok (.ireturn, 1) := dz_172 (b_1 bX8_put (by decide +kernel))
theorem dX8_put_71 : decode cX8_put 71 = .ok (.aload_n 0, 1) := dz_42 (b_1 bX8_put (by decide +kernel))
theorem dX8_put_72 : decode cX8_put 72 = .ok (.aload 5, 2) := dz_25 (b_2 (a := 5) bX8_put (by decide +kernel))
theorem dX8_put_74 : decode cX8_put 74 = .ok (.iload_n 2, 1) := dz_28 (b_1 bX8_put (by decide +kernel))
theorem dX8_put_75 : decode cX8_put 75 = .ok (.lload_n 3, 1) := dz_33 (b_1 bX8_put (by decide +kernel))
theorem dX8_put_76 : decode cX8_put 76 = .ok (.invokevirtual 146, 3) := dz_182 (b_3 (a := 0) (b := 146) bX8_put (by decide +kernel))
theorem dX8_put_79 : decode cX8_put 79 = .ok (.ireturn, 1) := dz_172 (b_1 bX8_put (by decide +kernel))
theorem gj_X8_refer_0 : GpS (wsX8_refer_r1) wsX8_refer := fun w h => List.mem_cons_of_mem _ (List.mem_append_left _ (List.mem_append_left _ (List.mem_append_left _ (List.mem_append_left _ (List.mem_append_left _ (List.mem_append_left _ (h)))))))
theorem gj_X8_refer_3 : GpS (wsX80) wsX8_refer := fun w h => List.mem_cons_of_mem _ (List.mem_append_left _ (List.mem_append_left _ (List.mem_append_left _ (List.mem_append_left _ (List.mem_append_right _ (h))))))
theorem gj_X8_refer_4 : GpS (wsX60) wsX8_refer := fun w h => List.mem_cons_of_mem _ (List.mem_append_left _ (List.mem_append_left _ (List.mem_append_left _ (List.mem_append_right _ (h)))))
theorem gj_X8_refer_5 : GpS (wsX70) wsX8_refer := fun w h => List.mem_cons_of_mem _ (List.mem_append_left _ (List.mem_append_left _ (List.mem_append_right _ (h))))
set_option maxRecDepth 20000 in
theorem ggX8_refer_X8_thingWithField : GoodIn wsX8_refer wsX8_thingWithField := gp_s (gp_c (gj_X8_refer_0 _ (gp_4 (gp_1 (gp_1 (gp_1 gp_h))))) (gp_a (gp_a (gp_a (gp_c (gj_X8_refer_0 _ (gp_1 gp_h)) (gp_c (gj_X8_refer_0 _ (gp_4 (gp_4 gp_h))) (gp_c (gj_X8_refer_0 _ (gp_4 (gp_4 (gp_1 gp_h)))) (gp_c (gj_X8_refer_0 _ (gp_4 (gp_4 (gp_1 (gp_1 gp_h))))) (gp_c (gj_X8_refer_0 _ (gp_4 (gp_1 (gp_1 gp_h)))) (gp_c (gj_X8_refer_0 _ (gp_4 (gp_4 (gp_1 (gp_1 (gp_1 gp_h)))))) (gp_c (gj_X8_refer_0 _ (gp_h)) (gp_c (gj_X8_refer_0 _ (gp_4 (gp_4 (gp_4 gp_h)))) (gp_c (gj_X8_refer_0 _ (gp_4 (gp_4 (gp_4 (gp_1 gp_h))))) (gp_c (gj_X8_refer_0 _ (gp_4 (gp_4 (gp_4 (gp_1 (gp_1 gp_h)))))) (gp_c (gj_X8_refer_0 _ (gp_4 (gp_4 (gp_4 (gp_1 (gp_1 (gp_1 gp_h))))))) (gp_c (gj_X8_refer_0 _ (gp_16 gp_h)) (gp_c (gj_X8_refer_0 _ (gp_16 (gp_1 gp_h))) (gp_c (gj_X8_refer_0 _ (gp_16 (gp_1 (gp_1 gp_h)))) (gp_c (gj_X8_refer_0 _ (gp_16 (gp_1 (gp_1 (gp_1 gp_h))))) (gp_c (gj_X8_refer_0 _ (gp_16 (gp_4 gp_h))) (gp_n))))))))))))))))) (gj_X8_refer_4)) (gj_X8_refer_3)) (gj_X8_refer_5))) gb_X8_thingWithField
set_option maxRecDepth 20000 in
theorem gX8_refer_X8_thingWithField : GoodIn wsX8_refer (wsV RX8 131 RX8 yX8_thingWithField wsX8_thingWithField) := goodIn_app (gp_s (gp_c (gj_X8_refer_0 _ (gp_1 (gp_1 (gp_1 gp_h)))) (gp_c (gj_X8_refer_0 _ (gp_4 gp_h)) (gp_c (gj_X8_refer_0 _ (gp_4 (gp_1 gp_h))) (gp_c (gj_X8_refer_0 _ (gp_4 (gp_1 (gp_1 gp_h)))) (gp_n))))) (gp_v)) ggX8_refer_X8_thingWithField
set_option maxRecDepth 20000 in
theorem ggX8_refer_X8_isBelow : GoodIn wsX8_refer wsX8_isBelow := gp_s (gp_c (gj_X8_refer_0 _ (gp_16 (gp_4 gp_h))) (gp_n)) gb_X8_isBelow
set_option maxRecDepth 20000 in
theorem gX8_refer_X8_isBelow : GoodIn wsX8_refer (va_wsS RX8 74 yX8_isBelow wsX8_isBelow) := goodIn_app (gp_s (gp_c (gj_X8_refer_0 _ (gp_16 (gp_4 (gp_1 gp_h)))) (gp_c (gj_X8_refer_0 _ (gp_16 (gp_1 (gp_1 (gp_1 gp_h))))) (gp_c (gj_X8_refer_0 _ (gp_4 (gp_1 (gp_1 gp_h)))) (gp_n)))) (gp_t)) ggX8_refer_X8_isBelow
theorem gj_X8_refer_1 : GpS (wsX8_refer_r2) wsX8_refer := fun w h => List.mem_cons_of_mem _ (List.mem_append_left _ (List.mem_append_left _ (List.mem_append_left _ (List.mem_append_left _ (List.mem_append_left _ (List.mem_append_right _ (List.mem_append_left _ (h))))))))
set_option maxRecDepth 20000 in
theorem ggX8_refer_X8_failed : GoodIn wsX8_refer wsX8_failed := gp_s (gp_c (gj_X8_refer_1 _ (gp_h)) (gp_n)) gb_X8_failed
set_option maxRecDepth 20000 in
theorem gX8_refer_X8_failed : GoodIn wsX8_refer (va_wsS RX8 139 yX8_failed wsX8_failed) := goodIn_app (gp_s (gp_c (gj_X8_refer_0 _ (gp_16 (gp_4 (gp_1 (gp_1 gp_h))))) (gp_c (gj_X8_refer_0 _ (gp_16 (gp_4 (gp_1 (gp_1 (gp_1 gp_h)))))) (gp_c (gj_X8_refer_0 _ (gp_4 (gp_1 (gp_1 gp_h)))) (gp_n)))) (gp_t)) ggX8_refer_X8_failed
theorem gj_X8_refer_2 : GpS (wsX8_refer_r3) wsX8_refer := fun w h => List.mem_cons_of_mem _ (List.mem_append_left _ (List.mem_append_left _ (List.mem_append_left _ (List.mem_append_left _ (List.mem_append_left _ (List.mem_append_right _ (List.mem_append_right _ (h))))))))
theorem gj_X8_refer_6 : GpS (wsX20) wsX8_refer := fun w h => List.mem_cons_of_mem _ (List.mem_append_left _ (List.mem_append_right _ (h)))
theorem gj_X8_refer_7 : GpS (wsX30) wsX8_refer := fun w h => List.mem_cons_of_mem _ (List.mem_append_right _ (h))
set_option maxRecDepth 20000 in
theorem ggX8_refer_X8_changeValue : GoodIn wsX8_refer wsX8_changeValue := gp_s (gp_c (gj_X8_refer_1 _ (gp_4 gp_h)) (gp_a (gp_a (gp_a (gp_a (gp_a (gp_c (gj_X8_refer_1 _ (gp_4 (gp_1 gp_h))) (gp_c (gj_X8_refer_1 _ (gp_4 (gp_1 (gp_1 gp_h)))) (gp_c (gj_X8_refer_1 _ (gp_4 (gp_1 (gp_1 (gp_1 gp_h))))) (gp_c (gj_X8_refer_1 _ (gp_4 (gp_4 gp_h))) (gp_c (gj_X8_refer_1 _ (gp_4 (gp_4 (gp_1 gp_h)))) (gp_c (gj_X8_refer_1 _ (gp_4 (gp_4 (gp_1 (gp_1 gp_h))))) (gp_c (gj_X8_refer_1 _ (gp_4 (gp_4 (gp_1 (gp_1 (gp_1 gp_h)))))) (gp_c (gj_X8_refer_1 _ (gp_4 (gp_4 (gp_4 gp_h)))) (gp_c (gj_X8_refer_1 _ (gp_4 (gp_4 (gp_4 (gp_1 gp_h))))) (gp_c (gj_X8_refer_1 _ (gp_4 (gp_4 (gp_4 (gp_1 (gp_1 gp_h)))))) (gp_c (gj_X8_refer_1 _ (gp_4 (gp_4 (gp_4 (gp_1 (gp_1 (gp_1 gp_h))))))) (gp_c (gj_X8_refer_1 _ (gp_16 gp_h)) (gp_c (gj_X8_refer_1 _ (gp_16 (gp_1 gp_h))) (gp_c (gj_X8_refer_1 _ (gp_16 (gp_1 (gp_1 gp_h)))) (gp_c (gj_X8_refer_1 _ (gp_16 (gp_1 (gp_1 (gp_1 gp_h))))) (gp_c (gj_X8_refer_1 _ (gp_16 (gp_4 gp_h))) (gp_c (gj_X8_refer_1 _ (gp_16 (gp_4 (gp_1 gp_h)))) (gp_c (gj_X8_refer_1 _ (gp_16 (gp_4 (gp_1 (gp_1 gp_h))))) (gp_c (gj_X8_refer_1 _ (gp_16 (gp_4 (gp_1 (gp_1 (gp_1 gp_h)))))) (gp_c (gj_X8_refer_2 _ (gp_h)) (gp_c (gj_X8_refer_2 _ (gp_1 gp_h)) (gp_c (gj_X8_refer_2 _ (gp_1 (gp_1 gp_h))) (gp_c (gj_X8_refer_2 _ (gp_1 (gp_1 (gp_1 gp_h)))) (gp_c (gj_X8_refer_2 _ (gp_4 gp_h)) (gp_n))))))))))))))))))))))))) (gp_c (gj_X8_refer_2 _ (gp_4 (gp_1 gp_h))) (gp_n))) (gj_X8_refer_3)) (gj_X8_refer_4)) (gj_X8_refer_6)) (gj_X8_refer_7))) gb_X8_changeValue
set_option maxRecDepth 20000 in
theorem gX8_refer_X8_changeValue : GoodIn wsX8_refer (wsV RX8 146 RX8 yX8_changeValue wsX8_changeValue) := goodIn_app (gp_s (gp_c (gj_X8_refer_1 _ (gp_1 gp_h)) (gp_c (gj_X8_refer_1 _ (gp_1 (gp_1 gp_h))) (gp_c (gj_X8_refer_1 _ (gp_1 (gp_1 (gp_1 gp_h)))) (gp_c (gj_X8_refer_0 _ (gp_4 (gp_1 (gp_1 gp_h)))) (gp_n))))) (gp_v)) ggX8_refer_X8_changeValue
noncomputable def nX8_refer : Nat := 0xac9200b6851d1c04192aac8b00b80708009f052e1c8700b46100b40419ac0205009a4a00b85e00b42a1d10009f021d1300c60419043a8300b61c1b2a
theorem bX8_refer : Bts cX8_refer nX8_refer 60 := by unfold Bts; decide +kernel
theorem dX8_refer_0 : decode cX8_refer 0 = .ok (.aload_n 0, 1) := dz_42 (b_1 bX8_refer (by decide +kernel))
theorem dX8_refer_1 : decode cX8_refer 1 = .ok (.iload_n 1, 1) := dz_27 (b_1 bX8_refer (by decide +kernel))
theorem dX8_refer_2 : decode cX8_refer 2 = .ok (.iload_n 2, 1) := dz_28 (b_1 bX8_refer (by decide +kernel))
theorem dX8_refer_3 : decode cX8_refer 3 = .ok (.invokevirtual 131, 3) := dz_182 (b_3 (a := 0) (b := 131) bX8_refer (by decide +kernel))
theorem dX8_refer_6 : decode cX8_refer 6 = .ok (.astore 4, 2) := dz_58 (b_2 (a := 4) bX8_refer (by decide +kernel))
theorem dX8_refer_8 : decode cX8_refer 8 = .ok (.aload 4, 2) := dz_25 (b_2 (a := 4) bX8_refer (by decide +kernel))
theorem dX8_refer_10 : decode cX8_refer 10 = .ok (.ifnull 19, 3) := dz_198 (b_3 (a := 0) (b := 19) bX8_refer (by decide +kernel)) (by decide +kernel)
theorem dX8_refer_13 : decode cX8_refer 13 = .ok (.iload_n 3, 1) := dz_29 (b_1 bX8_refer (by decide +kernel))
theorem dX8_refer_14 : decode cX8_refer 14 = .ok (.iconst (-1), 1) := dz_2 (b_1 bX8_refer (by decide +kernel))
theorem dX8_refer_15 : decode cX8_refer 15 = .ok (.if_icmp .eq 16, 3) := dz_159 (b_3 (a := 0) (b := 16) bX8_refer (by decide +kernel)) (by decide +kernel)
theorem dX8_refer_18 : decode cX8_refer 18 = .ok (.iload_n 3, 1) := dz_29 (b_1 bX8_refer (by decide +kernel))
theorem dX8_refer_19 : decode cX8_refer 19 = .ok (.aload_n 0, 1) := dz_42 (b_1 bX8_refer (by decide +kernel))
theorem dX8_refer_20 : decode cX8_refer 20 = .ok (.getfield 94, 3) := dz_180 (b_3 (a := 0) (b := 94) bX8_refer (by decide +kernel))
theorem dX8_refer_23 : decode cX8_refer 23 = .ok (.invokestatic 74, 3) := dz_184 (b_3 (a := 0) (b := 74) bX8_refer (by decide +kernel))
theorem dX8_refer_26 : decode cX8_refer 26 = .ok (.ifCond .ne 5, 3) := dz_154 (b_3 (a := 0) (b := 5) bX8_refer (by decide +kernel)) (by decide +kernel)
theorem dX8_refer_29 : decode cX8_refer 29 = .ok (.iconst (-1), 1) := dz_2 (b_1 bX8_refer (by decide +kernel))
theorem dX8_refer_30 : decode cX8_refer 30 = .ok (.ireturn, 1) := dz_172 (b_1 bX8_refer (by decide +kernel))
theorem dX8_refer_31 : decode cX8_refer 31 = .ok (.aload 4, 2) := dz_25 (b_2 (a := 4) bX8_refer (by decide +kernel))
theorem dX8_refer_33 : decode cX8_refer 33 = .ok (.getfield 97, 3) := dz_180 (b_3 (a := 0) (b := 97) bX8_refer (by decide +kernel))
theorem dX8_refer_36 : decode cX8_refer 36 = .ok (.getfield 135, 3) := dz_180 (b_3 (a := 0) (b := 135) bX8_refer (by decide +kernel))
theorem dX8_refer_39 : decode cX8_refer 39 = .ok (.iload_n 2, 1) := dz_28 (b_1 bX8_refer (by decide +kernel))
theorem dX8_refer_40 : decode cX8_refer 40 = .ok (.iaload, 1) := dz_46 (b_1 bX8_refer (by decide +kernel))
theorem dX8_refer_41 : decode cX8_refer 41 = .ok (.iconst 2, 1) := dz_5 (b_1 bX8_refer (by decide +kernel))
theorem dX8_refer_42 : decode cX8_refer 42 = .ok (.if_icmp .eq 8, 3) := dz_159 (b_3 (a := 0) (b := 8) bX8_refer (by decide +kernel)) (by decide +kernel)
theorem dX8_refer_45 : decode cX8_refer 45 = .ok (.iconst 4, 1) := dz_7 (b_1 bX8_refer (by decide +kernel))
theorem dX8_refer_46 : decode cX8_refer 46 = .ok (.invokestatic 139, 3) := dz_184 (b_3 (a := 0) (b := 139) bX8_refer (by decide +kernel))
theorem dX8_refer_49 : decode cX8_refer 49 = .ok (.ireturn, 1) := dz_172 (b_1 bX8_refer (by decide +kernel))
theorem dX8_refer_50 : decode cX8_refer 50 = .ok (.aload_n 0, 1) := dz_42 (b_1 bX8_refer (by decide +kernel))
theorem dX8_refer_51 : decode cX8_refer 51 = .ok (.aload 4, 2) := dz_25 (b_2 (a := 4) bX8_refer (by decide +kernel))
theorem dX8_refer_53 : decode cX8_refer 53 = .ok (.iload_n 2, 1) := dz_28 (b_1 bX8_refer (by decide +kernel))
theorem dX8_refer_54 : decode cX8_refer 54 = .ok (.iload_n 3, 1) := dz_29 (b_1 bX8_refer (by decide +kernel))
theorem dX8_refer_55 : decode cX8_refer 55 = .ok (.i2l, 1) := dz_133 (b_1 bX8_refer (by decide +kernel))
theorem dX8_refer_56 : decode cX8_refer 56 = .ok (.invokevirtual 146, 3) := dz_182 (b_3 (a := 0) (b := 146) bX8_refer (by decide +kernel))
theorem dX8_refer_59 : decode cX8_refer 59 = .ok (.ireturn, 1) := dz_172 (b_1 bX8_refer (by decide +kernel))
theorem gj_X8_row_0 : GpS (wsX8_row_r1) wsX8_row := fun w h => List.mem_cons_of_mem _ (List.mem_append_left _ (List.mem_append_left _ (List.mem_append_left _ (List.mem_append_left _ (List.mem_append_left _ (List.mem_append_left _ (List.mem_append_left _ (h))))))))
theorem gj_X8_row_3 : GpS (wsX60) wsX8_row := fun w h => List.mem_cons_of_mem _ (List.mem_append_left _ (List.mem_append_left _ (List.mem_append_left _ (List.mem_append_left _ (List.mem_append_left _ (List.mem_append_right _ (h)))))))
theorem gj_X8_row_4 : GpS (wsX70) wsX8_row := fun w h => List.mem_cons_of_mem _ (List.mem_append_left _ (List.mem_append_left _ (List.mem_append_left _ (List.mem_append_left _ (List.mem_append_right _ (h))))))
theorem gj_X8_row_6 : GpS (wsX80) wsX8_row := fun w h => List.mem_cons_of_mem _ (List.mem_append_left _ (List.mem_append_left _ (List.mem_append_right _ (h))))
set_option maxRecDepth 20000 in
theorem ggX8_row_X8_thingWithField : GoodIn wsX8_row wsX8_thingWithField := gp_s (gp_c (gj_X8_row_0 _ (gp_4 (gp_4 (gp_1 gp_h)))) (gp_a (gp_a (gp_a (gp_c (gj_X8_row_0 _ (gp_h)) (gp_c (gj_X8_row_0 _ (gp_4 (gp_4 (gp_1 (gp_1 gp_h))))) (gp_c (gj_X8_row_0 _ (gp_4 (gp_4 (gp_1 (gp_1 (gp_1 gp_h)))))) (gp_c (gj_X8_row_0 _ (gp_4 (gp_4 (gp_4 gp_h)))) (gp_c (gj_X8_row_0 _ (gp_4 (gp_4 gp_h))) (gp_c (gj_X8_row_0 _ (gp_4 (gp_4 (gp_4 (gp_1 gp_h))))) (gp_c (gj_X8_row_0 _ (gp_4 (gp_4 (gp_4 (gp_1 (gp_1 gp_h)))))) (gp_c (gj_X8_row_0 _ (gp_4 (gp_4 (gp_4 (gp_1 (gp_1 (gp_1 gp_h))))))) (gp_c (gj_X8_row_0 _ (gp_16 gp_h)) (gp_c (gj_X8_row_0 _ (gp_16 (gp_1 gp_h))) (gp_c (gj_X8_row_0 _ (gp_16 (gp_1 (gp_1 gp_h)))) (gp_c (gj_X8_row_0 _ (gp_16 (gp_1 (gp_1 (gp_1 gp_h))))) (gp_c (gj_X8_row_0 _ (gp_16 (gp_4 gp_h))) (gp_c (gj_X8_row_0 _ (gp_16 (gp_4 (gp_1 gp_h)))) (gp_c (gj_X8_row_0 _ (gp_16 (gp_4 (gp_1 (gp_1 gp_h))))) (gp_c (gj_X8_row_0 _ (gp_16 (gp_4 (gp_1 (gp_1 (gp_1 gp_h)))))) (gp_n))))))))))))))))) (gj_X8_row_3)) (gj_X8_row_6)) (gj_X8_row_4))) gb_X8_thingWithField
set_option maxRecDepth 20000 in
theorem gX8_row_X8_thingWithField : GoodIn wsX8_row (wsV RX8 131 RX8 yX8_thingWithField wsX8_thingWithField) := goodIn_app (gp_s (gp_c (gj_X8_row_0 _ (gp_4 (gp_1 gp_h))) (gp_c (gj_X8_row_0 _ (gp_4 (gp_1 (gp_1 gp_h)))) (gp_c (gj_X8_row_0 _ (gp_4 (gp_1 (gp_1 (gp_1 gp_h))))) (gp_c (gj_X8_row_0 _ (gp_4 (gp_4 gp_h))) (gp_n))))) (gp_v)) ggX8_row_X8_thingWithField
theorem gj_X8_row_1 : GpS (wsX8_row_r2) wsX8_row := fun w h => List.mem_cons_of_mem _ (List.mem_append_left _ (List.mem_append_left _ (List.mem_append_left _ (List.mem_append_left _ (List.mem_append_left _ (List.mem_append_left _ (List.mem_append_right _ (List.mem_append_left _ (h)))))))))
set_option maxRecDepth 20000 in
theorem ggX8_row_X8_isRowLane : GoodIn wsX8_row wsX8_isRowLane := gp_s (gp_c (gj_X8_row_1 _ (gp_1 (gp_1 gp_h))) (gp_n)) gb_X8_isRowLane
set_option maxRecDepth 20000 in
theorem gX8_row_X8_isRowLane : GoodIn wsX8_row (va_wsS RX8 150 yX8_isRowLane wsX8_isRowLane) := goodIn_app (gp_s (gp_c (gj_X8_row_1 _ (gp_h)) (gp_c (gj_X8_row_1 _ (gp_1 gp_h)) (gp_c (gj_X8_row_0 _ (gp_4 (gp_4 gp_h))) (gp_n)))) (gp_t)) ggX8_row_X8_isRowLane
set_option maxRecDepth 20000 in
theorem ggX8_row_X8_failed : GoodIn wsX8_row wsX8_failed := gp_s (gp_c (gj_X8_row_1 _ (gp_4 (gp_1 gp_h))) (gp_n)) gb_X8_failed
set_option maxRecDepth 20000 in
theorem gX8_row_X8_failed : GoodIn wsX8_row (va_wsS RX8 139 yX8_failed wsX8_failed) := goodIn_app (gp_s (gp_c (gj_X8_row_1 _ (gp_1 (gp_1 (gp_1 gp_h)))) (gp_c (gj_X8_row_1 _ (gp_4 gp_h)) (gp_c (gj_X8_row_0 _ (gp_4 (gp_4 gp_h))) (gp_n)))) (gp_t)) ggX8_row_X8_failed
theorem gj_X8_row_5 : GpS (wsX50) wsX8_row := fun w h => List.mem_cons_of_mem _ (List.mem_append_left _ (List.mem_append_left _ (List.mem_append_left _ (List.mem_append_right _ (h)))))
set_option maxRecDepth 20000 in
theorem ggX8_row_X5_init : GoodIn wsX8_row wsX5_init := gp_s (gp_c (gj_X8_row_1 _ (gp_4 (gp_4 gp_h))) (gp_a (gp_c (gj_X8_row_1 _ (gp_4 (gp_4 (gp_1 gp_h)))) (gp_c (gj_X8_row_1 _ (gp_4 (gp_4 (gp_1 (gp_1 gp_h))))) (gp_c (gj_X8_row_1 _ (gp_4 (gp_4 (gp_1 (gp_1 (gp_1 gp_h)))))) (gp_c (gj_X8_row_1 _ (gp_4 (gp_4 (gp_4 gp_h)))) (gp_c (gj_X8_row_1 _ (gp_4 (gp_4 (gp_4 (gp_1 gp_h))))) (gp_n)))))) (gj_X8_row_5))) gb_X5_init
set_option maxRecDepth 20000 in
theorem gX8_row_X5_init : GoodIn wsX8_row (wsX5_init) := ggX8_row_X5_init
theorem gb_X8_changeRow : wsX8_changeRow.all goodWord = true := by decide +kernel
theorem gj_X8_row_2 : GpS (wsX8_row_r3) wsX8_row := fun w h => List.mem_cons_of_mem _ (List.mem_append_left _ (List.mem_append_left _ (List.mem_append_left _ (List.mem_append_left _ (List.mem_append_left _ (List.mem_append_left _ (List.mem_append_right _ (List.mem_append_right _ (h)))))))))
theorem gj_X8_row_7 : GpS (wsX20) wsX8_row := fun w h => List.mem_cons_of_mem _ (List.mem_append_left _ (List.mem_append_right _ (h)))
theorem gj_X8_row_8 : GpS (wsX30) wsX8_row := fun w h => List.mem_cons_of_mem _ (List.mem_append_right _ (h))
set_option maxRecDepth 20000 in
theorem ggX8_row_X8_changeRow : GoodIn wsX8_row wsX8_changeRow := gp_s (gp_c (gj_X8_row_1 _ (gp_16 (gp_1 gp_h))) (gp_a (gp_a (gp_a (gp_a (gp_a (gp_c (gj_X8_row_1 _ (gp_16 (gp_1 (gp_1 gp_h)))) (gp_c (gj_X8_row_1 _ (gp_16 (gp_1 (gp_1 (gp_1 gp_h))))) (gp_c (gj_X8_row_1 _ (gp_16 (gp_4 gp_h))) (gp_c (gj_X8_row_1 _ (gp_16 (gp_4 (gp_1 gp_h)))) (gp_c (gj_X8_row_1 _ (gp_16 (gp_4 (gp_1 (gp_1 gp_h))))) (gp_c (gj_X8_row_1 _ (gp_16 (gp_4 (gp_1 (gp_1 (gp_1 gp_h)))))) (gp_c (gj_X8_row_2 _ (gp_h)) (gp_c (gj_X8_row_2 _ (gp_1 gp_h)) (gp_c (gj_X8_row_2 _ (gp_1 (gp_1 gp_h))) (gp_c (gj_X8_row_2 _ (gp_1 (gp_1 (gp_1 gp_h)))) (gp_c (gj_X8_row_2 _ (gp_4 gp_h)) (gp_c (gj_X8_row_2 _ (gp_4 (gp_1 gp_h))) (gp_c (gj_X8_row_2 _ (gp_4 (gp_1 (gp_1 gp_h)))) (gp_c (gj_X8_row_2 _ (gp_4 (gp_1 (gp_1 (gp_1 gp_h))))) (gp_c (gj_X8_row_2 _ (gp_4 (gp_4 gp_h))) (gp_c (gj_X8_row_2 _ (gp_4 (gp_4 (gp_1 gp_h)))) (gp_c (gj_X8_row_2 _ (gp_4 (gp_4 (gp_1 (gp_1 gp_h))))) (gp_c (gj_X8_row_2 _ (gp_4 (gp_4 (gp_1 (gp_1 (gp_1 gp_h)))))) (gp_c (gj_X8_row_2 _ (gp_4 (gp_4 (gp_4 gp_h)))) (gp_c (gj_X8_row_2 _ (gp_4 (gp_4 (gp_4 (gp_1 gp_h))))) (gp_c (gj_X8_row_2 _ (gp_4 (gp_4 (gp_4 (gp_1 (gp_1 gp_h)))))) (gp_c (gj_X8_row_2 _ (gp_4 (gp_4 (gp_4 (gp_1 (gp_1 (gp_1 gp_h))))))) (gp_c (gj_X8_row_2 _ (gp_16 gp_h)) (gp_c (gj_X8_row_2 _ (gp_16 (gp_1 gp_h))) (gp_n))))))))))))))))))))))))) (gp_c (gj_X8_row_2 _ (gp_16 (gp_1 (gp_1 gp_h)))) (gp_n))) (gj_X8_row_6)) (gj_X8_row_3)) (gj_X8_row_7)) (gj_X8_row_8))) gb_X8_changeRow
set_option maxRecDepth 20000 in
theorem gX8_row_X8_changeRow : GoodIn wsX8_row (wsV RX8 154 RX8 yX8_changeRow wsX8_changeRow) := goodIn_app (gp_s (gp_c (gj_X8_row_1 _ (gp_4 (gp_4 (gp_4 (gp_1 (gp_1 gp_h)))))) (gp_c (gj_X8_row_1 _ (gp_4 (gp_4 (gp_4 (gp_1 (gp_1 (gp_1 gp_h))))))) (gp_c (gj_X8_row_1 _ (gp_16 gp_h)) (gp_c (gj_X8_row_0 _ (gp_4 (gp_4 gp_h))) (gp_n))))) (gp_v)) ggX8_row_X8_changeRow
noncomputable def nX8_row : Nat := 0xac9a00b69900b71d592a00bb0b00a7010700a0021d1c04192aac8b00b8060800a2021dac8b00b80708009a9600b82e1c8700b46100b40419acfe100600a40c101dac020500c70419043a8300b61c1b2a
theorem bX8_row : Bts cX8_row nX8_row 80 := by unfold Bts; decide +kernel
theorem dX8_row_0 : decode cX8_row 0 = .ok (.aload_n 0, 1) := dz_42 (b_1 bX8_row (by decide +kernel))
theorem dX8_row_1 : decode cX8_row 1 = .ok (.iload_n 1, 1) := dz_27 (b_1 bX8_row (by decide +kernel))
theorem dX8_row_2 : decode cX8_row 2 = .ok (.iload_n 2, 1) := dz_28 (b_1 bX8_row (by decide +kernel))
theorem dX8_row_3 : decode cX8_row 3 = .ok (.invokevirtual 131, 3) := dz_182 (b_3 (a := 0) (b := 131) bX8_row (by decide +kernel))
theorem dX8_row_6 : decode cX8_row 6 = .ok (.astore 4, 2) := dz_58 (b_2 (a := 4) bX8_row (by decide +kernel))
theorem dX8_row_8 : decode cX8_row 8 = .ok (.aload 4, 2) := dz_25 (b_2 (a := 4) bX8_row (by decide +kernel))
theorem dX8_row_10 : decode cX8_row 10 = .ok (.ifnonnull 5, 3) := dz_199 (b_3 (a := 0) (b := 5) bX8_row (by decide +kernel)) (by decide +kernel)
theorem dX8_row_13 : decode cX8_row 13 = .ok (.iconst (-1), 1) := dz_2 (b_1 bX8_row (by decide +kernel))
theorem dX8_row_14 : decode cX8_row 14 = .ok (.ireturn, 1) := dz_172 (b_1 bX8_row (by decide +kernel))
theorem dX8_row_15 : decode cX8_row 15 = .ok (.iload_n 3, 1) := dz_29 (b_1 bX8_row (by decide +kernel))
theorem dX8_row_16 : decode cX8_row 16 = .ok (.bipush 12, 2) := dz_16 (b_2 (a := 12) bX8_row (by decide +kernel)) (by decide +kernel)
theorem dX8_row_18 : decode cX8_row 18 = .ok (.if_icmp .le 6, 3) := dz_164 (b_3 (a := 0) (b := 6) bX8_row (by decide +kernel)) (by decide +kernel)
theorem dX8_row_21 : decode cX8_row 21 = .ok (.bipush (-2), 2) := dz_16 (b_2 (a := 254) bX8_row (by decide +kernel)) (by decide +kernel)
theorem dX8_row_23 : decode cX8_row 23 = .ok (.ireturn, 1) := dz_172 (b_1 bX8_row (by decide +kernel))
theorem dX8_row_24 : decode cX8_row 24 = .ok (.aload 4, 2) := dz_25 (b_2 (a := 4) bX8_row (by decide +kernel))
theorem dX8_row_26 : decode cX8_row 26 = .ok (.getfield 97, 3) := dz_180 (b_3 (a := 0) (b := 97) bX8_row (by decide +kernel))
theorem dX8_row_29 : decode cX8_row 29 = .ok (.getfield 135, 3) := dz_180 (b_3 (a := 0) (b := 135) bX8_row (by decide +kernel))
theorem dX8_row_32 : decode cX8_row 32 = .ok (.iload_n 2, 1) := dz_28 (b_1 bX8_row (by decide +kernel))
theorem dX8_row_33 : decode cX8_row 33 = .ok (.iaload, 1) := dz_46 (b_1 bX8_row (by decide +kernel))
theorem dX8_row_34 : decode cX8_row 34 = .ok (.invokestatic 150, 3) := dz_184 (b_3 (a := 0) (b := 150) bX8_row (by decide +kernel))
theorem dX8_row_37 : decode cX8_row 37 = .ok (.ifCond .ne 8, 3) := dz_154 (b_3 (a := 0) (b := 8) bX8_row (by decide +kernel)) (by decide +kernel)
theorem dX8_row_40 : decode cX8_row 40 = .ok (.iconst 4, 1) := dz_7 (b_1 bX8_row (by decide +kernel))
theorem dX8_row_41 : decode cX8_row 41 = .ok (.invokestatic 139, 3) := dz_184 (b_3 (a := 0) (b := 139) bX8_row (by decide +kernel))
theorem dX8_row_44 : decode cX8_row 44 = .ok (.ireturn, 1) := dz_172 (b_1 bX8_row (by decide +kernel))
theorem dX8_row_45 : decode cX8_row 45 = .ok (.iload_n 3, 1) := dz_29 (b_1 bX8_row (by decide +kernel))
theorem dX8_row_46 : decode cX8_row 46 = .ok (.iconst (-1), 1) := dz_2 (b_1 bX8_row (by decide +kernel))
theorem dX8_row_47 : decode cX8_row 47 = .ok (.if_icmp .ge 8, 3) := dz_162 (b_3 (a := 0) (b := 8) bX8_row (by decide +kernel)) (by decide +kernel)
theorem dX8_row_50 : decode cX8_row 50 = .ok (.iconst 3, 1) := dz_6 (b_1 bX8_row (by decide +kernel))
theorem dX8_row_51 : decode cX8_row 51 = .ok (.invokestatic 139, 3) := dz_184 (b_3 (a := 0) (b := 139) bX8_row (by decide +kernel))
theorem dX8_row_54 : decode cX8_row 54 = .ok (.ireturn, 1) := dz_172 (b_1 bX8_row (by decide +kernel))
theorem dX8_row_55 : decode cX8_row 55 = .ok (.aload_n 0, 1) := dz_42 (b_1 bX8_row (by decide +kernel))
theorem dX8_row_56 : decode cX8_row 56 = .ok (.aload 4, 2) := dz_25 (b_2 (a := 4) bX8_row (by decide +kernel))
theorem dX8_row_58 : decode cX8_row 58 = .ok (.iload_n 2, 1) := dz_28 (b_1 bX8_row (by decide +kernel))
theorem dX8_row_59 : decode cX8_row 59 = .ok (.iload_n 3, 1) := dz_29 (b_1 bX8_row (by decide +kernel))
theorem dX8_row_60 : decode cX8_row 60 = .ok (.iconst (-1), 1) := dz_2 (b_1 bX8_row (by decide +kernel))
theorem dX8_row_61 : decode cX8_row 61 = .ok (.if_icmp .ne 7, 3) := dz_160 (b_3 (a := 0) (b := 7) bX8_row (by decide +kernel)) (by decide +kernel)
theorem dX8_row_64 : decode cX8_row 64 = .ok (.aconst_null, 1) := dz_1 (b_1 bX8_row (by decide +kernel))
theorem dX8_row_65 : decode cX8_row 65 = .ok (.goto 11, 3) := dz_167 (b_3 (a := 0) (b := 11) bX8_row (by decide +kernel)) (by decide +kernel)
theorem dX8_row_68 : decode cX8_row 68 = .ok (.new 42, 3) := dz_187 (b_3 (a := 0) (b := 42) bX8_row (by decide +kernel))
theorem dX8_row_71 : decode cX8_row 71 = .ok (.dup, 1) := dz_89 (b_1 bX8_row (by decide +kernel))
theorem dX8_row_72 : decode cX8_row 72 = .ok (.iload_n 3, 1) := dz_29 (b_1 bX8_row (by decide +kernel))
theorem dX8_row_73 : decode cX8_row 73 = .ok (.invokespecial 153, 3) := dz_183 (b_3 (a := 0) (b := 153) bX8_row (by decide +kernel))
theorem dX8_row_76 : decode cX8_row 76 = .ok (.invokevirtual 154, 3) := dz_182 (b_3 (a := 0) (b := 154) bX8_row (by decide +kernel))
theorem dX8_row_79 : decode cX8_row 79 = .ok (.ireturn, 1) := dz_172 (b_1 bX8_row (by decide +kernel))
theorem gj_X8_share_0 : GpS (wsX8_share_r1) wsX8_share := fun w h => List.mem_cons_of_mem _ (List.mem_append_left _ (List.mem_append_left _ (List.mem_append_left _ (List.mem_append_left _ (List.mem_append_left _ (List.mem_append_left _ (h)))))))
theorem gj_X8_share_3 : GpS (wsX60) wsX8_share := fun w h => List.mem_cons_of_mem _ (List.mem_append_left _ (List.mem_append_left _ (List.mem_append_left _ (List.mem_append_left _ (List.mem_append_right _ (h))))))
theorem gj_X8_share_4 : GpS (wsX70) wsX8_share := fun w h => List.mem_cons_of_mem _ (List.mem_append_left _ (List.mem_append_left _ (List.mem_append_left _ (List.mem_append_right _ (h)))))
theorem gj_X8_share_5 : GpS (wsX80) wsX8_share := fun w h => List.mem_cons_of_mem _ (List.mem_append_left _ (List.mem_append_left _ (List.mem_append_right _ (h))))
set_option maxRecDepth 20000 in
theorem ggX8_share_X8_thingWithField : GoodIn wsX8_share wsX8_thingWithField := gp_s (gp_c (gj_X8_share_0 _ (gp_4 (gp_1 (gp_1 (gp_1 gp_h))))) (gp_a (gp_a (gp_a (gp_c (gj_X8_share_0 _ (gp_h)) (gp_c (gj_X8_share_0 _ (gp_4 (gp_4 gp_h))) (gp_c (gj_X8_share_0 _ (gp_4 (gp_4 (gp_1 gp_h)))) (gp_c (gj_X8_share_0 _ (gp_4 (gp_4 (gp_1 (gp_1 gp_h))))) (gp_c (gj_X8_share_0 _ (gp_4 (gp_1 (gp_1 gp_h)))) (gp_c (gj_X8_share_0 _ (gp_4 (gp_4 (gp_1 (gp_1 (gp_1 gp_h)))))) (gp_c (gj_X8_share_0 _ (gp_4 (gp_4 (gp_4 gp_h)))) (gp_c (gj_X8_share_0 _ (gp_4 (gp_4 (gp_4 (gp_1 gp_h))))) (gp_c (gj_X8_share_0 _ (gp_4 (gp_4 (gp_4 (gp_1 (gp_1 gp_h)))))) (gp_c (gj_X8_share_0 _ (gp_4 (gp_4 (gp_4 (gp_1 (gp_1 (gp_1 gp_h))))))) (gp_c (gj_X8_share_0 _ (gp_16 gp_h)) (gp_c (gj_X8_share_0 _ (gp_16 (gp_1 gp_h))) (gp_c (gj_X8_share_0 _ (gp_16 (gp_1 (gp_1 gp_h)))) (gp_c (gj_X8_share_0 _ (gp_16 (gp_1 (gp_1 (gp_1 gp_h))))) (gp_c (gj_X8_share_0 _ (gp_16 (gp_4 gp_h))) (gp_c (gj_X8_share_0 _ (gp_16 (gp_4 (gp_1 gp_h)))) (gp_n))))))))))))))))) (gj_X8_share_3)) (gj_X8_share_5)) (gj_X8_share_4))) gb_X8_thingWithField
set_option maxRecDepth 20000 in
theorem gX8_share_X8_thingWithField : GoodIn wsX8_share (wsV RX8 131 RX8 yX8_thingWithField wsX8_thingWithField) := goodIn_app (gp_s (gp_c (gj_X8_share_0 _ (gp_1 (gp_1 (gp_1 gp_h)))) (gp_c (gj_X8_share_0 _ (gp_4 gp_h)) (gp_c (gj_X8_share_0 _ (gp_4 (gp_1 gp_h))) (gp_c (gj_X8_share_0 _ (gp_4 (gp_1 (gp_1 gp_h)))) (gp_n))))) (gp_v)) ggX8_share_X8_thingWithField
theorem gj_X8_share_1 : GpS (wsX8_share_r2) wsX8_share := fun w h => List.mem_cons_of_mem _ (List.mem_append_left _ (List.mem_append_left _ (List.mem_append_left _ (List.mem_append_left _ (List.mem_append_left _ (List.mem_append_right _ (List.mem_append_left _ (h))))))))
set_option maxRecDepth 20000 in
theorem ggX8_share_X8_isRowLane : GoodIn wsX8_share wsX8_isRowLane := gp_s (gp_c (gj_X8_share_1 _ (gp_h)) (gp_n)) gb_X8_isRowLane
set_option maxRecDepth 20000 in
theorem gX8_share_X8_isRowLane : GoodIn wsX8_share (va_wsS RX8 150 yX8_isRowLane wsX8_isRowLane) := goodIn_app (gp_s (gp_c (gj_X8_share_0 _ (gp_16 (gp_4 (gp_1 (gp_1 gp_h))))) (gp_c (gj_X8_share_0 _ (gp_16 (gp_4 (gp_1 (gp_1 (gp_1 gp_h)))))) (gp_c (gj_X8_share_0 _ (gp_4 (gp_1 (gp_1 gp_h)))) (gp_n)))) (gp_t)) ggX8_share_X8_isRowLane
set_option maxRecDepth 20000 in
theorem ggX8_share_X8_failed : GoodIn wsX8_share wsX8_failed := gp_s (gp_c (gj_X8_share_1 _ (gp_1 (gp_1 (gp_1 gp_h)))) (gp_n)) gb_X8_failed
set_option maxRecDepth 20000 in
theorem gX8_share_X8_failed : GoodIn wsX8_share (va_wsS RX8 139 yX8_failed wsX8_failed) := goodIn_app (gp_s (gp_c (gj_X8_share_1 _ (gp_1 gp_h)) (gp_c (gj_X8_share_1 _ (gp_1 (gp_1 gp_h))) (gp_c (gj_X8_share_0 _ (gp_4 (gp_1 (gp_1 gp_h)))) (gp_n)))) (gp_t)) ggX8_share_X8_failed
theorem gj_X8_share_2 : GpS (wsX8_share_r3) wsX8_share := fun w h => List.mem_cons_of_mem _ (List.mem_append_left _ (List.mem_append_left _ (List.mem_append_left _ (List.mem_append_left _ (List.mem_append_left _ (List.mem_append_right _ (List.mem_append_right _ (h))))))))
theorem gj_X8_share_6 : GpS (wsX20) wsX8_share := fun w h => List.mem_cons_of_mem _ (List.mem_append_left _ (List.mem_append_right _ (h)))
theorem gj_X8_share_7 : GpS (wsX30) wsX8_share := fun w h => List.mem_cons_of_mem _ (List.mem_append_right _ (h))
set_option maxRecDepth 20000 in
theorem ggX8_share_X8_changeRow : GoodIn wsX8_share wsX8_changeRow := gp_s (gp_c (gj_X8_share_1 _ (gp_4 (gp_1 (gp_1 (gp_1 gp_h))))) (gp_a (gp_a (gp_a (gp_a (gp_a (gp_c (gj_X8_share_1 _ (gp_4 (gp_4 gp_h))) (gp_c (gj_X8_share_0 _ (gp_1 (gp_1 gp_h))) (gp_c (gj_X8_share_1 _ (gp_4 (gp_4 (gp_1 gp_h)))) (gp_c (gj_X8_share_1 _ (gp_4 (gp_4 (gp_1 (gp_1 gp_h))))) (gp_c (gj_X8_share_1 _ (gp_4 (gp_4 (gp_1 (gp_1 (gp_1 gp_h)))))) (gp_c (gj_X8_share_1 _ (gp_4 (gp_4 (gp_4 gp_h)))) (gp_c (gj_X8_share_1 _ (gp_4 (gp_4 (gp_4 (gp_1 gp_h))))) (gp_c (gj_X8_share_1 _ (gp_4 (gp_4 (gp_4 (gp_1 (gp_1 gp_h)))))) (gp_c (gj_X8_share_1 _ (gp_4 (gp_4 (gp_4 (gp_1 (gp_1 (gp_1 gp_h))))))) (gp_c (gj_X8_share_1 _ (gp_16 gp_h)) (gp_c (gj_X8_share_1 _ (gp_16 (gp_1 gp_h))) (gp_c (gj_X8_share_1 _ (gp_16 (gp_1 (gp_1 gp_h)))) (gp_c (gj_X8_share_1 _ (gp_16 (gp_1 (gp_1 (gp_1 gp_h))))) (gp_c (gj_X8_share_1 _ (gp_16 (gp_4 gp_h))) (gp_c (gj_X8_share_1 _ (gp_16 (gp_4 (gp_1 gp_h)))) (gp_c (gj_X8_share_1 _ (gp_16 (gp_4 (gp_1 (gp_1 gp_h))))) (gp_c (gj_X8_share_1 _ (gp_16 (gp_4 (gp_1 (gp_1 (gp_1 gp_h)))))) (gp_c (gj_X8_share_2 _ (gp_h)) (gp_c (gj_X8_share_2 _ (gp_1 gp_h)) (gp_c (gj_X8_share_2 _ (gp_1 (gp_1 gp_h))) (gp_c (gj_X8_share_2 _ (gp_1 (gp_1 (gp_1 gp_h)))) (gp_c (gj_X8_share_2 _ (gp_4 gp_h)) (gp_c (gj_X8_share_2 _ (gp_4 (gp_1 gp_h))) (gp_c (gj_X8_share_2 _ (gp_4 (gp_1 (gp_1 gp_h)))) (gp_n))))))))))))))))))))))))) (gp_c (gj_X8_share_2 _ (gp_4 (gp_1 (gp_1 (gp_1 gp_h))))) (gp_n))) (gj_X8_share_5)) (gj_X8_share_3)) (gj_X8_share_6)) (gj_X8_share_7))) gb_X8_changeRow
set_option maxRecDepth 20000 in
theorem gX8_share_X8_changeRow : GoodIn wsX8_share (wsV RX8 154 RX8 yX8_changeRow wsX8_changeRow) := goodIn_app (gp_s (gp_c (gj_X8_share_1 _ (gp_4 gp_h)) (gp_c (gj_X8_share_1 _ (gp_4 (gp_1 gp_h))) (gp_c (gj_X8_share_1 _ (gp_4 (gp_1 (gp_1 gp_h)))) (gp_c (gj_X8_share_0 _ (gp_4 (gp_1 (gp_1 gp_h)))) (gp_n))))) (gp_v)) ggX8_share_X8_changeRow
noncomputable def nX8_share : Nat := 0xac9a00b63204159e00b406191c05192aac8b00b80708009f07152e04158700b46100b406191300999600b8071507362e1c8700b46100b40519ac020500c706190800c60519063a8300b604151d2a053a8300b61c1b2a
theorem bX8_share : Bts cX8_share nX8_share 86 := by unfold Bts; decide +kernel
theorem dX8_share_0 : decode cX8_share 0 = .ok (.aload_n 0, 1) := dz_42 (b_1 bX8_share (by decide +kernel))
theorem dX8_share_1 : decode cX8_share 1 = .ok (.iload_n 1, 1) := dz_27 (b_1 bX8_share (by decide +kernel))
theorem dX8_share_2 : decode cX8_share 2 = .ok (.iload_n 2, 1) := dz_28 (b_1 bX8_share (by decide +kernel))
theorem dX8_share_3 : decode cX8_share 3 = .ok (.invokevirtual 131, 3) := dz_182 (b_3 (a := 0) (b := 131) bX8_share (by decide +kernel))
theorem dX8_share_6 : decode cX8_share 6 = .ok (.astore 5, 2) := dz_58 (b_2 (a := 5) bX8_share (by decide +kernel))
theorem dX8_share_8 : decode cX8_share 8 = .ok (.aload_n 0, 1) := dz_42 (b_1 bX8_share (by decide +kernel))
theorem dX8_share_9 : decode cX8_share 9 = .ok (.iload_n 3, 1) := dz_29 (b_1 bX8_share (by decide +kernel))
theorem dX8_share_10 : decode cX8_share 10 = .ok (.iload 4, 2) := dz_21 (b_2 (a := 4) bX8_share (by decide +kernel))
theorem dX8_share_12 : decode cX8_share 12 = .ok (.invokevirtual 131, 3) := dz_182 (b_3 (a := 0) (b := 131) bX8_share (by decide +kernel))
theorem dX8_share_15 : decode cX8_share 15 = .ok (.astore 6, 2) := dz_58 (b_2 (a := 6) bX8_share (by decide +kernel))
theorem dX8_share_17 : decode cX8_share 17 = .ok (.aload 5, 2) := dz_25 (b_2 (a := 5) bX8_share (by decide +kernel))
theorem dX8_share_19 : decode cX8_share 19 = .ok (.ifnull 8, 3) := dz_198 (b_3 (a := 0) (b := 8) bX8_share (by decide +kernel)) (by decide +kernel)
theorem dX8_share_22 : decode cX8_share 22 = .ok (.aload 6, 2) := dz_25 (b_2 (a := 6) bX8_share (by decide +kernel))
theorem dX8_share_24 : decode cX8_share 24 = .ok (.ifnonnull 5, 3) := dz_199 (b_3 (a := 0) (b := 5) bX8_share (by decide +kernel)) (by decide +kernel)
theorem dX8_share_27 : decode cX8_share 27 = .ok (.iconst (-1), 1) := dz_2 (b_1 bX8_share (by decide +kernel))
theorem dX8_share_28 : decode cX8_share 28 = .ok (.ireturn, 1) := dz_172 (b_1 bX8_share (by decide +kernel))
theorem dX8_share_29 : decode cX8_share 29 = .ok (.aload 5, 2) := dz_25 (b_2 (a := 5) bX8_share (by decide +kernel))
theorem dX8_share_31 : decode cX8_share 31 = .ok (.getfield 97, 3) := dz_180 (b_3 (a := 0) (b := 97) bX8_share (by decide +kernel))
theorem dX8_share_34 : decode cX8_share 34 = .ok (.getfield 135, 3) := dz_180 (b_3 (a := 0) (b := 135) bX8_share (by decide +kernel))
theorem dX8_share_37 : decode cX8_share 37 = .ok (.iload_n 2, 1) := dz_28 (b_1 bX8_share (by decide +kernel))
theorem dX8_share_38 : decode cX8_share 38 = .ok (.iaload, 1) := dz_46 (b_1 bX8_share (by decide +kernel))
theorem dX8_share_39 : decode cX8_share 39 = .ok (.istore 7, 2) := dz_54 (b_2 (a := 7) bX8_share (by decide +kernel))
theorem dX8_share_41 : decode cX8_share 41 = .ok (.iload 7, 2) := dz_21 (b_2 (a := 7) bX8_share (by decide +kernel))
theorem dX8_share_43 : decode cX8_share 43 = .ok (.invokestatic 150, 3) := dz_184 (b_3 (a := 0) (b := 150) bX8_share (by decide +kernel))
theorem dX8_share_46 : decode cX8_share 46 = .ok (.ifCond .eq 19, 3) := dz_153 (b_3 (a := 0) (b := 19) bX8_share (by decide +kernel)) (by decide +kernel)
theorem dX8_share_49 : decode cX8_share 49 = .ok (.aload 6, 2) := dz_25 (b_2 (a := 6) bX8_share (by decide +kernel))
theorem dX8_share_51 : decode cX8_share 51 = .ok (.getfield 97, 3) := dz_180 (b_3 (a := 0) (b := 97) bX8_share (by decide +kernel))
theorem dX8_share_54 : decode cX8_share 54 = .ok (.getfield 135, 3) := dz_180 (b_3 (a := 0) (b := 135) bX8_share (by decide +kernel))
theorem dX8_share_57 : decode cX8_share 57 = .ok (.iload 4, 2) := dz_21 (b_2 (a := 4) bX8_share (by decide +kernel))
theorem dX8_share_59 : decode cX8_share 59 = .ok (.iaload, 1) := dz_46 (b_1 bX8_share (by decide +kernel))
theorem dX8_share_60 : decode cX8_share 60 = .ok (.iload 7, 2) := dz_21 (b_2 (a := 7) bX8_share (by decide +kernel))
theorem dX8_share_62 : decode cX8_share 62 = .ok (.if_icmp .eq 8, 3) := dz_159 (b_3 (a := 0) (b := 8) bX8_share (by decide +kernel)) (by decide +kernel)
theorem dX8_share_65 : decode cX8_share 65 = .ok (.iconst 4, 1) := dz_7 (b_1 bX8_share (by decide +kernel))
theorem dX8_share_66 : decode cX8_share 66 = .ok (.invokestatic 139, 3) := dz_184 (b_3 (a := 0) (b := 139) bX8_share (by decide +kernel))
theorem dX8_share_69 : decode cX8_share 69 = .ok (.ireturn, 1) := dz_172 (b_1 bX8_share (by decide +kernel))
theorem dX8_share_70 : decode cX8_share 70 = .ok (.aload_n 0, 1) := dz_42 (b_1 bX8_share (by decide +kernel))
theorem dX8_share_71 : decode cX8_share 71 = .ok (.aload 5, 2) := dz_25 (b_2 (a := 5) bX8_share (by decide +kernel))
theorem dX8_share_73 : decode cX8_share 73 = .ok (.iload_n 2, 1) := dz_28 (b_1 bX8_share (by decide +kernel))
theorem dX8_share_74 : decode cX8_share 74 = .ok (.aload 6, 2) := dz_25 (b_2 (a := 6) bX8_share (by decide +kernel))
theorem dX8_share_76 : decode cX8_share 76 = .ok (.getfield 158, 3) := dz_180 (b_3 (a := 0) (b := 158) bX8_share (by decide +kernel))
theorem dX8_share_79 : decode cX8_share 79 = .ok (.iload 4, 2) := dz_21 (b_2 (a := 4) bX8_share (by decide +kernel))
theorem dX8_share_81 : decode cX8_share 81 = .ok (.aaload, 1) := dz_50 (b_1 bX8_share (by decide +kernel))
theorem dX8_share_82 : decode cX8_share 82 = .ok (.invokevirtual 154, 3) := dz_182 (b_3 (a := 0) (b := 154) bX8_share (by decide +kernel))
theorem dX8_share_85 : decode cX8_share 85 = .ok (.ireturn, 1) := dz_172 (b_1 bX8_share (by decide +kernel))
theorem gj_X8_item_0 : GpS (wsX8_item_r1) wsX8_item := fun w h => List.mem_cons_of_mem _ (List.mem_append_left _ (List.mem_append_left _ (List.mem_append_left _ (List.mem_append_left _ (List.mem_append_left _ (List.mem_append_left _ (List.mem_append_left _ (h))))))))
theorem gj_X8_item_3 : GpS (wsX60) wsX8_item := fun w h => List.mem_cons_of_mem _ (List.mem_append_left _ (List.mem_append_left _ (List.mem_append_left _ (List.mem_append_left _ (List.mem_append_left _ (List.mem_append_right _ (h)))))))
theorem gj_X8_item_4 : GpS (wsX70) wsX8_item := fun w h => List.mem_cons_of_mem _ (List.mem_append_left _ (List.mem_append_left _ (List.mem_append_left _ (List.mem_append_left _ (List.mem_append_right _ (h))))))
theorem gj_X8_item_6 : GpS (wsX80) wsX8_item := fun w h => List.mem_cons_of_mem _ (List.mem_append_left _ (List.mem_append_left _ (List.mem_append_right _ (h))))
set_option maxRecDepth 20000 in
theorem ggX8_item_X8_thingWithField : GoodIn wsX8_item wsX8_thingWithField := gp_s (gp_c (gj_X8_item_0 _ (gp_4 (gp_4 (gp_1 gp_h)))) (gp_a (gp_a (gp_a (gp_c (gj_X8_item_0 _ (gp_h)) (gp_c (gj_X8_item_0 _ (gp_4 (gp_4 (gp_1 (gp_1 gp_h))))) (gp_c (gj_X8_item_0 _ (gp_4 (gp_4 (gp_1 (gp_1 (gp_1 gp_h)))))) (gp_c (gj_X8_item_0 _ (gp_4 (gp_4 (gp_4 gp_h)))) (gp_c (gj_X8_item_0 _ (gp_4 (gp_4 gp_h))) (gp_c (gj_X8_item_0 _ (gp_4 (gp_4 (gp_4 (gp_1 gp_h))))) (gp_c (gj_X8_item_0 _ (gp_4 (gp_4 (gp_4 (gp_1 (gp_1 gp_h)))))) (gp_c (gj_X8_item_0 _ (gp_4 (gp_4 (gp_4 (gp_1 (gp_1 (gp_1 gp_h))))))) (gp_c (gj_X8_item_0 _ (gp_16 gp_h)) (gp_c (gj_X8_item_0 _ (gp_16 (gp_1 gp_h))) (gp_c (gj_X8_item_0 _ (gp_16 (gp_1 (gp_1 gp_h)))) (gp_c (gj_X8_item_0 _ (gp_16 (gp_1 (gp_1 (gp_1 gp_h))))) (gp_c (gj_X8_item_0 _ (gp_16 (gp_4 gp_h))) (gp_c (gj_X8_item_0 _ (gp_16 (gp_4 (gp_1 gp_h)))) (gp_c (gj_X8_item_0 _ (gp_16 (gp_4 (gp_1 (gp_1 gp_h))))) (gp_c (gj_X8_item_0 _ (gp_16 (gp_4 (gp_1 (gp_1 (gp_1 gp_h)))))) (gp_n))))))))))))))))) (gj_X8_item_3)) (gj_X8_item_6)) (gj_X8_item_4))) gb_X8_thingWithField
set_option maxRecDepth 20000 in
theorem gX8_item_X8_thingWithField : GoodIn wsX8_item (wsV RX8 131 RX8 yX8_thingWithField wsX8_thingWithField) := goodIn_app (gp_s (gp_c (gj_X8_item_0 _ (gp_4 (gp_1 gp_h))) (gp_c (gj_X8_item_0 _ (gp_4 (gp_1 (gp_1 gp_h)))) (gp_c (gj_X8_item_0 _ (gp_4 (gp_1 (gp_1 (gp_1 gp_h))))) (gp_c (gj_X8_item_0 _ (gp_4 (gp_4 gp_h))) (gp_n))))) (gp_v)) ggX8_item_X8_thingWithField
theorem gj_X8_item_1 : GpS (wsX8_item_r2) wsX8_item := fun w h => List.mem_cons_of_mem _ (List.mem_append_left _ (List.mem_append_left _ (List.mem_append_left _ (List.mem_append_left _ (List.mem_append_left _ (List.mem_append_left _ (List.mem_append_right _ (List.mem_append_left _ (h)))))))))
set_option maxRecDepth 20000 in
theorem ggX8_item_X8_isRowLane : GoodIn wsX8_item wsX8_isRowLane := gp_s (gp_c (gj_X8_item_1 _ (gp_1 (gp_1 gp_h))) (gp_n)) gb_X8_isRowLane
set_option maxRecDepth 20000 in
theorem gX8_item_X8_isRowLane : GoodIn wsX8_item (va_wsS RX8 150 yX8_isRowLane wsX8_isRowLane) := goodIn_app (gp_s (gp_c (gj_X8_item_1 _ (gp_h)) (gp_c (gj_X8_item_1 _ (gp_1 gp_h)) (gp_c (gj_X8_item_0 _ (gp_4 (gp_4 gp_h))) (gp_n)))) (gp_t)) ggX8_item_X8_isRowLane
set_option maxRecDepth 20000 in
theorem ggX8_item_X8_failed : GoodIn wsX8_item wsX8_failed := gp_s (gp_c (gj_X8_item_1 _ (gp_4 (gp_1 gp_h))) (gp_n)) gb_X8_failed
set_option maxRecDepth 20000 in
theorem gX8_item_X8_failed : GoodIn wsX8_item (va_wsS RX8 139 yX8_failed wsX8_failed) := goodIn_app (gp_s (gp_c (gj_X8_item_1 _ (gp_1 (gp_1 (gp_1 gp_h)))) (gp_c (gj_X8_item_1 _ (gp_4 gp_h)) (gp_c (gj_X8_item_0 _ (gp_4 (gp_4 gp_h))) (gp_n)))) (gp_t)) ggX8_item_X8_failed
set_option maxRecDepth 20000 in
theorem ggX8_item_X8_isBelow : GoodIn wsX8_item wsX8_isBelow := gp_s (gp_c (gj_X8_item_0 _ (gp_16 (gp_4 (gp_1 (gp_1 (gp_1 gp_h)))))) (gp_n)) gb_X8_isBelow
set_option maxRecDepth 20000 in
theorem gX8_item_X8_isBelow : GoodIn wsX8_item (va_wsS RX8 74 yX8_isBelow wsX8_isBelow) := goodIn_app (gp_s (gp_c (gj_X8_item_1 _ (gp_4 (gp_1 (gp_1 gp_h)))) (gp_c (gj_X8_item_0 _ (gp_16 (gp_4 (gp_1 (gp_1 gp_h))))) (gp_c (gj_X8_item_0 _ (gp_4 (gp_4 gp_h))) (gp_n)))) (gp_t)) ggX8_item_X8_isBelow
theorem gj_X8_item_7 : GpS (wsX20) wsX8_item := fun w h => List.mem_cons_of_mem _ (List.mem_append_left _ (List.mem_append_right _ (h)))
set_option maxRecDepth 20000 in
theorem ggX8_item_X2_isFull : GoodIn wsX8_item wsX2_isFull := gp_s (gp_c (gj_X8_item_1 _ (gp_4 (gp_4 (gp_1 (gp_1 (gp_1 gp_h)))))) (gp_a (gp_c (gj_X8_item_1 _ (gp_4 (gp_4 (gp_4 gp_h)))) (gp_n)) (gj_X8_item_7))) gb_X2_isFull
set_option maxRecDepth 20000 in
theorem gX8_item_X2_isFull : GoodIn wsX8_item (wsV RX8 165 RX2 yX2_isFull wsX2_isFull) := goodIn_app (gp_s (gp_c (gj_X8_item_1 _ (gp_4 (gp_1 (gp_1 (gp_1 gp_h))))) (gp_c (gj_X8_item_1 _ (gp_4 (gp_4 gp_h))) (gp_c (gj_X8_item_1 _ (gp_4 (gp_4 (gp_1 gp_h)))) (gp_c (gj_X8_item_1 _ (gp_4 (gp_4 (gp_1 (gp_1 gp_h))))) (gp_n))))) (gp_v)) ggX8_item_X2_isFull
theorem gb_X2_noteItem : wsX2_noteItem.all goodWord = true := by decide +kernel
theorem gj_X8_item_2 : GpS (wsX8_item_r3) wsX8_item := fun w h => List.mem_cons_of_mem _ (List.mem_append_left _ (List.mem_append_left _ (List.mem_append_left _ (List.mem_append_left _ (List.mem_append_left _ (List.mem_append_left _ (List.mem_append_right _ (List.mem_append_right _ (h)))))))))
theorem gj_X8_item_5 : GpS (wsX50) wsX8_item := fun w h => List.mem_cons_of_mem _ (List.mem_append_left _ (List.mem_append_left _ (List.mem_append_left _ (List.mem_append_right _ (h)))))
theorem gj_X8_item_8 : GpS (wsX30) wsX8_item := fun w h => List.mem_cons_of_mem _ (List.mem_append_right _ (h))
set_option maxRecDepth 20000 in
theorem ggX8_item_X2_noteItem : GoodIn wsX8_item wsX2_noteItem := gp_s (gp_c (gj_X8_item_1 _ (gp_16 gp_h)) (gp_a (gp_a (gp_a (gp_c (gj_X8_item_1 _ (gp_16 (gp_1 gp_h))) (gp_c (gj_X8_item_1 _ (gp_16 (gp_1 (gp_1 gp_h)))) (gp_c (gj_X8_item_1 _ (gp_16 (gp_1 (gp_1 (gp_1 gp_h))))) (gp_c (gj_X8_item_1 _ (gp_16 (gp_4 gp_h))) (gp_c (gj_X8_item_1 _ (gp_4 (gp_4 (gp_1 (gp_1 gp_h))))) (gp_c (gj_X8_item_1 _ (gp_16 (gp_4 (gp_1 gp_h)))) (gp_c (gj_X8_item_1 _ (gp_16 (gp_4 (gp_1 (gp_1 gp_h))))) (gp_c (gj_X8_item_1 _ (gp_16 (gp_4 (gp_1 (gp_1 (gp_1 gp_h)))))) (gp_c (gj_X8_item_1 _ (gp_4 (gp_4 (gp_4 gp_h)))) (gp_c (gj_X8_item_2 _ (gp_h)) (gp_c (gj_X8_item_2 _ (gp_1 gp_h)) (gp_c (gj_X8_item_2 _ (gp_1 (gp_1 gp_h))) (gp_c (gj_X8_item_2 _ (gp_1 (gp_1 (gp_1 gp_h)))) (gp_c (gj_X8_item_2 _ (gp_4 gp_h)) (gp_c (gj_X8_item_1 _ (gp_4 (gp_4 gp_h))) (gp_c (gj_X8_item_1 _ (gp_4 (gp_4 (gp_1 gp_h)))) (gp_c (gj_X8_item_1 _ (gp_4 (gp_4 (gp_1 (gp_1 (gp_1 gp_h)))))) (gp_n)))))))))))))))))) (gj_X8_item_5)) (gj_X8_item_7)) (gj_X8_item_8))) gb_X2_noteItem
set_option maxRecDepth 20000 in
theorem gX8_item_X2_noteItem : GoodIn wsX8_item (wsV RX8 169 RX2 yX2_noteItem wsX2_noteItem) := goodIn_app (gp_s (gp_c (gj_X8_item_1 _ (gp_4 (gp_4 (gp_4 (gp_1 gp_h))))) (gp_c (gj_X8_item_1 _ (gp_4 (gp_4 (gp_4 (gp_1 (gp_1 gp_h)))))) (gp_c (gj_X8_item_1 _ (gp_4 (gp_4 (gp_4 (gp_1 (gp_1 (gp_1 gp_h))))))) (gp_c (gj_X8_item_1 _ (gp_4 (gp_4 (gp_1 (gp_1 gp_h))))) (gp_n))))) (gp_v)) ggX8_item_X2_noteItem
theorem gb_X8_lowestBits : wsX8_lowestBits.all goodWord = true := by decide +kernel
set_option maxRecDepth 20000 in
theorem ggX8_item_X8_lowestBits : GoodIn wsX8_item wsX8_lowestBits := gp_s (gp_c (gj_X8_item_2 _ (gp_4 (gp_1 (gp_1 (gp_1 gp_h))))) (gp_n)) gb_X8_lowestBits
set_option maxRecDepth 20000 in
theorem gX8_item_X8_lowestBits : GoodIn wsX8_item (va_wsS RX8 173 yX8_lowestBits wsX8_lowestBits) := goodIn_app (gp_s (gp_c (gj_X8_item_2 _ (gp_4 (gp_1 gp_h))) (gp_c (gj_X8_item_2 _ (gp_4 (gp_1 (gp_1 gp_h)))) (gp_c (gj_X8_item_0 _ (gp_4 (gp_4 gp_h))) (gp_n)))) (gp_t)) ggX8_item_X8_lowestBits
noncomputable def nX8_item : Nat := 0xac0450ad00b8071504161da100b40819a900b61d08193300b42aacfc10060099a500b63300b42aac8b00b80508009a4a00b8bea100b408191dac8b00b8040800c70819083a321c9e00b40619ac8b00b80708009a9600b8071507362e1c8700b46100b40619ac020500c70619063a8300b61c1b2a
theorem bX8_item : Bts cX8_item nX8_item 116 := by unfold Bts; decide +kernel
theorem dX8_item_0 : decode cX8_item 0 = .ok (.aload_n 0, 1) := dz_42 (b_1 bX8_item (by decide +kernel))
theorem dX8_item_1 : decode cX8_item 1 = .ok (.iload_n 1, 1) := dz_27 (b_1 bX8_item (by decide +kernel))
theorem dX8_item_2 : decode cX8_item 2 = .ok (.iload_n 2, 1) := dz_28 (b_1 bX8_item (by decide +kernel))
theorem dX8_item_3 : decode cX8_item 3 = .ok (.invokevirtual 131, 3) := dz_182 (b_3 (a := 0) (b := 131) bX8_item (by decide +kernel))
theorem dX8_item_6 : decode cX8_item 6 = .ok (.astore 6, 2) := dz_58 (b_2 (a := 6) bX8_item (by decide +kernel))
theorem dX8_item_8 : decode cX8_item 8 = .ok (.aload 6, 2) := dz_25 (b_2 (a := 6) bX8_item (by decide +kernel))
theorem dX8_item_10 : decode cX8_item 10 = .ok (.ifnonnull 5, 3) := dz_199 (b_3 (a := 0) (b := 5) bX8_item (by decide +kernel)) (by decide +kernel)
theorem dX8_item_13 : decode cX8_item 13 = .ok (.iconst (-1), 1) := dz_2 (b_1 bX8_item (by decide +kernel))
theorem dX8_item_14 : decode cX8_item 14 = .ok (.ireturn, 1) := dz_172 (b_1 bX8_item (by decide +kernel))
theorem dX8_item_15 : decode cX8_item 15 = .ok (.aload 6, 2) := dz_25 (b_2 (a := 6) bX8_item (by decide +kernel))
theorem dX8_item_17 : decode cX8_item 17 = .ok (.getfield 97, 3) := dz_180 (b_3 (a := 0) (b := 97) bX8_item (by decide +kernel))
theorem dX8_item_20 : decode cX8_item 20 = .ok (.getfield 135, 3) := dz_180 (b_3 (a := 0) (b := 135) bX8_item (by decide +kernel))
theorem dX8_item_23 : decode cX8_item 23 = .ok (.iload_n 2, 1) := dz_28 (b_1 bX8_item (by decide +kernel))
theorem dX8_item_24 : decode cX8_item 24 = .ok (.iaload, 1) := dz_46 (b_1 bX8_item (by decide +kernel))
theorem dX8_item_25 : decode cX8_item 25 = .ok (.istore 7, 2) := dz_54 (b_2 (a := 7) bX8_item (by decide +kernel))
theorem dX8_item_27 : decode cX8_item 27 = .ok (.iload 7, 2) := dz_21 (b_2 (a := 7) bX8_item (by decide +kernel))
theorem dX8_item_29 : decode cX8_item 29 = .ok (.invokestatic 150, 3) := dz_184 (b_3 (a := 0) (b := 150) bX8_item (by decide +kernel))
theorem dX8_item_32 : decode cX8_item 32 = .ok (.ifCond .ne 8, 3) := dz_154 (b_3 (a := 0) (b := 8) bX8_item (by decide +kernel)) (by decide +kernel)
theorem dX8_item_35 : decode cX8_item 35 = .ok (.iconst 4, 1) := dz_7 (b_1 bX8_item (by decide +kernel))
theorem dX8_item_36 : decode cX8_item 36 = .ok (.invokestatic 139, 3) := dz_184 (b_3 (a := 0) (b := 139) bX8_item (by decide +kernel))
theorem dX8_item_39 : decode cX8_item 39 = .ok (.ireturn, 1) := dz_172 (b_1 bX8_item (by decide +kernel))
theorem dX8_item_40 : decode cX8_item 40 = .ok (.aload 6, 2) := dz_25 (b_2 (a := 6) bX8_item (by decide +kernel))
theorem dX8_item_42 : decode cX8_item 42 = .ok (.getfield 158, 3) := dz_180 (b_3 (a := 0) (b := 158) bX8_item (by decide +kernel))
theorem dX8_item_45 : decode cX8_item 45 = .ok (.iload_n 2, 1) := dz_28 (b_1 bX8_item (by decide +kernel))
theorem dX8_item_46 : decode cX8_item 46 = .ok (.aaload, 1) := dz_50 (b_1 bX8_item (by decide +kernel))
theorem dX8_item_47 : decode cX8_item 47 = .ok (.astore 8, 2) := dz_58 (b_2 (a := 8) bX8_item (by decide +kernel))
theorem dX8_item_49 : decode cX8_item 49 = .ok (.aload 8, 2) := dz_25 (b_2 (a := 8) bX8_item (by decide +kernel))
theorem dX8_item_51 : decode cX8_item 51 = .ok (.ifnonnull 8, 3) := dz_199 (b_3 (a := 0) (b := 8) bX8_item (by decide +kernel)) (by decide +kernel)
theorem dX8_item_54 : decode cX8_item 54 = .ok (.iconst 1, 1) := dz_4 (b_1 bX8_item (by decide +kernel))
theorem dX8_item_55 : decode cX8_item 55 = .ok (.invokestatic 139, 3) := dz_184 (b_3 (a := 0) (b := 139) bX8_item (by decide +kernel))
theorem dX8_item_58 : decode cX8_item 58 = .ok (.ireturn, 1) := dz_172 (b_1 bX8_item (by decide +kernel))
theorem dX8_item_59 : decode cX8_item 59 = .ok (.iload_n 3, 1) := dz_29 (b_1 bX8_item (by decide +kernel))
theorem dX8_item_60 : decode cX8_item 60 = .ok (.aload 8, 2) := dz_25 (b_2 (a := 8) bX8_item (by decide +kernel))
theorem dX8_item_62 : decode cX8_item 62 = .ok (.getfield 161, 3) := dz_180 (b_3 (a := 0) (b := 161) bX8_item (by decide +kernel))
theorem dX8_item_65 : decode cX8_item 65 = .ok (.arraylength, 1) := dz_190 (b_1 bX8_item (by decide +kernel))
theorem dX8_item_66 : decode cX8_item 66 = .ok (.invokestatic 74, 3) := dz_184 (b_3 (a := 0) (b := 74) bX8_item (by decide +kernel))
theorem dX8_item_69 : decode cX8_item 69 = .ok (.ifCond .ne 8, 3) := dz_154 (b_3 (a := 0) (b := 8) bX8_item (by decide +kernel)) (by decide +kernel)
theorem dX8_item_72 : decode cX8_item 72 = .ok (.iconst 2, 1) := dz_5 (b_1 bX8_item (by decide +kernel))
theorem dX8_item_73 : decode cX8_item 73 = .ok (.invokestatic 139, 3) := dz_184 (b_3 (a := 0) (b := 139) bX8_item (by decide +kernel))
theorem dX8_item_76 : decode cX8_item 76 = .ok (.ireturn, 1) := dz_172 (b_1 bX8_item (by decide +kernel))
theorem dX8_item_77 : decode cX8_item 77 = .ok (.aload_n 0, 1) := dz_42 (b_1 bX8_item (by decide +kernel))
theorem dX8_item_78 : decode cX8_item 78 = .ok (.getfield 51, 3) := dz_180 (b_3 (a := 0) (b := 51) bX8_item (by decide +kernel))
theorem dX8_item_81 : decode cX8_item 81 = .ok (.invokevirtual 165, 3) := dz_182 (b_3 (a := 0) (b := 165) bX8_item (by decide +kernel))
theorem dX8_item_84 : decode cX8_item 84 = .ok (.ifCond .eq 6, 3) := dz_153 (b_3 (a := 0) (b := 6) bX8_item (by decide +kernel)) (by decide +kernel)
theorem dX8_item_87 : decode cX8_item 87 = .ok (.bipush (-4), 2) := dz_16 (b_2 (a := 252) bX8_item (by decide +kernel)) (by decide +kernel)
theorem dX8_item_89 : decode cX8_item 89 = .ok (.ireturn, 1) := dz_172 (b_1 bX8_item (by decide +kernel))
theorem dX8_item_90 : decode cX8_item 90 = .ok (.aload_n 0, 1) := dz_42 (b_1 bX8_item (by decide +kernel))
theorem dX8_item_91 : decode cX8_item 91 = .ok (.getfield 51, 3) := dz_180 (b_3 (a := 0) (b := 51) bX8_item (by decide +kernel))
theorem dX8_item_94 : decode cX8_item 94 = .ok (.aload 8, 2) := dz_25 (b_2 (a := 8) bX8_item (by decide +kernel))
theorem dX8_item_96 : decode cX8_item 96 = .ok (.iload_n 3, 1) := dz_29 (b_1 bX8_item (by decide +kernel))
theorem dX8_item_97 : decode cX8_item 97 = .ok (.invokevirtual 169, 3) := dz_182 (b_3 (a := 0) (b := 169) bX8_item (by decide +kernel))
theorem dX8_item_100 : decode cX8_item 100 = .ok (.aload 8, 2) := dz_25 (b_2 (a := 8) bX8_item (by decide +kernel))
theorem dX8_item_102 : decode cX8_item 102 = .ok (.getfield 161, 3) := dz_180 (b_3 (a := 0) (b := 161) bX8_item (by decide +kernel))
theorem dX8_item_105 : decode cX8_item 105 = .ok (.iload_n 3, 1) := dz_29 (b_1 bX8_item (by decide +kernel))
theorem dX8_item_106 : decode cX8_item 106 = .ok (.lload 4, 2) := dz_22 (b_2 (a := 4) bX8_item (by decide +kernel))
theorem dX8_item_108 : decode cX8_item 108 = .ok (.iload 7, 2) := dz_21 (b_2 (a := 7) bX8_item (by decide +kernel))
theorem dX8_item_110 : decode cX8_item 110 = .ok (.invokestatic 173, 3) := dz_184 (b_3 (a := 0) (b := 173) bX8_item (by decide +kernel))
theorem dX8_item_113 : decode cX8_item 113 = .ok (.lastore, 1) := dz_80 (b_1 bX8_item (by decide +kernel))
theorem dX8_item_114 : decode cX8_item 114 = .ok (.iconst 1, 1) := dz_4 (b_1 bX8_item (by decide +kernel))
theorem dX8_item_115 : decode cX8_item 115 = .ok (.ireturn, 1) := dz_172 (b_1 bX8_item (by decide +kernel))
theorem gb_X8_thingNumbered : wsX8_thingNumbered.all goodWord = true := by decide +kernel
theorem gj_X8_at_0 : GpS (wsX8_at_r1) wsX8_at := fun w h => List.mem_cons_of_mem _ (List.mem_append_left _ (List.mem_append_left _ (List.mem_append_left _ (List.mem_append_left _ (List.mem_append_left _ (List.mem_append_left _ (List.mem_append_left _ (h))))))))
theorem gj_X8_at_5 : GpS (wsX80) wsX8_at := fun w h => List.mem_cons_of_mem _ (List.mem_append_left _ (List.mem_append_left _ (List.mem_append_right _ (h))))
set_option maxRecDepth 20000 in
theorem ggX8_at_X8_thingNumbered : GoodIn wsX8_at wsX8_thingNumbered := gp_s (gp_c (gj_X8_at_0 _ (gp_4 (gp_4 (gp_4 (gp_1 (gp_1 gp_h)))))) (gp_a (gp_c (gj_X8_at_0 _ (gp_4 (gp_4 (gp_4 (gp_1 (gp_1 (gp_1 gp_h))))))) (gp_c (gj_X8_at_0 _ (gp_16 gp_h)) (gp_n))) (gj_X8_at_5))) gb_X8_thingNumbered
set_option maxRecDepth 20000 in
theorem gX8_at_X8_thingNumbered : GoodIn wsX8_at (wsV RX8 177 RX8 yX8_thingNumbered wsX8_thingNumbered) := goodIn_app (gp_s (gp_c (gj_X8_at_0 _ (gp_4 (gp_4 (gp_1 (gp_1 gp_h))))) (gp_c (gj_X8_at_0 _ (gp_4 (gp_4 (gp_1 (gp_1 (gp_1 gp_h)))))) (gp_c (gj_X8_at_0 _ (gp_4 (gp_4 (gp_4 gp_h)))) (gp_c (gj_X8_at_0 _ (gp_4 (gp_4 (gp_4 (gp_1 gp_h))))) (gp_n))))) (gp_v)) ggX8_at_X8_thingNumbered
theorem gj_X8_at_1 : GpS (wsX8_at_r2) wsX8_at := fun w h => List.mem_cons_of_mem _ (List.mem_append_left _ (List.mem_append_left _ (List.mem_append_left _ (List.mem_append_left _ (List.mem_append_left _ (List.mem_append_left _ (List.mem_append_right _ (h))))))))
theorem gj_X8_at_3 : GpS (wsX70) wsX8_at := fun w h => List.mem_cons_of_mem _ (List.mem_append_left _ (List.mem_append_left _ (List.mem_append_left _ (List.mem_append_left _ (List.mem_append_right _ (h))))))
set_option maxRecDepth 20000 in
theorem ggX8_at_X7_hasField : GoodIn wsX8_at wsX7_hasField := gp_s (gp_c (gj_X8_at_0 _ (gp_16 (gp_4 (gp_1 gp_h)))) (gp_a (gp_c (gj_X8_at_0 _ (gp_16 (gp_4 (gp_1 (gp_1 gp_h))))) (gp_c (gj_X8_at_0 _ (gp_16 (gp_4 (gp_1 (gp_1 (gp_1 gp_h)))))) (gp_c (gj_X8_at_0 _ (gp_4 (gp_4 (gp_4 (gp_1 gp_h))))) (gp_c (gj_X8_at_1 _ (gp_h)) (gp_n))))) (gj_X8_at_3))) gb_X7_hasField
set_option maxRecDepth 20000 in
theorem gX8_at_X7_hasField : GoodIn wsX8_at (wsV RX8 104 RX7 yX7_hasField wsX7_hasField) := goodIn_app (gp_s (gp_c (gj_X8_at_0 _ (gp_16 (gp_1 gp_h))) (gp_c (gj_X8_at_0 _ (gp_16 (gp_1 (gp_1 gp_h)))) (gp_c (gj_X8_at_0 _ (gp_16 (gp_1 (gp_1 (gp_1 gp_h))))) (gp_c (gj_X8_at_0 _ (gp_16 (gp_4 gp_h))) (gp_n))))) (gp_v)) ggX8_at_X7_hasField
set_option maxRecDepth 20000 in
theorem ggX8_at_X8_isRowLane : GoodIn wsX8_at wsX8_isRowLane := gp_s (gp_c (gj_X8_at_1 _ (gp_1 (gp_1 (gp_1 gp_h)))) (gp_n)) gb_X8_isRowLane
set_option maxRecDepth 20000 in
theorem gX8_at_X8_isRowLane : GoodIn wsX8_at (va_wsS RX8 150 yX8_isRowLane wsX8_isRowLane) := goodIn_app (gp_s (gp_c (gj_X8_at_1 _ (gp_1 gp_h)) (gp_c (gj_X8_at_1 _ (gp_1 (gp_1 gp_h))) (gp_c (gj_X8_at_0 _ (gp_4 (gp_4 (gp_4 (gp_1 gp_h))))) (gp_n)))) (gp_t)) ggX8_at_X8_isRowLane
noncomputable def nX8_at : Nat := 0xad85bea100b404190a00a75800140900c70419043a321c9e00b42dad2f1cc100b42d0a009a9600b82e1c8700b46100b42dbfc000b7be1259bc00bb0d009a6800b61c6100b42dbfb900b7b71259b500bb0d00c72d4eb100b6851b2a
theorem bX8_at : Bts cX8_at nX8_at 91 := by unfold Bts; decide +kernel
theorem dX8_at_0 : decode cX8_at 0 = .ok (.aload_n 0, 1) := dz_42 (b_1 bX8_at (by decide +kernel))
theorem dX8_at_1 : decode cX8_at 1 = .ok (.iload_n 1, 1) := dz_27 (b_1 bX8_at (by decide +kernel))
theorem dX8_at_2 : decode cX8_at 2 = .ok (.i2l, 1) := dz_133 (b_1 bX8_at (by decide +kernel))
theorem dX8_at_3 : decode cX8_at 3 = .ok (.invokevirtual 177, 3) := dz_182 (b_3 (a := 0) (b := 177) bX8_at (by decide +kernel))
theorem dX8_at_6 : decode cX8_at 6 = .ok (.astore_n 3, 1) := dz_78 (b_1 bX8_at (by decide +kernel))
theorem dX8_at_7 : decode cX8_at 7 = .ok (.aload_n 3, 1) := dz_45 (b_1 bX8_at (by decide +kernel))
theorem dX8_at_8 : decode cX8_at 8 = .ok (.ifnonnull 13, 3) := dz_199 (b_3 (a := 0) (b := 13) bX8_at (by decide +kernel)) (by decide +kernel)
theorem dX8_at_11 : decode cX8_at 11 = .ok (.new 181, 3) := dz_187 (b_3 (a := 0) (b := 181) bX8_at (by decide +kernel))
theorem dX8_at_14 : decode cX8_at 14 = .ok (.dup, 1) := dz_89 (b_1 bX8_at (by decide +kernel))
theorem dX8_at_15 : decode cX8_at 15 = .ok (.ldc 183, 2) := dz_18 (b_2 (a := 183) bX8_at (by decide +kernel))
theorem dX8_at_17 : decode cX8_at 17 = .ok (.invokespecial 185, 3) := dz_183 (b_3 (a := 0) (b := 185) bX8_at (by decide +kernel))
theorem dX8_at_20 : decode cX8_at 20 = .ok (.athrow, 1) := dz_191 (b_1 bX8_at (by decide +kernel))
theorem dX8_at_21 : decode cX8_at 21 = .ok (.aload_n 3, 1) := dz_45 (b_1 bX8_at (by decide +kernel))
theorem dX8_at_22 : decode cX8_at 22 = .ok (.getfield 97, 3) := dz_180 (b_3 (a := 0) (b := 97) bX8_at (by decide +kernel))
theorem dX8_at_25 : decode cX8_at 25 = .ok (.iload_n 2, 1) := dz_28 (b_1 bX8_at (by decide +kernel))
theorem dX8_at_26 : decode cX8_at 26 = .ok (.invokevirtual 104, 3) := dz_182 (b_3 (a := 0) (b := 104) bX8_at (by decide +kernel))
theorem dX8_at_29 : decode cX8_at 29 = .ok (.ifCond .ne 13, 3) := dz_154 (b_3 (a := 0) (b := 13) bX8_at (by decide +kernel)) (by decide +kernel)
theorem dX8_at_32 : decode cX8_at 32 = .ok (.new 188, 3) := dz_187 (b_3 (a := 0) (b := 188) bX8_at (by decide +kernel))
theorem dX8_at_35 : decode cX8_at 35 = .ok (.dup, 1) := dz_89 (b_1 bX8_at (by decide +kernel))
theorem dX8_at_36 : decode cX8_at 36 = .ok (.ldc 190, 2) := dz_18 (b_2 (a := 190) bX8_at (by decide +kernel))
theorem dX8_at_38 : decode cX8_at 38 = .ok (.invokespecial 192, 3) := dz_183 (b_3 (a := 0) (b := 192) bX8_at (by decide +kernel))
theorem dX8_at_41 : decode cX8_at 41 = .ok (.athrow, 1) := dz_191 (b_1 bX8_at (by decide +kernel))
theorem dX8_at_42 : decode cX8_at 42 = .ok (.aload_n 3, 1) := dz_45 (b_1 bX8_at (by decide +kernel))
theorem dX8_at_43 : decode cX8_at 43 = .ok (.getfield 97, 3) := dz_180 (b_3 (a := 0) (b := 97) bX8_at (by decide +kernel))
theorem dX8_at_46 : decode cX8_at 46 = .ok (.getfield 135, 3) := dz_180 (b_3 (a := 0) (b := 135) bX8_at (by decide +kernel))
theorem dX8_at_49 : decode cX8_at 49 = .ok (.iload_n 2, 1) := dz_28 (b_1 bX8_at (by decide +kernel))
theorem dX8_at_50 : decode cX8_at 50 = .ok (.iaload, 1) := dz_46 (b_1 bX8_at (by decide +kernel))
theorem dX8_at_51 : decode cX8_at 51 = .ok (.invokestatic 150, 3) := dz_184 (b_3 (a := 0) (b := 150) bX8_at (by decide +kernel))
theorem dX8_at_54 : decode cX8_at 54 = .ok (.ifCond .ne 10, 3) := dz_154 (b_3 (a := 0) (b := 10) bX8_at (by decide +kernel)) (by decide +kernel)
theorem dX8_at_57 : decode cX8_at 57 = .ok (.aload_n 3, 1) := dz_45 (b_1 bX8_at (by decide +kernel))
theorem dX8_at_58 : decode cX8_at 58 = .ok (.getfield 193, 3) := dz_180 (b_3 (a := 0) (b := 193) bX8_at (by decide +kernel))
theorem dX8_at_61 : decode cX8_at 61 = .ok (.iload_n 2, 1) := dz_28 (b_1 bX8_at (by decide +kernel))
theorem dX8_at_62 : decode cX8_at 62 = .ok (.laload, 1) := dz_47 (b_1 bX8_at (by decide +kernel))
theorem dX8_at_63 : decode cX8_at 63 = .ok (.lreturn, 1) := dz_173 (b_1 bX8_at (by decide +kernel))
theorem dX8_at_64 : decode cX8_at 64 = .ok (.aload_n 3, 1) := dz_45 (b_1 bX8_at (by decide +kernel))
theorem dX8_at_65 : decode cX8_at 65 = .ok (.getfield 158, 3) := dz_180 (b_3 (a := 0) (b := 158) bX8_at (by decide +kernel))
theorem dX8_at_68 : decode cX8_at 68 = .ok (.iload_n 2, 1) := dz_28 (b_1 bX8_at (by decide +kernel))
theorem dX8_at_69 : decode cX8_at 69 = .ok (.aaload, 1) := dz_50 (b_1 bX8_at (by decide +kernel))
theorem dX8_at_70 : decode cX8_at 70 = .ok (.astore 4, 2) := dz_58 (b_2 (a := 4) bX8_at (by decide +kernel))
theorem dX8_at_72 : decode cX8_at 72 = .ok (.aload 4, 2) := dz_25 (b_2 (a := 4) bX8_at (by decide +kernel))
theorem dX8_at_74 : decode cX8_at 74 = .ok (.ifnonnull 9, 3) := dz_199 (b_3 (a := 0) (b := 9) bX8_at (by decide +kernel)) (by decide +kernel)
theorem dX8_at_77 : decode cX8_at 77 = .ok (.ldc2_w 88, 3) := dz_20 (b_3 (a := 0) (b := 88) bX8_at (by decide +kernel))
theorem dX8_at_80 : decode cX8_at 80 = .ok (.goto 10, 3) := dz_167 (b_3 (a := 0) (b := 10) bX8_at (by decide +kernel)) (by decide +kernel)
theorem dX8_at_83 : decode cX8_at 83 = .ok (.aload 4, 2) := dz_25 (b_2 (a := 4) bX8_at (by decide +kernel))
theorem dX8_at_85 : decode cX8_at 85 = .ok (.getfield 161, 3) := dz_180 (b_3 (a := 0) (b := 161) bX8_at (by decide +kernel))
theorem dX8_at_88 : decode cX8_at 88 = .ok (.arraylength, 1) := dz_190 (b_1 bX8_at (by decide +kernel))
theorem dX8_at_89 : decode cX8_at 89 = .ok (.i2l, 1) := dz_133 (b_1 bX8_at (by decide +kernel))
theorem dX8_at_90 : decode cX8_at 90 = .ok (.lreturn, 1) := dz_173 (b_1 bX8_at (by decide +kernel))
theorem gj_X8_itemAt_0 : GpS (wsX8_itemAt_r1) wsX8_itemAt := fun w h => List.mem_cons_of_mem _ (List.mem_append_left _ (List.mem_append_left _ (List.mem_append_left _ (List.mem_append_left _ (List.mem_append_left _ (List.mem_append_left _ (List.mem_append_left _ (List.mem_append_left _ (h)))))))))
theorem gj_X8_itemAt_5 : GpS (wsX80) wsX8_itemAt := fun w h => List.mem_cons_of_mem _ (List.mem_append_left _ (List.mem_append_left _ (List.mem_append_left _ (List.mem_append_right _ (h)))))
set_option maxRecDepth 20000 in
theorem ggX8_itemAt_X8_thingNumbered : GoodIn wsX8_itemAt wsX8_thingNumbered := gp_s (gp_c (gj_X8_itemAt_0 _ (gp_4 (gp_4 (gp_4 (gp_1 (gp_1 gp_h)))))) (gp_a (gp_c (gj_X8_itemAt_0 _ (gp_4 (gp_4 (gp_4 (gp_1 (gp_1 (gp_1 gp_h))))))) (gp_c (gj_X8_itemAt_0 _ (gp_16 gp_h)) (gp_n))) (gj_X8_itemAt_5))) gb_X8_thingNumbered
set_option maxRecDepth 20000 in
theorem gX8_itemAt_X8_thingNumbered : GoodIn wsX8_itemAt (wsV RX8 177 RX8 yX8_thingNumbered wsX8_thingNumbered) := goodIn_app (gp_s (gp_c (gj_X8_itemAt_0 _ (gp_4 (gp_4 (gp_1 (gp_1 gp_h))))) (gp_c (gj_X8_itemAt_0 _ (gp_4 (gp_4 (gp_1 (gp_1 (gp_1 gp_h)))))) (gp_c (gj_X8_itemAt_0 _ (gp_4 (gp_4 (gp_4 gp_h)))) (gp_c (gj_X8_itemAt_0 _ (gp_4 (gp_4 (gp_4 (gp_1 gp_h))))) (gp_n))))) (gp_v)) ggX8_itemAt_X8_thingNumbered
theorem gj_X8_itemAt_1 : GpS (wsX8_itemAt_r2) wsX8_itemAt := fun w h => List.mem_cons_of_mem _ (List.mem_append_left _ (List.mem_append_left _ (List.mem_append_left _ (List.mem_append_left _ (List.mem_append_left _ (List.mem_append_left _ (List.mem_append_left _ (List.mem_append_right _ (h)))))))))
theorem gj_X8_itemAt_3 : GpS (wsX70) wsX8_itemAt := fun w h => List.mem_cons_of_mem _ (List.mem_append_left _ (List.mem_append_left _ (List.mem_append_left _ (List.mem_append_left _ (List.mem_append_left _ (List.mem_append_right _ (h)))))))
set_option maxRecDepth 20000 in
theorem ggX8_itemAt_X7_hasField : GoodIn wsX8_itemAt wsX7_hasField := gp_s (gp_c (gj_X8_itemAt_0 _ (gp_16 (gp_4 (gp_1 gp_h)))) (gp_a (gp_c (gj_X8_itemAt_0 _ (gp_16 (gp_4 (gp_1 (gp_1 gp_h))))) (gp_c (gj_X8_itemAt_0 _ (gp_16 (gp_4 (gp_1 (gp_1 (gp_1 gp_h)))))) (gp_c (gj_X8_itemAt_0 _ (gp_4 (gp_4 (gp_4 (gp_1 gp_h))))) (gp_c (gj_X8_itemAt_1 _ (gp_h)) (gp_n))))) (gj_X8_itemAt_3))) gb_X7_hasField
set_option maxRecDepth 20000 in
theorem gX8_itemAt_X7_hasField : GoodIn wsX8_itemAt (wsV RX8 104 RX7 yX7_hasField wsX7_hasField) := goodIn_app (gp_s (gp_c (gj_X8_itemAt_0 _ (gp_16 (gp_1 gp_h))) (gp_c (gj_X8_itemAt_0 _ (gp_16 (gp_1 (gp_1 gp_h)))) (gp_c (gj_X8_itemAt_0 _ (gp_16 (gp_1 (gp_1 (gp_1 gp_h))))) (gp_c (gj_X8_itemAt_0 _ (gp_16 (gp_4 gp_h))) (gp_n))))) (gp_v)) ggX8_itemAt_X7_hasField
set_option maxRecDepth 20000 in
theorem ggX8_itemAt_X8_isRowLane : GoodIn wsX8_itemAt wsX8_isRowLane := gp_s (gp_c (gj_X8_itemAt_1 _ (gp_1 (gp_1 (gp_1 gp_h)))) (gp_n)) gb_X8_isRowLane
set_option maxRecDepth 20000 in
theorem gX8_itemAt_X8_isRowLane : GoodIn wsX8_itemAt (va_wsS RX8 150 yX8_isRowLane wsX8_isRowLane) := goodIn_app (gp_s (gp_c (gj_X8_itemAt_1 _ (gp_1 gp_h)) (gp_c (gj_X8_itemAt_1 _ (gp_1 (gp_1 gp_h))) (gp_c (gj_X8_itemAt_0 _ (gp_4 (gp_4 (gp_4 (gp_1 gp_h))))) (gp_n)))) (gp_t)) ggX8_itemAt_X8_isRowLane
set_option maxRecDepth 20000 in
theorem ggX8_itemAt_X8_isBelow : GoodIn wsX8_itemAt wsX8_isBelow := gp_s (gp_c (gj_X8_itemAt_1 _ (gp_h)) (gp_n)) gb_X8_isBelow
set_option maxRecDepth 20000 in
theorem gX8_itemAt_X8_isBelow : GoodIn wsX8_itemAt (va_wsS RX8 74 yX8_isBelow wsX8_isBelow) := goodIn_app (gp_s (gp_c (gj_X8_itemAt_1 _ (gp_4 gp_h)) (gp_c (gj_X8_itemAt_0 _ (gp_16 (gp_4 (gp_1 (gp_1 (gp_1 gp_h)))))) (gp_c (gj_X8_itemAt_0 _ (gp_4 (gp_4 (gp_4 (gp_1 gp_h))))) (gp_n)))) (gp_t)) ggX8_itemAt_X8_isBelow
noncomputable def nX8_itemAt : Nat := 0xad2f1da100b40519bfc000b7cb1259bc00bb0d009a4a00b8bea100b405191dbfc800b7c91259c400bb0d00c70519053a321c9e00b40419bfc800b7c61259c400bb0d009a9600b82e1c8700b46100b40419bfc000b7be1259bc00bb0d009a6800b61c6100b40419bfb900b7b71259b500bb0d00c70419043ab100b6851b2a
theorem bX8_itemAt : Bts cX8_itemAt nX8_itemAt 126 := by unfold Bts; decide +kernel
theorem dX8_itemAt_0 : decode cX8_itemAt 0 = .ok (.aload_n 0, 1) := dz_42 (b_1 bX8_itemAt (by decide +kernel))
theorem dX8_itemAt_1 : decode cX8_itemAt 1 = .ok (.iload_n 1, 1) := dz_27 (b_1 bX8_itemAt (by decide +kernel))
theorem dX8_itemAt_2 : decode cX8_itemAt 2 = .ok (.i2l, 1) := dz_133 (b_1 bX8_itemAt (by decide +kernel))
theorem dX8_itemAt_3 : decode cX8_itemAt 3 = .ok (.invokevirtual 177, 3) := dz_182 (b_3 (a := 0) (b := 177) bX8_itemAt (by decide +kernel))
theorem dX8_itemAt_6 : decode cX8_itemAt 6 = .ok (.astore 4, 2) := dz_58 (b_2 (a := 4) bX8_itemAt (by decide +kernel))
theorem dX8_itemAt_8 : decode cX8_itemAt 8 = .ok (.aload 4, 2) := dz_25 (b_2 (a := 4) bX8_itemAt (by decide +kernel))
theorem dX8_itemAt_10 : decode cX8_itemAt 10 = .ok (.ifnonnull 13, 3) := dz_199 (b_3 (a := 0) (b := 13) bX8_itemAt (by decide +kernel)) (by decide +kernel)
theorem dX8_itemAt_13 : decode cX8_itemAt 13 = .ok (.new 181, 3) := dz_187 (b_3 (a := 0) (b := 181) bX8_itemAt (by decide +kernel))
theorem dX8_itemAt_16 : decode cX8_itemAt 16 = .ok (.dup, 1) := dz_89 (b_1 bX8_itemAt (by decide +kernel))
theorem dX8_itemAt_17 : decode cX8_itemAt 17 = .ok (.ldc 183, 2) := dz_18 (b_2 (a := 183) bX8_itemAt (by decide +kernel))
theorem dX8_itemAt_19 : decode cX8_itemAt 19 = .ok (.invokespecial 185, 3) := dz_183 (b_3 (a := 0) (b := 185) bX8_itemAt (by decide +kernel))
theorem dX8_itemAt_22 : decode cX8_itemAt 22 = .ok (.athrow, 1) := dz_191 (b_1 bX8_itemAt (by decide +kernel))
theorem dX8_itemAt_23 : decode cX8_itemAt 23 = .ok (.aload 4, 2) := dz_25 (b_2 (a := 4) bX8_itemAt (by decide +kernel))
theorem dX8_itemAt_25 : decode cX8_itemAt 25 = .ok (.getfield 97, 3) := dz_180 (b_3 (a := 0) (b := 97) bX8_itemAt (by decide +kernel))
theorem dX8_itemAt_28 : decode cX8_itemAt 28 = .ok (.iload_n 2, 1) := dz_28 (b_1 bX8_itemAt (by decide +kernel))
theorem dX8_itemAt_29 : decode cX8_itemAt 29 = .ok (.invokevirtual 104, 3) := dz_182 (b_3 (a := 0) (b := 104) bX8_itemAt (by decide +kernel))
theorem dX8_itemAt_32 : decode cX8_itemAt 32 = .ok (.ifCond .ne 13, 3) := dz_154 (b_3 (a := 0) (b := 13) bX8_itemAt (by decide +kernel)) (by decide +kernel)
theorem dX8_itemAt_35 : decode cX8_itemAt 35 = .ok (.new 188, 3) := dz_187 (b_3 (a := 0) (b := 188) bX8_itemAt (by decide +kernel))
theorem dX8_itemAt_38 : decode cX8_itemAt 38 = .ok (.dup, 1) := dz_89 (b_1 bX8_itemAt (by decide +kernel))
theorem dX8_itemAt_39 : decode cX8_itemAt 39 = .ok (.ldc 190, 2) := dz_18 (b_2 (a := 190) bX8_itemAt (by decide +kernel))
theorem dX8_itemAt_41 : decode cX8_itemAt 41 = .ok (.invokespecial 192, 3) := dz_183 (b_3 (a := 0) (b := 192) bX8_itemAt (by decide +kernel))
theorem dX8_itemAt_44 : decode cX8_itemAt 44 = .ok (.athrow, 1) := dz_191 (b_1 bX8_itemAt (by decide +kernel))
theorem dX8_itemAt_45 : decode cX8_itemAt 45 = .ok (.aload 4, 2) := dz_25 (b_2 (a := 4) bX8_itemAt (by decide +kernel))
theorem dX8_itemAt_47 : decode cX8_itemAt 47 = .ok (.getfield 97, 3) := dz_180 (b_3 (a := 0) (b := 97) bX8_itemAt (by decide +kernel))
theorem dX8_itemAt_50 : decode cX8_itemAt 50 = .ok (.getfield 135, 3) := dz_180 (b_3 (a := 0) (b := 135) bX8_itemAt (by decide +kernel))
theorem dX8_itemAt_53 : decode cX8_itemAt 53 = .ok (.iload_n 2, 1) := dz_28 (b_1 bX8_itemAt (by decide +kernel))
theorem dX8_itemAt_54 : decode cX8_itemAt 54 = .ok (.iaload, 1) := dz_46 (b_1 bX8_itemAt (by decide +kernel))
theorem dX8_itemAt_55 : decode cX8_itemAt 55 = .ok (.invokestatic 150, 3) := dz_184 (b_3 (a := 0) (b := 150) bX8_itemAt (by decide +kernel))
theorem dX8_itemAt_58 : decode cX8_itemAt 58 = .ok (.ifCond .ne 13, 3) := dz_154 (b_3 (a := 0) (b := 13) bX8_itemAt (by decide +kernel)) (by decide +kernel)
theorem dX8_itemAt_61 : decode cX8_itemAt 61 = .ok (.new 196, 3) := dz_187 (b_3 (a := 0) (b := 196) bX8_itemAt (by decide +kernel))
theorem dX8_itemAt_64 : decode cX8_itemAt 64 = .ok (.dup, 1) := dz_89 (b_1 bX8_itemAt (by decide +kernel))
theorem dX8_itemAt_65 : decode cX8_itemAt 65 = .ok (.ldc 198, 2) := dz_18 (b_2 (a := 198) bX8_itemAt (by decide +kernel))
theorem dX8_itemAt_67 : decode cX8_itemAt 67 = .ok (.invokespecial 200, 3) := dz_183 (b_3 (a := 0) (b := 200) bX8_itemAt (by decide +kernel))
theorem dX8_itemAt_70 : decode cX8_itemAt 70 = .ok (.athrow, 1) := dz_191 (b_1 bX8_itemAt (by decide +kernel))
theorem dX8_itemAt_71 : decode cX8_itemAt 71 = .ok (.aload 4, 2) := dz_25 (b_2 (a := 4) bX8_itemAt (by decide +kernel))
theorem dX8_itemAt_73 : decode cX8_itemAt 73 = .ok (.getfield 158, 3) := dz_180 (b_3 (a := 0) (b := 158) bX8_itemAt (by decide +kernel))
theorem dX8_itemAt_76 : decode cX8_itemAt 76 = .ok (.iload_n 2, 1) := dz_28 (b_1 bX8_itemAt (by decide +kernel))
theorem dX8_itemAt_77 : decode cX8_itemAt 77 = .ok (.aaload, 1) := dz_50 (b_1 bX8_itemAt (by decide +kernel))
theorem dX8_itemAt_78 : decode cX8_itemAt 78 = .ok (.astore 5, 2) := dz_58 (b_2 (a := 5) bX8_itemAt (by decide +kernel))
theorem dX8_itemAt_80 : decode cX8_itemAt 80 = .ok (.aload 5, 2) := dz_25 (b_2 (a := 5) bX8_itemAt (by decide +kernel))
theorem dX8_itemAt_82 : decode cX8_itemAt 82 = .ok (.ifnonnull 13, 3) := dz_199 (b_3 (a := 0) (b := 13) bX8_itemAt (by decide +kernel)) (by decide +kernel)
theorem dX8_itemAt_85 : decode cX8_itemAt 85 = .ok (.new 196, 3) := dz_187 (b_3 (a := 0) (b := 196) bX8_itemAt (by decide +kernel))
theorem dX8_itemAt_88 : decode cX8_itemAt 88 = .ok (.dup, 1) := dz_89 (b_1 bX8_itemAt (by decide +kernel))
theorem dX8_itemAt_89 : decode cX8_itemAt 89 = .ok (.ldc 201, 2) := dz_18 (b_2 (a := 201) bX8_itemAt (by decide +kernel))
theorem dX8_itemAt_91 : decode cX8_itemAt 91 = .ok (.invokespecial 200, 3) := dz_183 (b_3 (a := 0) (b := 200) bX8_itemAt (by decide +kernel))
theorem dX8_itemAt_94 : decode cX8_itemAt 94 = .ok (.athrow, 1) := dz_191 (b_1 bX8_itemAt (by decide +kernel))
theorem dX8_itemAt_95 : decode cX8_itemAt 95 = .ok (.iload_n 3, 1) := dz_29 (b_1 bX8_itemAt (by decide +kernel))
theorem dX8_itemAt_96 : decode cX8_itemAt 96 = .ok (.aload 5, 2) := dz_25 (b_2 (a := 5) bX8_itemAt (by decide +kernel))
theorem dX8_itemAt_98 : decode cX8_itemAt 98 = .ok (.getfield 161, 3) := dz_180 (b_3 (a := 0) (b := 161) bX8_itemAt (by decide +kernel))
theorem dX8_itemAt_101 : decode cX8_itemAt 101 = .ok (.arraylength, 1) := dz_190 (b_1 bX8_itemAt (by decide +kernel))
theorem dX8_itemAt_102 : decode cX8_itemAt 102 = .ok (.invokestatic 74, 3) := dz_184 (b_3 (a := 0) (b := 74) bX8_itemAt (by decide +kernel))
theorem dX8_itemAt_105 : decode cX8_itemAt 105 = .ok (.ifCond .ne 13, 3) := dz_154 (b_3 (a := 0) (b := 13) bX8_itemAt (by decide +kernel)) (by decide +kernel)
theorem dX8_itemAt_108 : decode cX8_itemAt 108 = .ok (.new 188, 3) := dz_187 (b_3 (a := 0) (b := 188) bX8_itemAt (by decide +kernel))
theorem dX8_itemAt_111 : decode cX8_itemAt 111 = .ok (.dup, 1) := dz_89 (b_1 bX8_itemAt (by decide +kernel))
theorem dX8_itemAt_112 : decode cX8_itemAt 112 = .ok (.ldc 203, 2) := dz_18 (b_2 (a := 203) bX8_itemAt (by decide +kernel))
theorem dX8_itemAt_114 : decode cX8_itemAt 114 = .ok (.invokespecial 192, 3) := dz_183 (b_3 (a := 0) (b := 192) bX8_itemAt (by decide +kernel))
theorem dX8_itemAt_117 : decode cX8_itemAt 117 = .ok (.athrow, 1) := dz_191 (b_1 bX8_itemAt (by decide +kernel))
theorem dX8_itemAt_118 : decode cX8_itemAt 118 = .ok (.aload 5, 2) := dz_25 (b_2 (a := 5) bX8_itemAt (by decide +kernel))
theorem dX8_itemAt_120 : decode cX8_itemAt 120 = .ok (.getfield 161, 3) := dz_180 (b_3 (a := 0) (b := 161) bX8_itemAt (by decide +kernel))
theorem dX8_itemAt_123 : decode cX8_itemAt 123 = .ok (.iload_n 3, 1) := dz_29 (b_1 bX8_itemAt (by decide +kernel))
theorem dX8_itemAt_124 : decode cX8_itemAt 124 = .ok (.laload, 1) := dz_47 (b_1 bX8_itemAt (by decide +kernel))
theorem dX8_itemAt_125 : decode cX8_itemAt 125 = .ok (.lreturn, 1) := dz_173 (b_1 bX8_itemAt (by decide +kernel))
noncomputable def nX8_forget : Nat := 0xac1b5e00b5032a3c5e00b42aacfd1006009e5200b43300b42a
theorem bX8_forget : Bts cX8_forget nX8_forget 25 := by unfold Bts; decide +kernel
theorem dX8_forget_0 : decode cX8_forget 0 = .ok (.aload_n 0, 1) := dz_42 (b_1 bX8_forget (by decide +kernel))
theorem dX8_forget_1 : decode cX8_forget 1 = .ok (.getfield 51, 3) := dz_180 (b_3 (a := 0) (b := 51) bX8_forget (by decide +kernel))
theorem dX8_forget_4 : decode cX8_forget 4 = .ok (.getfield 82, 3) := dz_180 (b_3 (a := 0) (b := 82) bX8_forget (by decide +kernel))
theorem dX8_forget_7 : decode cX8_forget 7 = .ok (.ifCond .le 6, 3) := dz_158 (b_3 (a := 0) (b := 6) bX8_forget (by decide +kernel)) (by decide +kernel)
theorem dX8_forget_10 : decode cX8_forget 10 = .ok (.bipush (-3), 2) := dz_16 (b_2 (a := 253) bX8_forget (by decide +kernel)) (by decide +kernel)
theorem dX8_forget_12 : decode cX8_forget 12 = .ok (.ireturn, 1) := dz_172 (b_1 bX8_forget (by decide +kernel))
theorem dX8_forget_13 : decode cX8_forget 13 = .ok (.aload_n 0, 1) := dz_42 (b_1 bX8_forget (by decide +kernel))
theorem dX8_forget_14 : decode cX8_forget 14 = .ok (.getfield 94, 3) := dz_180 (b_3 (a := 0) (b := 94) bX8_forget (by decide +kernel))
theorem dX8_forget_17 : decode cX8_forget 17 = .ok (.istore_n 1, 1) := dz_60 (b_1 bX8_forget (by decide +kernel))
theorem dX8_forget_18 : decode cX8_forget 18 = .ok (.aload_n 0, 1) := dz_42 (b_1 bX8_forget (by decide +kernel))
theorem dX8_forget_19 : decode cX8_forget 19 = .ok (.iconst 0, 1) := dz_3 (b_1 bX8_forget (by decide +kernel))
theorem dX8_forget_20 : decode cX8_forget 20 = .ok (.putfield 94, 3) := dz_181 (b_3 (a := 0) (b := 94) bX8_forget (by decide +kernel))
theorem dX8_forget_23 : decode cX8_forget 23 = .ok (.iload_n 1, 1) := dz_27 (b_1 bX8_forget (by decide +kernel))
theorem dX8_forget_24 : decode cX8_forget 24 = .ok (.ireturn, 1) := dz_172 (b_1 bX8_forget (by decide +kernel))
theorem gj_X8_told_0 : GpS ([.fieldLink RX8 97 "StateRecords$Thing" "type" "LStateRecords$Type;", .fieldLink RX8 205 "StateRecords$Type" "number" "I", .fieldLink RX8 85 "StateRecords$Type" "fieldCount" "I", .methodLink RX8 177 yX8_thingNumbered, .instanceMethod yX8_thingNumbered, .selects RX8 yX8_thingNumbered yX8_thingNumbered, .initialized RX8, .code yX8_thingNumbered cX8_thingNumbered 3 (some (.object "StateRecords$Thing")), .fieldLink RX8 94 "StateRecords" "thingCount" "I", .fieldLink RX8 17 "StateRecords" "things" "[LStateRecords$Thing;"]) wsX8_told := fun w h => List.mem_cons_of_mem _ (List.mem_append_left _ (List.mem_append_left _ (List.mem_append_left _ (h))))
theorem gj_X8_told_3 : GpS (wsX80) wsX8_told := fun w h => List.mem_cons_of_mem _ (List.mem_append_right _ (h))
set_option maxRecDepth 20000 in
theorem ggX8_told_X8_thingNumbered : GoodIn wsX8_told wsX8_thingNumbered := gp_s (gp_c (gj_X8_told_0 _ (gp_4 (gp_1 (gp_1 (gp_1 gp_h))))) (gp_a (gp_c (gj_X8_told_0 _ (gp_4 (gp_4 gp_h))) (gp_c (gj_X8_told_0 _ (gp_4 (gp_4 (gp_1 gp_h)))) (gp_n))) (gj_X8_told_3))) gb_X8_thingNumbered
set_option maxRecDepth 20000 in
theorem gX8_told_X8_thingNumbered : GoodIn wsX8_told (wsV RX8 177 RX8 yX8_thingNumbered wsX8_thingNumbered) := goodIn_app (gp_s (gp_c (gj_X8_told_0 _ (gp_1 (gp_1 (gp_1 gp_h)))) (gp_c (gj_X8_told_0 _ (gp_4 gp_h)) (gp_c (gj_X8_told_0 _ (gp_4 (gp_1 gp_h))) (gp_c (gj_X8_told_0 _ (gp_4 (gp_1 (gp_1 gp_h)))) (gp_n))))) (gp_v)) ggX8_told_X8_thingNumbered
noncomputable def nX8_told : Nat := 0xacfe10ac5500b46100b42daccd00b46100b42d22000000010000001a00000000000000020000002a00000000ab1cac020500c72d4eb100b6851b2a
theorem bX8_told : Bts cX8_told nX8_told 59 := by unfold Bts; decide +kernel
theorem dX8_told_0 : decode cX8_told 0 = .ok (.aload_n 0, 1) := dz_42 (b_1 bX8_told (by decide +kernel))
theorem dX8_told_1 : decode cX8_told 1 = .ok (.iload_n 1, 1) := dz_27 (b_1 bX8_told (by decide +kernel))
theorem dX8_told_2 : decode cX8_told 2 = .ok (.i2l, 1) := dz_133 (b_1 bX8_told (by decide +kernel))
theorem dX8_told_3 : decode cX8_told 3 = .ok (.invokevirtual 177, 3) := dz_182 (b_3 (a := 0) (b := 177) bX8_told (by decide +kernel))
theorem dX8_told_6 : decode cX8_told 6 = .ok (.astore_n 3, 1) := dz_78 (b_1 bX8_told (by decide +kernel))
theorem dX8_told_7 : decode cX8_told 7 = .ok (.aload_n 3, 1) := dz_45 (b_1 bX8_told (by decide +kernel))
theorem dX8_told_8 : decode cX8_told 8 = .ok (.ifnonnull 5, 3) := dz_199 (b_3 (a := 0) (b := 5) bX8_told (by decide +kernel)) (by decide +kernel)
theorem dX8_told_11 : decode cX8_told 11 = .ok (.iconst (-1), 1) := dz_2 (b_1 bX8_told (by decide +kernel))
theorem dX8_told_12 : decode cX8_told 12 = .ok (.ireturn, 1) := dz_172 (b_1 bX8_told (by decide +kernel))
theorem dX8_told_13 : decode cX8_told 13 = .ok (.iload_n 2, 1) := dz_28 (b_1 bX8_told (by decide +kernel))
theorem dX8_told_14 : decode cX8_told 14 = .ok (.lookupswitch 42 #[(0, 26), (1, 34)], 26) := by decide +kernel
theorem dX8_told_40 : decode cX8_told 40 = .ok (.aload_n 3, 1) := dz_45 (b_1 bX8_told (by decide +kernel))
theorem dX8_told_41 : decode cX8_told 41 = .ok (.getfield 97, 3) := dz_180 (b_3 (a := 0) (b := 97) bX8_told (by decide +kernel))
theorem dX8_told_44 : decode cX8_told 44 = .ok (.getfield 205, 3) := dz_180 (b_3 (a := 0) (b := 205) bX8_told (by decide +kernel))
theorem dX8_told_47 : decode cX8_told 47 = .ok (.ireturn, 1) := dz_172 (b_1 bX8_told (by decide +kernel))
theorem dX8_told_48 : decode cX8_told 48 = .ok (.aload_n 3, 1) := dz_45 (b_1 bX8_told (by decide +kernel))
theorem dX8_told_49 : decode cX8_told 49 = .ok (.getfield 97, 3) := dz_180 (b_3 (a := 0) (b := 97) bX8_told (by decide +kernel))
theorem dX8_told_52 : decode cX8_told 52 = .ok (.getfield 85, 3) := dz_180 (b_3 (a := 0) (b := 85) bX8_told (by decide +kernel))
theorem dX8_told_55 : decode cX8_told 55 = .ok (.ireturn, 1) := dz_172 (b_1 bX8_told (by decide +kernel))
theorem dX8_told_56 : decode cX8_told 56 = .ok (.bipush (-2), 2) := dz_16 (b_2 (a := 254) bX8_told (by decide +kernel)) (by decide +kernel)
theorem dX8_told_58 : decode cX8_told 58 = .ok (.ireturn, 1) := dz_172 (b_1 bX8_told (by decide +kernel))
theorem gj_X8_judge_0 : GpS (wsX8_judge_r1) wsX8_judge := fun w h => List.mem_cons_of_mem _ (List.mem_append_left _ (List.mem_append_left _ (List.mem_append_left _ (List.mem_append_left _ (List.mem_append_left _ (List.mem_append_left _ (h)))))))
theorem gj_X8_judge_6 : GpS (wsX80) wsX8_judge := fun w h => List.mem_cons_of_mem _ (List.mem_append_left _ (List.mem_append_left _ (List.mem_append_right _ (h))))
set_option maxRecDepth 20000 in
theorem ggX8_judge_X8_thingNumbered : GoodIn wsX8_judge wsX8_thingNumbered := gp_s (gp_c (gj_X8_judge_0 _ (gp_4 (gp_1 (gp_1 gp_h)))) (gp_a (gp_c (gj_X8_judge_0 _ (gp_4 (gp_1 (gp_1 (gp_1 gp_h))))) (gp_c (gj_X8_judge_0 _ (gp_4 (gp_4 gp_h))) (gp_n))) (gj_X8_judge_6))) gb_X8_thingNumbered
set_option maxRecDepth 20000 in
theorem gX8_judge_X8_thingNumbered : GoodIn wsX8_judge (wsV RX8 177 RX8 yX8_thingNumbered wsX8_thingNumbered) := goodIn_app (gp_s (gp_c (gj_X8_judge_0 _ (gp_1 (gp_1 gp_h))) (gp_c (gj_X8_judge_0 _ (gp_1 (gp_1 (gp_1 gp_h)))) (gp_c (gj_X8_judge_0 _ (gp_4 gp_h)) (gp_c (gj_X8_judge_0 _ (gp_4 (gp_1 gp_h))) (gp_n))))) (gp_v)) ggX8_judge_X8_thingNumbered
theorem gb_X8_firstFailingCheck : wsX8_firstFailingCheck.all goodWord = true := by decide +kernel
theorem gj_X8_judge_1 : GpS (wsX8_judge_r2) wsX8_judge := fun w h => List.mem_cons_of_mem _ (List.mem_append_left _ (List.mem_append_left _ (List.mem_append_left _ (List.mem_append_left _ (List.mem_append_left _ (List.mem_append_right _ (List.mem_append_left _ (h))))))))
theorem gj_X8_judge_2 : GpS (wsX8_judge_r3) wsX8_judge := fun w h => List.mem_cons_of_mem _ (List.mem_append_left _ (List.mem_append_left _ (List.mem_append_left _ (List.mem_append_left _ (List.mem_append_left _ (List.mem_append_right _ (List.mem_append_right _ (List.mem_append_left _ (h)))))))))
theorem gj_X8_judge_4 : GpS (wsX60) wsX8_judge := fun w h => List.mem_cons_of_mem _ (List.mem_append_left _ (List.mem_append_left _ (List.mem_append_left _ (List.mem_append_left _ (List.mem_append_right _ (h))))))
theorem gj_X8_judge_5 : GpS (wsX70) wsX8_judge := fun w h => List.mem_cons_of_mem _ (List.mem_append_left _ (List.mem_append_left _ (List.mem_append_left _ (List.mem_append_right _ (h)))))
theorem gj_X8_judge_7 : GpS (wsX00) wsX8_judge := fun w h => List.mem_cons_of_mem _ (List.mem_append_left _ (List.mem_append_right _ (h)))
theorem gj_X8_judge_8 : GpS (wsX50) wsX8_judge := fun w h => List.mem_cons_of_mem _ (List.mem_append_right _ (h))
set_option maxRecDepth 20000 in
theorem ggX8_judge_X8_firstFailingCheck : GoodIn wsX8_judge wsX8_firstFailingCheck := gp_s (gp_c (gj_X8_judge_0 _ (gp_4 (gp_4 (gp_4 gp_h)))) (gp_a (gp_a (gp_a (gp_a (gp_a (gp_a (gp_c (gj_X8_judge_0 _ (gp_h)) (gp_c (gj_X8_judge_0 _ (gp_4 (gp_4 (gp_4 (gp_1 gp_h))))) (gp_c (gj_X8_judge_0 _ (gp_1 gp_h)) (gp_c (gj_X8_judge_0 _ (gp_4 (gp_4 (gp_4 (gp_1 (gp_1 gp_h)))))) (gp_c (gj_X8_judge_0 _ (gp_4 (gp_4 (gp_4 (gp_1 (gp_1 (gp_1 gp_h))))))) (gp_c (gj_X8_judge_0 _ (gp_16 gp_h)) (gp_c (gj_X8_judge_0 _ (gp_4 (gp_1 gp_h))) (gp_c (gj_X8_judge_0 _ (gp_16 (gp_1 gp_h))) (gp_c (gj_X8_judge_0 _ (gp_16 (gp_1 (gp_1 gp_h)))) (gp_c (gj_X8_judge_0 _ (gp_16 (gp_1 (gp_1 (gp_1 gp_h))))) (gp_c (gj_X8_judge_0 _ (gp_16 (gp_4 gp_h))) (gp_c (gj_X8_judge_0 _ (gp_16 (gp_4 (gp_1 gp_h)))) (gp_c (gj_X8_judge_0 _ (gp_16 (gp_4 (gp_1 (gp_1 gp_h))))) (gp_c (gj_X8_judge_0 _ (gp_16 (gp_4 (gp_1 (gp_1 (gp_1 gp_h)))))) (gp_c (gj_X8_judge_1 _ (gp_h)) (gp_c (gj_X8_judge_1 _ (gp_1 gp_h)) (gp_c (gj_X8_judge_1 _ (gp_1 (gp_1 gp_h))) (gp_c (gj_X8_judge_1 _ (gp_1 (gp_1 (gp_1 gp_h)))) (gp_c (gj_X8_judge_1 _ (gp_4 gp_h)) (gp_c (gj_X8_judge_1 _ (gp_4 (gp_1 gp_h))) (gp_c (gj_X8_judge_1 _ (gp_4 (gp_1 (gp_1 gp_h)))) (gp_c (gj_X8_judge_1 _ (gp_4 (gp_1 (gp_1 (gp_1 gp_h))))) (gp_c (gj_X8_judge_1 _ (gp_4 (gp_4 gp_h))) (gp_c (gj_X8_judge_1 _ (gp_4 (gp_4 (gp_1 gp_h)))) (gp_n))))))))))))))))))))))))) (gp_a (gp_c (gj_X8_judge_1 _ (gp_4 (gp_4 (gp_1 (gp_1 gp_h))))) (gp_c (gj_X8_judge_1 _ (gp_4 (gp_4 (gp_1 (gp_1 (gp_1 gp_h)))))) (gp_c (gj_X8_judge_1 _ (gp_4 (gp_4 (gp_4 gp_h)))) (gp_c (gj_X8_judge_1 _ (gp_4 (gp_4 (gp_4 (gp_1 gp_h))))) (gp_c (gj_X8_judge_1 _ (gp_4 (gp_4 (gp_4 (gp_1 (gp_1 gp_h)))))) (gp_c (gj_X8_judge_1 _ (gp_4 (gp_4 (gp_4 (gp_1 (gp_1 (gp_1 gp_h))))))) (gp_c (gj_X8_judge_1 _ (gp_16 gp_h)) (gp_c (gj_X8_judge_1 _ (gp_16 (gp_1 gp_h))) (gp_c (gj_X8_judge_1 _ (gp_16 (gp_1 (gp_1 gp_h)))) (gp_c (gj_X8_judge_1 _ (gp_16 (gp_1 (gp_1 (gp_1 gp_h))))) (gp_c (gj_X8_judge_0 _ (gp_1 (gp_1 gp_h))) (gp_c (gj_X8_judge_0 _ (gp_1 (gp_1 (gp_1 gp_h)))) (gp_c (gj_X8_judge_0 _ (gp_4 gp_h)) (gp_c (gj_X8_judge_0 _ (gp_4 (gp_1 (gp_1 gp_h)))) (gp_c (gj_X8_judge_0 _ (gp_4 (gp_1 (gp_1 (gp_1 gp_h))))) (gp_c (gj_X8_judge_0 _ (gp_4 (gp_4 gp_h))) (gp_c (gj_X8_judge_1 _ (gp_16 (gp_4 gp_h))) (gp_c (gj_X8_judge_1 _ (gp_16 (gp_4 (gp_1 gp_h)))) (gp_c (gj_X8_judge_1 _ (gp_16 (gp_4 (gp_1 (gp_1 gp_h))))) (gp_c (gj_X8_judge_1 _ (gp_16 (gp_4 (gp_1 (gp_1 (gp_1 gp_h)))))) (gp_c (gj_X8_judge_2 _ (gp_h)) (gp_c (gj_X8_judge_2 _ (gp_1 gp_h)) (gp_c (gj_X8_judge_2 _ (gp_1 (gp_1 gp_h))) (gp_c (gj_X8_judge_2 _ (gp_1 (gp_1 (gp_1 gp_h)))) (gp_n))))))))))))))))))))))))) (gp_c (gj_X8_judge_2 _ (gp_4 gp_h)) (gp_c (gj_X8_judge_2 _ (gp_4 (gp_1 gp_h))) (gp_c (gj_X8_judge_2 _ (gp_4 (gp_1 (gp_1 gp_h)))) (gp_c (gj_X8_judge_2 _ (gp_4 (gp_1 (gp_1 (gp_1 gp_h))))) (gp_c (gj_X8_judge_2 _ (gp_4 (gp_4 gp_h))) (gp_c (gj_X8_judge_2 _ (gp_4 (gp_4 (gp_1 gp_h)))) (gp_c (gj_X8_judge_2 _ (gp_4 (gp_4 (gp_1 (gp_1 gp_h))))) (gp_c (gj_X8_judge_2 _ (gp_4 (gp_4 (gp_1 (gp_1 (gp_1 gp_h)))))) (gp_c (gj_X8_judge_2 _ (gp_4 (gp_4 (gp_4 gp_h)))) (gp_c (gj_X8_judge_2 _ (gp_4 (gp_4 (gp_4 (gp_1 gp_h))))) (gp_c (gj_X8_judge_2 _ (gp_4 (gp_4 (gp_4 (gp_1 (gp_1 gp_h)))))) (gp_c (gj_X8_judge_2 _ (gp_4 (gp_4 (gp_4 (gp_1 (gp_1 (gp_1 gp_h))))))) (gp_c (gj_X8_judge_2 _ (gp_16 gp_h)) (gp_c (gj_X8_judge_2 _ (gp_16 (gp_1 gp_h))) (gp_c (gj_X8_judge_2 _ (gp_16 (gp_1 (gp_1 gp_h)))) (gp_c (gj_X8_judge_2 _ (gp_16 (gp_1 (gp_1 (gp_1 gp_h))))) (gp_c (gj_X8_judge_2 _ (gp_16 (gp_4 gp_h))) (gp_c (gj_X8_judge_2 _ (gp_16 (gp_4 (gp_1 gp_h)))) (gp_c (gj_X8_judge_2 _ (gp_16 (gp_4 (gp_1 (gp_1 gp_h))))) (gp_c (gj_X8_judge_2 _ (gp_16 (gp_4 (gp_1 (gp_1 (gp_1 gp_h)))))) (gp_n))))))))))))))))))))))) (gj_X8_judge_4)) (gj_X8_judge_5)) (gj_X8_judge_7)) (gj_X8_judge_6)) (gj_X8_judge_8))) gb_X8_firstFailingCheck
set_option maxRecDepth 20000 in
theorem gX8_judge_X8_firstFailingCheck : GoodIn wsX8_judge (wsV RX8 208 RX8 yX8_firstFailingCheck wsX8_firstFailingCheck) := goodIn_app (gp_s (gp_c (gj_X8_judge_0 _ (gp_4 (gp_4 (gp_1 gp_h)))) (gp_c (gj_X8_judge_0 _ (gp_4 (gp_4 (gp_1 (gp_1 gp_h))))) (gp_c (gj_X8_judge_0 _ (gp_4 (gp_4 (gp_1 (gp_1 (gp_1 gp_h)))))) (gp_c (gj_X8_judge_0 _ (gp_4 (gp_1 gp_h))) (gp_n))))) (gp_v)) ggX8_judge_X8_firstFailingCheck
theorem gb_X8_failureOf : wsX8_failureOf.all goodWord = true := by decide +kernel
set_option maxRecDepth 20000 in
theorem ggX8_judge_X8_failureOf : GoodIn wsX8_judge wsX8_failureOf := gp_s (gp_c (gj_X8_judge_0 _ (gp_16 (gp_1 gp_h))) (gp_a (gp_a (gp_a (gp_a (gp_a (gp_a (gp_c (gj_X8_judge_0 _ (gp_16 (gp_1 (gp_1 gp_h)))) (gp_c (gj_X8_judge_0 _ (gp_16 (gp_1 (gp_1 (gp_1 gp_h))))) (gp_c (gj_X8_judge_0 _ (gp_16 (gp_4 gp_h))) (gp_c (gj_X8_judge_0 _ (gp_4 (gp_1 gp_h))) (gp_c (gj_X8_judge_0 _ (gp_16 (gp_4 (gp_1 gp_h)))) (gp_c (gj_X8_judge_0 _ (gp_h)) (gp_c (gj_X8_judge_0 _ (gp_16 (gp_4 (gp_1 (gp_1 gp_h))))) (gp_c (gj_X8_judge_0 _ (gp_16 (gp_4 (gp_1 (gp_1 (gp_1 gp_h)))))) (gp_c (gj_X8_judge_1 _ (gp_h)) (gp_c (gj_X8_judge_1 _ (gp_1 gp_h)) (gp_c (gj_X8_judge_1 _ (gp_1 (gp_1 gp_h))) (gp_c (gj_X8_judge_1 _ (gp_1 (gp_1 (gp_1 gp_h)))) (gp_c (gj_X8_judge_1 _ (gp_4 gp_h)) (gp_c (gj_X8_judge_1 _ (gp_4 (gp_1 gp_h))) (gp_c (gj_X8_judge_1 _ (gp_4 (gp_1 (gp_1 gp_h)))) (gp_c (gj_X8_judge_1 _ (gp_4 (gp_1 (gp_1 (gp_1 gp_h))))) (gp_c (gj_X8_judge_1 _ (gp_4 (gp_4 gp_h))) (gp_c (gj_X8_judge_1 _ (gp_4 (gp_4 (gp_1 gp_h)))) (gp_c (gj_X8_judge_1 _ (gp_4 (gp_4 (gp_1 (gp_1 gp_h))))) (gp_c (gj_X8_judge_1 _ (gp_4 (gp_4 (gp_1 (gp_1 (gp_1 gp_h)))))) (gp_c (gj_X8_judge_1 _ (gp_4 (gp_4 (gp_4 gp_h)))) (gp_c (gj_X8_judge_1 _ (gp_4 (gp_4 (gp_4 (gp_1 gp_h))))) (gp_c (gj_X8_judge_1 _ (gp_4 (gp_4 (gp_4 (gp_1 (gp_1 gp_h)))))) (gp_c (gj_X8_judge_1 _ (gp_4 (gp_4 (gp_4 (gp_1 (gp_1 (gp_1 gp_h))))))) (gp_n))))))))))))))))))))))))) (gp_a (gp_c (gj_X8_judge_1 _ (gp_16 gp_h)) (gp_c (gj_X8_judge_1 _ (gp_16 (gp_1 gp_h))) (gp_c (gj_X8_judge_1 _ (gp_16 (gp_1 (gp_1 gp_h)))) (gp_c (gj_X8_judge_1 _ (gp_16 (gp_1 (gp_1 (gp_1 gp_h))))) (gp_c (gj_X8_judge_0 _ (gp_1 (gp_1 gp_h))) (gp_c (gj_X8_judge_0 _ (gp_1 (gp_1 (gp_1 gp_h)))) (gp_c (gj_X8_judge_0 _ (gp_4 gp_h)) (gp_c (gj_X8_judge_0 _ (gp_4 (gp_1 (gp_1 gp_h)))) (gp_c (gj_X8_judge_0 _ (gp_4 (gp_1 (gp_1 (gp_1 gp_h))))) (gp_c (gj_X8_judge_0 _ (gp_4 (gp_4 gp_h))) (gp_c (gj_X8_judge_1 _ (gp_16 (gp_4 gp_h))) (gp_c (gj_X8_judge_1 _ (gp_16 (gp_4 (gp_1 gp_h)))) (gp_c (gj_X8_judge_1 _ (gp_16 (gp_4 (gp_1 (gp_1 gp_h))))) (gp_c (gj_X8_judge_1 _ (gp_16 (gp_4 (gp_1 (gp_1 (gp_1 gp_h)))))) (gp_c (gj_X8_judge_2 _ (gp_h)) (gp_c (gj_X8_judge_2 _ (gp_1 gp_h)) (gp_c (gj_X8_judge_2 _ (gp_1 (gp_1 gp_h))) (gp_c (gj_X8_judge_2 _ (gp_1 (gp_1 (gp_1 gp_h)))) (gp_c (gj_X8_judge_2 _ (gp_4 gp_h)) (gp_c (gj_X8_judge_2 _ (gp_4 (gp_1 gp_h))) (gp_c (gj_X8_judge_2 _ (gp_4 (gp_1 (gp_1 gp_h)))) (gp_c (gj_X8_judge_2 _ (gp_4 (gp_1 (gp_1 (gp_1 gp_h))))) (gp_c (gj_X8_judge_2 _ (gp_4 (gp_4 gp_h))) (gp_c (gj_X8_judge_2 _ (gp_4 (gp_4 (gp_1 gp_h)))) (gp_n))))))))))))))))))))))))) (gp_c (gj_X8_judge_2 _ (gp_4 (gp_4 (gp_1 (gp_1 gp_h))))) (gp_c (gj_X8_judge_2 _ (gp_4 (gp_4 (gp_1 (gp_1 (gp_1 gp_h)))))) (gp_c (gj_X8_judge_2 _ (gp_4 (gp_4 (gp_4 gp_h)))) (gp_c (gj_X8_judge_2 _ (gp_4 (gp_4 (gp_4 (gp_1 gp_h))))) (gp_c (gj_X8_judge_2 _ (gp_4 (gp_4 (gp_4 (gp_1 (gp_1 gp_h)))))) (gp_c (gj_X8_judge_2 _ (gp_4 (gp_4 (gp_4 (gp_1 (gp_1 (gp_1 gp_h))))))) (gp_c (gj_X8_judge_2 _ (gp_16 gp_h)) (gp_c (gj_X8_judge_2 _ (gp_16 (gp_1 gp_h))) (gp_c (gj_X8_judge_2 _ (gp_16 (gp_1 (gp_1 gp_h)))) (gp_c (gj_X8_judge_2 _ (gp_16 (gp_1 (gp_1 (gp_1 gp_h))))) (gp_c (gj_X8_judge_2 _ (gp_16 (gp_4 gp_h))) (gp_c (gj_X8_judge_2 _ (gp_16 (gp_4 (gp_1 gp_h)))) (gp_c (gj_X8_judge_2 _ (gp_16 (gp_4 (gp_1 (gp_1 gp_h))))) (gp_c (gj_X8_judge_2 _ (gp_16 (gp_4 (gp_1 (gp_1 (gp_1 gp_h)))))) (gp_n))))))))))))))))) (gj_X8_judge_7)) (gj_X8_judge_4)) (gj_X8_judge_5)) (gj_X8_judge_6)) (gj_X8_judge_8))) gb_X8_failureOf
set_option maxRecDepth 20000 in
theorem gX8_judge_X8_failureOf : GoodIn wsX8_judge (wsV RX8 212 RX8 yX8_failureOf wsX8_failureOf) := goodIn_app (gp_s (gp_c (gj_X8_judge_0 _ (gp_4 (gp_4 (gp_4 (gp_1 (gp_1 gp_h)))))) (gp_c (gj_X8_judge_0 _ (gp_4 (gp_4 (gp_4 (gp_1 (gp_1 (gp_1 gp_h))))))) (gp_c (gj_X8_judge_0 _ (gp_16 gp_h)) (gp_c (gj_X8_judge_0 _ (gp_4 (gp_1 gp_h))) (gp_n))))) (gp_v)) ggX8_judge_X8_failureOf
theorem gj_X8_judge_3 : GpS (wsX8_judge_r4) wsX8_judge := fun w h => List.mem_cons_of_mem _ (List.mem_append_left _ (List.mem_append_left _ (List.mem_append_left _ (List.mem_append_left _ (List.mem_append_left _ (List.mem_append_right _ (List.mem_append_right _ (List.mem_append_right _ (h)))))))))
set_option maxRecDepth 20000 in
theorem ggX8_judge_X8_failed : GoodIn wsX8_judge wsX8_failed := gp_s (gp_c (gj_X8_judge_3 _ (gp_1 (gp_1 gp_h))) (gp_n)) gb_X8_failed
set_option maxRecDepth 20000 in
theorem gX8_judge_X8_failed : GoodIn wsX8_judge (va_wsS RX8 139 yX8_failed wsX8_failed) := goodIn_app (gp_s (gp_c (gj_X8_judge_3 _ (gp_h)) (gp_c (gj_X8_judge_3 _ (gp_1 gp_h)) (gp_c (gj_X8_judge_0 _ (gp_4 (gp_1 gp_h))) (gp_n)))) (gp_t)) ggX8_judge_X8_failed
noncomputable def nX8_judge : Nat := 0xac8b00b8d400b6321d7600b46100b42c2c2a1400a7040700a0021d3ed000b62c2aac020500c72c4db100b6851b2a
theorem bX8_judge : Bts cX8_judge nX8_judge 46 := by unfold Bts; decide +kernel
theorem dX8_judge_0 : decode cX8_judge 0 = .ok (.aload_n 0, 1) := dz_42 (b_1 bX8_judge (by decide +kernel))
theorem dX8_judge_1 : decode cX8_judge 1 = .ok (.iload_n 1, 1) := dz_27 (b_1 bX8_judge (by decide +kernel))
theorem dX8_judge_2 : decode cX8_judge 2 = .ok (.i2l, 1) := dz_133 (b_1 bX8_judge (by decide +kernel))
theorem dX8_judge_3 : decode cX8_judge 3 = .ok (.invokevirtual 177, 3) := dz_182 (b_3 (a := 0) (b := 177) bX8_judge (by decide +kernel))
theorem dX8_judge_6 : decode cX8_judge 6 = .ok (.astore_n 2, 1) := dz_77 (b_1 bX8_judge (by decide +kernel))
theorem dX8_judge_7 : decode cX8_judge 7 = .ok (.aload_n 2, 1) := dz_44 (b_1 bX8_judge (by decide +kernel))
theorem dX8_judge_8 : decode cX8_judge 8 = .ok (.ifnonnull 5, 3) := dz_199 (b_3 (a := 0) (b := 5) bX8_judge (by decide +kernel)) (by decide +kernel)
theorem dX8_judge_11 : decode cX8_judge 11 = .ok (.iconst (-1), 1) := dz_2 (b_1 bX8_judge (by decide +kernel))
theorem dX8_judge_12 : decode cX8_judge 12 = .ok (.ireturn, 1) := dz_172 (b_1 bX8_judge (by decide +kernel))
theorem dX8_judge_13 : decode cX8_judge 13 = .ok (.aload_n 0, 1) := dz_42 (b_1 bX8_judge (by decide +kernel))
theorem dX8_judge_14 : decode cX8_judge 14 = .ok (.aload_n 2, 1) := dz_44 (b_1 bX8_judge (by decide +kernel))
theorem dX8_judge_15 : decode cX8_judge 15 = .ok (.invokevirtual 208, 3) := dz_182 (b_3 (a := 0) (b := 208) bX8_judge (by decide +kernel))
theorem dX8_judge_18 : decode cX8_judge 18 = .ok (.istore_n 3, 1) := dz_62 (b_1 bX8_judge (by decide +kernel))
theorem dX8_judge_19 : decode cX8_judge 19 = .ok (.iload_n 3, 1) := dz_29 (b_1 bX8_judge (by decide +kernel))
theorem dX8_judge_20 : decode cX8_judge 20 = .ok (.iconst (-1), 1) := dz_2 (b_1 bX8_judge (by decide +kernel))
theorem dX8_judge_21 : decode cX8_judge 21 = .ok (.if_icmp .ne 7, 3) := dz_160 (b_3 (a := 0) (b := 7) bX8_judge (by decide +kernel)) (by decide +kernel)
theorem dX8_judge_24 : decode cX8_judge 24 = .ok (.iconst 1, 1) := dz_4 (b_1 bX8_judge (by decide +kernel))
theorem dX8_judge_25 : decode cX8_judge 25 = .ok (.goto 20, 3) := dz_167 (b_3 (a := 0) (b := 20) bX8_judge (by decide +kernel)) (by decide +kernel)
theorem dX8_judge_28 : decode cX8_judge 28 = .ok (.aload_n 0, 1) := dz_42 (b_1 bX8_judge (by decide +kernel))
theorem dX8_judge_29 : decode cX8_judge 29 = .ok (.aload_n 2, 1) := dz_44 (b_1 bX8_judge (by decide +kernel))
theorem dX8_judge_30 : decode cX8_judge 30 = .ok (.aload_n 2, 1) := dz_44 (b_1 bX8_judge (by decide +kernel))
theorem dX8_judge_31 : decode cX8_judge 31 = .ok (.getfield 97, 3) := dz_180 (b_3 (a := 0) (b := 97) bX8_judge (by decide +kernel))
theorem dX8_judge_34 : decode cX8_judge 34 = .ok (.getfield 118, 3) := dz_180 (b_3 (a := 0) (b := 118) bX8_judge (by decide +kernel))
theorem dX8_judge_37 : decode cX8_judge 37 = .ok (.iload_n 3, 1) := dz_29 (b_1 bX8_judge (by decide +kernel))
theorem dX8_judge_38 : decode cX8_judge 38 = .ok (.aaload, 1) := dz_50 (b_1 bX8_judge (by decide +kernel))
theorem dX8_judge_39 : decode cX8_judge 39 = .ok (.invokevirtual 212, 3) := dz_182 (b_3 (a := 0) (b := 212) bX8_judge (by decide +kernel))
theorem dX8_judge_42 : decode cX8_judge 42 = .ok (.invokestatic 139, 3) := dz_184 (b_3 (a := 0) (b := 139) bX8_judge (by decide +kernel))
theorem dX8_judge_45 : decode cX8_judge 45 = .ok (.ireturn, 1) := dz_172 (b_1 bX8_judge (by decide +kernel))
theorem gj_X8_save_0 : GpS (wsX8_save_r1) wsX8_save := fun w h => List.mem_cons_of_mem _ (List.mem_append_left _ (List.mem_append_left _ (List.mem_append_left _ (List.mem_append_left _ (List.mem_append_left _ (List.mem_append_left _ (List.mem_append_left _ (h))))))))
theorem gj_X8_save_4 : GpS (wsX80) wsX8_save := fun w h => List.mem_cons_of_mem _ (List.mem_append_left _ (List.mem_append_left _ (List.mem_append_left _ (List.mem_append_left _ (List.mem_append_left _ (List.mem_append_right _ (h)))))))
set_option maxRecDepth 20000 in
theorem ggX8_save_X8_thingNumbered : GoodIn wsX8_save wsX8_thingNumbered := gp_s (gp_c (gj_X8_save_0 _ (gp_4 (gp_4 (gp_1 gp_h)))) (gp_a (gp_c (gj_X8_save_0 _ (gp_4 (gp_4 (gp_1 (gp_1 gp_h))))) (gp_c (gj_X8_save_0 _ (gp_4 (gp_4 (gp_1 (gp_1 (gp_1 gp_h)))))) (gp_n))) (gj_X8_save_4))) gb_X8_thingNumbered
set_option maxRecDepth 20000 in
theorem gX8_save_X8_thingNumbered : GoodIn wsX8_save (wsV RX8 177 RX8 yX8_thingNumbered wsX8_thingNumbered) := goodIn_app (gp_s (gp_c (gj_X8_save_0 _ (gp_4 (gp_1 gp_h))) (gp_c (gj_X8_save_0 _ (gp_4 (gp_1 (gp_1 gp_h)))) (gp_c (gj_X8_save_0 _ (gp_4 (gp_1 (gp_1 (gp_1 gp_h))))) (gp_c (gj_X8_save_0 _ (gp_4 (gp_4 gp_h))) (gp_n))))) (gp_v)) ggX8_save_X8_thingNumbered
set_option maxRecDepth 20000 in
theorem ggX8_save_X8_isBelow : GoodIn wsX8_save wsX8_isBelow := gp_s (gp_c (gj_X8_save_0 _ (gp_4 (gp_4 (gp_4 (gp_1 (gp_1 gp_h)))))) (gp_n)) gb_X8_isBelow
set_option maxRecDepth 20000 in
theorem gX8_save_X8_isBelow : GoodIn wsX8_save (va_wsS RX8 74 yX8_isBelow wsX8_isBelow) := goodIn_app (gp_s (gp_c (gj_X8_save_0 _ (gp_4 (gp_4 (gp_4 gp_h)))) (gp_c (gj_X8_save_0 _ (gp_4 (gp_4 (gp_4 (gp_1 gp_h))))) (gp_c (gj_X8_save_0 _ (gp_4 (gp_4 gp_h))) (gp_n)))) (gp_t)) ggX8_save_X8_isBelow
theorem gb_X8_recordFrom : wsX8_recordFrom.all goodWord = true := by decide +kernel
theorem gj_X8_save_1 : GpS (wsX8_save_r2) wsX8_save := fun w h => List.mem_cons_of_mem _ (List.mem_append_left _ (List.mem_append_left _ (List.mem_append_left _ (List.mem_append_left _ (List.mem_append_left _ (List.mem_append_left _ (List.mem_append_right _ (List.mem_append_left _ (h)))))))))
theorem gj_X8_save_2 : GpS (wsX8_save_r3) wsX8_save := fun w h => List.mem_cons_of_mem _ (List.mem_append_left _ (List.mem_append_left _ (List.mem_append_left _ (List.mem_append_left _ (List.mem_append_left _ (List.mem_append_left _ (List.mem_append_right _ (List.mem_append_right _ (List.mem_append_left _ (h))))))))))
theorem gj_X8_save_3 : GpS (wsX8_save_r4) wsX8_save := fun w h => List.mem_cons_of_mem _ (List.mem_append_left _ (List.mem_append_left _ (List.mem_append_left _ (List.mem_append_left _ (List.mem_append_left _ (List.mem_append_left _ (List.mem_append_right _ (List.mem_append_right _ (List.mem_append_right _ (h))))))))))
theorem gj_X8_save_5 : GpS (wsX40) wsX8_save := fun w h => List.mem_cons_of_mem _ (List.mem_append_left _ (List.mem_append_left _ (List.mem_append_left _ (List.mem_append_left _ (List.mem_append_right _ (h))))))
theorem gj_X8_save_6 : GpS (wsX60) wsX8_save := fun w h => List.mem_cons_of_mem _ (List.mem_append_left _ (List.mem_append_left _ (List.mem_append_left _ (List.mem_append_right _ (h)))))
theorem gj_X8_save_7 : GpS (wsX70) wsX8_save := fun w h => List.mem_cons_of_mem _ (List.mem_append_left _ (List.mem_append_left _ (List.mem_append_right _ (h))))
theorem gj_X8_save_8 : GpS (wsX50) wsX8_save := fun w h => List.mem_cons_of_mem _ (List.mem_append_left _ (List.mem_append_right _ (h)))
set_option maxRecDepth 20000 in
theorem ggX8_save_X8_recordFrom : GoodIn wsX8_save wsX8_recordFrom := gp_s (gp_c (gj_X8_save_0 _ (gp_16 (gp_1 (gp_1 gp_h)))) (gp_a (gp_a (gp_a (gp_a (gp_a (gp_a (gp_c (gj_X8_save_0 _ (gp_4 gp_h)) (gp_c (gj_X8_save_0 _ (gp_16 (gp_1 (gp_1 (gp_1 gp_h))))) (gp_c (gj_X8_save_0 _ (gp_16 (gp_4 gp_h))) (gp_c (gj_X8_save_0 _ (gp_16 (gp_4 (gp_1 gp_h)))) (gp_c (gj_X8_save_0 _ (gp_16 (gp_4 (gp_1 (gp_1 gp_h))))) (gp_c (gj_X8_save_0 _ (gp_16 (gp_4 (gp_1 (gp_1 (gp_1 gp_h)))))) (gp_c (gj_X8_save_0 _ (gp_4 (gp_4 gp_h))) (gp_c (gj_X8_save_1 _ (gp_h)) (gp_c (gj_X8_save_0 _ (gp_4 (gp_4 (gp_1 (gp_1 gp_h))))) (gp_c (gj_X8_save_0 _ (gp_4 (gp_4 (gp_1 (gp_1 (gp_1 gp_h)))))) (gp_c (gj_X8_save_1 _ (gp_1 gp_h)) (gp_c (gj_X8_save_1 _ (gp_1 (gp_1 gp_h))) (gp_c (gj_X8_save_1 _ (gp_1 (gp_1 (gp_1 gp_h)))) (gp_c (gj_X8_save_1 _ (gp_4 gp_h)) (gp_c (gj_X8_save_1 _ (gp_4 (gp_1 gp_h))) (gp_c (gj_X8_save_1 _ (gp_4 (gp_1 (gp_1 gp_h)))) (gp_c (gj_X8_save_1 _ (gp_4 (gp_1 (gp_1 (gp_1 gp_h))))) (gp_c (gj_X8_save_1 _ (gp_4 (gp_4 gp_h))) (gp_c (gj_X8_save_1 _ (gp_4 (gp_4 (gp_1 gp_h)))) (gp_c (gj_X8_save_1 _ (gp_4 (gp_4 (gp_1 (gp_1 gp_h))))) (gp_c (gj_X8_save_1 _ (gp_4 (gp_4 (gp_1 (gp_1 (gp_1 gp_h)))))) (gp_c (gj_X8_save_1 _ (gp_4 (gp_4 (gp_4 gp_h)))) (gp_c (gj_X8_save_1 _ (gp_4 (gp_4 (gp_4 (gp_1 gp_h))))) (gp_c (gj_X8_save_1 _ (gp_4 (gp_4 (gp_4 (gp_1 (gp_1 gp_h)))))) (gp_n))))))))))))))))))))))))) (gp_a (gp_c (gj_X8_save_1 _ (gp_4 (gp_4 (gp_4 (gp_1 (gp_1 (gp_1 gp_h))))))) (gp_c (gj_X8_save_1 _ (gp_16 gp_h)) (gp_c (gj_X8_save_1 _ (gp_16 (gp_1 gp_h))) (gp_c (gj_X8_save_1 _ (gp_16 (gp_1 (gp_1 gp_h)))) (gp_c (gj_X8_save_1 _ (gp_16 (gp_1 (gp_1 (gp_1 gp_h))))) (gp_c (gj_X8_save_1 _ (gp_16 (gp_4 gp_h))) (gp_c (gj_X8_save_1 _ (gp_16 (gp_4 (gp_1 gp_h)))) (gp_c (gj_X8_save_1 _ (gp_16 (gp_4 (gp_1 (gp_1 gp_h))))) (gp_c (gj_X8_save_1 _ (gp_16 (gp_4 (gp_1 (gp_1 (gp_1 gp_h)))))) (gp_c (gj_X8_save_2 _ (gp_h)) (gp_c (gj_X8_save_0 _ (gp_1 (gp_1 gp_h))) (gp_c (gj_X8_save_2 _ (gp_1 gp_h)) (gp_c (gj_X8_save_2 _ (gp_1 (gp_1 gp_h))) (gp_c (gj_X8_save_2 _ (gp_1 (gp_1 (gp_1 gp_h)))) (gp_c (gj_X8_save_2 _ (gp_4 gp_h)) (gp_c (gj_X8_save_2 _ (gp_4 (gp_1 gp_h))) (gp_c (gj_X8_save_2 _ (gp_4 (gp_1 (gp_1 gp_h)))) (gp_c (gj_X8_save_2 _ (gp_4 (gp_1 (gp_1 (gp_1 gp_h))))) (gp_c (gj_X8_save_2 _ (gp_4 (gp_4 gp_h))) (gp_c (gj_X8_save_2 _ (gp_4 (gp_4 (gp_1 gp_h)))) (gp_c (gj_X8_save_2 _ (gp_4 (gp_4 (gp_1 (gp_1 gp_h))))) (gp_c (gj_X8_save_2 _ (gp_4 (gp_4 (gp_1 (gp_1 (gp_1 gp_h)))))) (gp_c (gj_X8_save_2 _ (gp_4 (gp_4 (gp_4 gp_h)))) (gp_c (gj_X8_save_2 _ (gp_4 (gp_4 (gp_4 (gp_1 gp_h))))) (gp_n))))))))))))))))))))))))) (gp_c (gj_X8_save_2 _ (gp_4 (gp_4 (gp_4 (gp_1 (gp_1 gp_h)))))) (gp_c (gj_X8_save_2 _ (gp_4 (gp_4 (gp_4 (gp_1 (gp_1 (gp_1 gp_h))))))) (gp_c (gj_X8_save_2 _ (gp_16 gp_h)) (gp_c (gj_X8_save_2 _ (gp_16 (gp_1 gp_h))) (gp_c (gj_X8_save_2 _ (gp_16 (gp_1 (gp_1 gp_h)))) (gp_c (gj_X8_save_2 _ (gp_16 (gp_1 (gp_1 (gp_1 gp_h))))) (gp_c (gj_X8_save_2 _ (gp_16 (gp_4 gp_h))) (gp_c (gj_X8_save_2 _ (gp_16 (gp_4 (gp_1 gp_h)))) (gp_c (gj_X8_save_2 _ (gp_16 (gp_4 (gp_1 (gp_1 gp_h))))) (gp_c (gj_X8_save_2 _ (gp_16 (gp_4 (gp_1 (gp_1 (gp_1 gp_h)))))) (gp_c (gj_X8_save_3 _ (gp_h)) (gp_c (gj_X8_save_0 _ (gp_4 (gp_1 gp_h))) (gp_c (gj_X8_save_0 _ (gp_4 (gp_1 (gp_1 gp_h)))) (gp_c (gj_X8_save_0 _ (gp_4 (gp_1 (gp_1 (gp_1 gp_h))))) (gp_c (gj_X8_save_0 _ (gp_4 (gp_4 (gp_1 gp_h)))) (gp_n)))))))))))))))))) (gj_X8_save_5)) (gj_X8_save_4)) (gj_X8_save_6)) (gj_X8_save_7)) (gj_X8_save_8))) gb_X8_recordFrom
set_option maxRecDepth 20000 in
theorem gX8_save_X8_recordFrom : GoodIn wsX8_save (wsV RX8 216 RX8 yX8_recordFrom wsX8_recordFrom) := goodIn_app (gp_s (gp_c (gj_X8_save_0 _ (gp_4 (gp_4 (gp_4 (gp_1 (gp_1 (gp_1 gp_h))))))) (gp_c (gj_X8_save_0 _ (gp_16 gp_h)) (gp_c (gj_X8_save_0 _ (gp_16 (gp_1 gp_h))) (gp_c (gj_X8_save_0 _ (gp_4 (gp_4 gp_h))) (gp_n))))) (gp_v)) ggX8_save_X8_recordFrom
theorem gb_X8_firstShutSlot : wsX8_firstShutSlot.all goodWord = true := by decide +kernel
set_option maxRecDepth 20000 in
theorem ggX8_save_X8_firstShutSlot : GoodIn wsX8_save wsX8_firstShutSlot := gp_s (gp_c (gj_X8_save_3 _ (gp_4 gp_h)) (gp_a (gp_a (gp_a (gp_a (gp_c (gj_X8_save_0 _ (gp_4 gp_h)) (gp_c (gj_X8_save_0 _ (gp_16 (gp_4 gp_h))) (gp_c (gj_X8_save_1 _ (gp_16 (gp_1 gp_h))) (gp_c (gj_X8_save_1 _ (gp_16 (gp_4 gp_h))) (gp_c (gj_X8_save_3 _ (gp_4 (gp_1 gp_h))) (gp_n)))))) (gj_X8_save_5)) (gj_X8_save_4)) (gj_X8_save_6)) (gj_X8_save_7))) gb_X8_firstShutSlot
set_option maxRecDepth 20000 in
theorem gX8_save_X8_firstShutSlot : GoodIn wsX8_save (wsV RX8 220 RX8 yX8_firstShutSlot wsX8_firstShutSlot) := goodIn_app (gp_s (gp_c (gj_X8_save_3 _ (gp_1 gp_h)) (gp_c (gj_X8_save_3 _ (gp_1 (gp_1 gp_h))) (gp_c (gj_X8_save_3 _ (gp_1 (gp_1 (gp_1 gp_h)))) (gp_c (gj_X8_save_0 _ (gp_4 (gp_4 gp_h))) (gp_n))))) (gp_v)) ggX8_save_X8_firstShutSlot
theorem gb_X1_tell : wsX1_tell.all goodWord = true := by decide +kernel
theorem gj_X8_save_9 : GpS (wsX10) wsX8_save := fun w h => List.mem_cons_of_mem _ (List.mem_append_right _ (h))
set_option maxRecDepth 20000 in
theorem ggX8_save_X1_tell : GoodIn wsX8_save wsX1_tell := gp_s (gp_c (gj_X8_save_3 _ (gp_4 (gp_4 (gp_1 (gp_1 gp_h))))) (gp_a (gp_c (gj_X8_save_3 _ (gp_4 (gp_4 (gp_1 (gp_1 (gp_1 gp_h)))))) (gp_c (gj_X8_save_3 _ (gp_4 (gp_4 (gp_4 gp_h)))) (gp_c (gj_X8_save_3 _ (gp_4 (gp_4 (gp_4 (gp_1 gp_h))))) (gp_c (gj_X8_save_3 _ (gp_4 (gp_4 (gp_4 (gp_1 (gp_1 gp_h)))))) (gp_n))))) (gj_X8_save_9))) gb_X1_tell
set_option maxRecDepth 20000 in
theorem gX8_save_X1_tell : GoodIn wsX8_save (wsV RX8 227 RX1 yX1_tell wsX1_tell) := goodIn_app (gp_s (gp_c (gj_X8_save_3 _ (gp_4 (gp_1 (gp_1 gp_h)))) (gp_c (gj_X8_save_3 _ (gp_4 (gp_1 (gp_1 (gp_1 gp_h))))) (gp_c (gj_X8_save_3 _ (gp_4 (gp_4 gp_h))) (gp_c (gj_X8_save_3 _ (gp_4 (gp_4 (gp_1 gp_h)))) (gp_n))))) (gp_v)) ggX8_save_X1_tell
set_option maxRecDepth 20000 in
theorem ggX8_save_X8_failed : GoodIn wsX8_save wsX8_failed := gp_s (gp_c (gj_X8_save_3 _ (gp_16 (gp_1 gp_h))) (gp_n)) gb_X8_failed
set_option maxRecDepth 20000 in
theorem gX8_save_X8_failed : GoodIn wsX8_save (va_wsS RX8 139 yX8_failed wsX8_failed) := goodIn_app (gp_s (gp_c (gj_X8_save_3 _ (gp_4 (gp_4 (gp_4 (gp_1 (gp_1 (gp_1 gp_h))))))) (gp_c (gj_X8_save_3 _ (gp_16 gp_h)) (gp_c (gj_X8_save_0 _ (gp_4 (gp_4 gp_h))) (gp_n)))) (gp_t)) ggX8_save_X8_failed
noncomputable def nX8_save : Nat := 0xace700b4321b1b00b42a2000b505192a532000b42a1b1b00b42a053a321b1b00b42aac8b00b80a10e300b6022e0415e000b42000b42a6c0804153a00b42a1f009f0204150436dc00b62000b42a2ad800b62000b42a2d2aac020500c72d0700994a00b8071b4eb100b6851c2a
theorem bX8_save : Bts cX8_save nX8_save 108 := by unfold Bts; decide +kernel
theorem dX8_save_0 : decode cX8_save 0 = .ok (.aload_n 0, 1) := dz_42 (b_1 bX8_save (by decide +kernel))
theorem dX8_save_1 : decode cX8_save 1 = .ok (.iload_n 2, 1) := dz_28 (b_1 bX8_save (by decide +kernel))
theorem dX8_save_2 : decode cX8_save 2 = .ok (.i2l, 1) := dz_133 (b_1 bX8_save (by decide +kernel))
theorem dX8_save_3 : decode cX8_save 3 = .ok (.invokevirtual 177, 3) := dz_182 (b_3 (a := 0) (b := 177) bX8_save (by decide +kernel))
theorem dX8_save_6 : decode cX8_save 6 = .ok (.astore_n 3, 1) := dz_78 (b_1 bX8_save (by decide +kernel))
theorem dX8_save_7 : decode cX8_save 7 = .ok (.iload_n 1, 1) := dz_27 (b_1 bX8_save (by decide +kernel))
theorem dX8_save_8 : decode cX8_save 8 = .ok (.iconst 4, 1) := dz_7 (b_1 bX8_save (by decide +kernel))
theorem dX8_save_9 : decode cX8_save 9 = .ok (.invokestatic 74, 3) := dz_184 (b_3 (a := 0) (b := 74) bX8_save (by decide +kernel))
theorem dX8_save_12 : decode cX8_save 12 = .ok (.ifCond .eq 7, 3) := dz_153 (b_3 (a := 0) (b := 7) bX8_save (by decide +kernel)) (by decide +kernel)
theorem dX8_save_15 : decode cX8_save 15 = .ok (.aload_n 3, 1) := dz_45 (b_1 bX8_save (by decide +kernel))
theorem dX8_save_16 : decode cX8_save 16 = .ok (.ifnonnull 5, 3) := dz_199 (b_3 (a := 0) (b := 5) bX8_save (by decide +kernel)) (by decide +kernel)
theorem dX8_save_19 : decode cX8_save 19 = .ok (.iconst (-1), 1) := dz_2 (b_1 bX8_save (by decide +kernel))
theorem dX8_save_20 : decode cX8_save 20 = .ok (.ireturn, 1) := dz_172 (b_1 bX8_save (by decide +kernel))
theorem dX8_save_21 : decode cX8_save 21 = .ok (.aload_n 0, 1) := dz_42 (b_1 bX8_save (by decide +kernel))
theorem dX8_save_22 : decode cX8_save 22 = .ok (.aload_n 3, 1) := dz_45 (b_1 bX8_save (by decide +kernel))
theorem dX8_save_23 : decode cX8_save 23 = .ok (.aload_n 0, 1) := dz_42 (b_1 bX8_save (by decide +kernel))
theorem dX8_save_24 : decode cX8_save 24 = .ok (.getfield 32, 3) := dz_180 (b_3 (a := 0) (b := 32) bX8_save (by decide +kernel))
theorem dX8_save_27 : decode cX8_save 27 = .ok (.invokevirtual 216, 3) := dz_182 (b_3 (a := 0) (b := 216) bX8_save (by decide +kernel))
theorem dX8_save_30 : decode cX8_save 30 = .ok (.aload_n 0, 1) := dz_42 (b_1 bX8_save (by decide +kernel))
theorem dX8_save_31 : decode cX8_save 31 = .ok (.aload_n 0, 1) := dz_42 (b_1 bX8_save (by decide +kernel))
theorem dX8_save_32 : decode cX8_save 32 = .ok (.getfield 32, 3) := dz_180 (b_3 (a := 0) (b := 32) bX8_save (by decide +kernel))
theorem dX8_save_35 : decode cX8_save 35 = .ok (.invokevirtual 220, 3) := dz_182 (b_3 (a := 0) (b := 220) bX8_save (by decide +kernel))
theorem dX8_save_38 : decode cX8_save 38 = .ok (.istore 4, 2) := dz_54 (b_2 (a := 4) bX8_save (by decide +kernel))
theorem dX8_save_40 : decode cX8_save 40 = .ok (.iload 4, 2) := dz_21 (b_2 (a := 4) bX8_save (by decide +kernel))
theorem dX8_save_42 : decode cX8_save 42 = .ok (.iconst (-1), 1) := dz_2 (b_1 bX8_save (by decide +kernel))
theorem dX8_save_43 : decode cX8_save 43 = .ok (.if_icmp .eq 31, 3) := dz_159 (b_3 (a := 0) (b := 31) bX8_save (by decide +kernel)) (by decide +kernel)
theorem dX8_save_46 : decode cX8_save 46 = .ok (.aload_n 0, 1) := dz_42 (b_1 bX8_save (by decide +kernel))
theorem dX8_save_47 : decode cX8_save 47 = .ok (.getfield 58, 3) := dz_180 (b_3 (a := 0) (b := 58) bX8_save (by decide +kernel))
theorem dX8_save_50 : decode cX8_save 50 = .ok (.iload 4, 2) := dz_21 (b_2 (a := 4) bX8_save (by decide +kernel))
theorem dX8_save_52 : decode cX8_save 52 = .ok (.iconst 5, 1) := dz_8 (b_1 bX8_save (by decide +kernel))
theorem dX8_save_53 : decode cX8_save 53 = .ok (.idiv, 1) := dz_108 (b_1 bX8_save (by decide +kernel))
theorem dX8_save_54 : decode cX8_save 54 = .ok (.aload_n 0, 1) := dz_42 (b_1 bX8_save (by decide +kernel))
theorem dX8_save_55 : decode cX8_save 55 = .ok (.getfield 32, 3) := dz_180 (b_3 (a := 0) (b := 32) bX8_save (by decide +kernel))
theorem dX8_save_58 : decode cX8_save 58 = .ok (.getfield 224, 3) := dz_180 (b_3 (a := 0) (b := 224) bX8_save (by decide +kernel))
theorem dX8_save_61 : decode cX8_save 61 = .ok (.iload 4, 2) := dz_21 (b_2 (a := 4) bX8_save (by decide +kernel))
theorem dX8_save_63 : decode cX8_save 63 = .ok (.iaload, 1) := dz_46 (b_1 bX8_save (by decide +kernel))
theorem dX8_save_64 : decode cX8_save 64 = .ok (.iconst (-1), 1) := dz_2 (b_1 bX8_save (by decide +kernel))
theorem dX8_save_65 : decode cX8_save 65 = .ok (.invokevirtual 227, 3) := dz_182 (b_3 (a := 0) (b := 227) bX8_save (by decide +kernel))
theorem dX8_save_68 : decode cX8_save 68 = .ok (.bipush 10, 2) := dz_16 (b_2 (a := 10) bX8_save (by decide +kernel)) (by decide +kernel)
theorem dX8_save_70 : decode cX8_save 70 = .ok (.invokestatic 139, 3) := dz_184 (b_3 (a := 0) (b := 139) bX8_save (by decide +kernel))
theorem dX8_save_73 : decode cX8_save 73 = .ok (.ireturn, 1) := dz_172 (b_1 bX8_save (by decide +kernel))
theorem dX8_save_74 : decode cX8_save 74 = .ok (.aload_n 0, 1) := dz_42 (b_1 bX8_save (by decide +kernel))
theorem dX8_save_75 : decode cX8_save 75 = .ok (.getfield 27, 3) := dz_180 (b_3 (a := 0) (b := 27) bX8_save (by decide +kernel))
theorem dX8_save_78 : decode cX8_save 78 = .ok (.iload_n 1, 1) := dz_27 (b_1 bX8_save (by decide +kernel))
theorem dX8_save_79 : decode cX8_save 79 = .ok (.aaload, 1) := dz_50 (b_1 bX8_save (by decide +kernel))
theorem dX8_save_80 : decode cX8_save 80 = .ok (.astore 5, 2) := dz_58 (b_2 (a := 5) bX8_save (by decide +kernel))
theorem dX8_save_82 : decode cX8_save 82 = .ok (.aload_n 0, 1) := dz_42 (b_1 bX8_save (by decide +kernel))
theorem dX8_save_83 : decode cX8_save 83 = .ok (.getfield 27, 3) := dz_180 (b_3 (a := 0) (b := 27) bX8_save (by decide +kernel))
theorem dX8_save_86 : decode cX8_save 86 = .ok (.iload_n 1, 1) := dz_27 (b_1 bX8_save (by decide +kernel))
theorem dX8_save_87 : decode cX8_save 87 = .ok (.aload_n 0, 1) := dz_42 (b_1 bX8_save (by decide +kernel))
theorem dX8_save_88 : decode cX8_save 88 = .ok (.getfield 32, 3) := dz_180 (b_3 (a := 0) (b := 32) bX8_save (by decide +kernel))
theorem dX8_save_91 : decode cX8_save 91 = .ok (.aastore, 1) := dz_83 (b_1 bX8_save (by decide +kernel))
theorem dX8_save_92 : decode cX8_save 92 = .ok (.aload_n 0, 1) := dz_42 (b_1 bX8_save (by decide +kernel))
theorem dX8_save_93 : decode cX8_save 93 = .ok (.aload 5, 2) := dz_25 (b_2 (a := 5) bX8_save (by decide +kernel))
theorem dX8_save_95 : decode cX8_save 95 = .ok (.putfield 32, 3) := dz_181 (b_3 (a := 0) (b := 32) bX8_save (by decide +kernel))
theorem dX8_save_98 : decode cX8_save 98 = .ok (.aload_n 0, 1) := dz_42 (b_1 bX8_save (by decide +kernel))
theorem dX8_save_99 : decode cX8_save 99 = .ok (.getfield 27, 3) := dz_180 (b_3 (a := 0) (b := 27) bX8_save (by decide +kernel))
theorem dX8_save_102 : decode cX8_save 102 = .ok (.iload_n 1, 1) := dz_27 (b_1 bX8_save (by decide +kernel))
theorem dX8_save_103 : decode cX8_save 103 = .ok (.aaload, 1) := dz_50 (b_1 bX8_save (by decide +kernel))
theorem dX8_save_104 : decode cX8_save 104 = .ok (.getfield 231, 3) := dz_180 (b_3 (a := 0) (b := 231) bX8_save (by decide +kernel))
theorem dX8_save_107 : decode cX8_save 107 = .ok (.ireturn, 1) := dz_172 (b_1 bX8_save (by decide +kernel))
theorem gj_X8_saved_0 : GpS ([.fieldLink RX8 27 "StateRecords" "saves" "[LStateRecords$Records;", .fieldLink RX8 231 "StateRecords$Records" "recordCount" "I", .fieldLink RX8 234 "StateRecords$Records" "rowCount" "I", .methodLink RX8 74 yX8_isBelow, .static yX8_isBelow, .initialized RX8, .code yX8_isBelow cX8_isBelow 2 (some .boolean)]) wsX8_saved := fun w h => List.mem_cons_of_mem _ (List.mem_append_left _ (List.mem_append_left _ (h)))
set_option maxRecDepth 20000 in
theorem ggX8_saved_X8_isBelow : GoodIn wsX8_saved wsX8_isBelow := gp_s (gp_c (gj_X8_saved_0 _ (gp_4 (gp_1 (gp_1 gp_h)))) (gp_n)) gb_X8_isBelow
set_option maxRecDepth 20000 in
theorem gX8_saved_X8_isBelow : GoodIn wsX8_saved (va_wsS RX8 74 yX8_isBelow wsX8_isBelow) := goodIn_app (gp_s (gp_c (gj_X8_saved_0 _ (gp_1 (gp_1 (gp_1 gp_h)))) (gp_c (gj_X8_saved_0 _ (gp_4 gp_h)) (gp_c (gj_X8_saved_0 _ (gp_4 (gp_1 gp_h))) (gp_n)))) (gp_t)) ggX8_saved_X8_isBelow
noncomputable def nX8_saved : Nat := 0xacfe10acea00b4321b1b00b42aace700b4321b1b00b42a23000000010000001900000000000000020000002d000000ab1cac0205009a4a00b8071b
theorem bX8_saved : Bts cX8_saved nX8_saved 59 := by unfold Bts; decide +kernel
theorem dX8_saved_0 : decode cX8_saved 0 = .ok (.iload_n 1, 1) := dz_27 (b_1 bX8_saved (by decide +kernel))
theorem dX8_saved_1 : decode cX8_saved 1 = .ok (.iconst 4, 1) := dz_7 (b_1 bX8_saved (by decide +kernel))
theorem dX8_saved_2 : decode cX8_saved 2 = .ok (.invokestatic 74, 3) := dz_184 (b_3 (a := 0) (b := 74) bX8_saved (by decide +kernel))
theorem dX8_saved_5 : decode cX8_saved 5 = .ok (.ifCond .ne 5, 3) := dz_154 (b_3 (a := 0) (b := 5) bX8_saved (by decide +kernel)) (by decide +kernel)
theorem dX8_saved_8 : decode cX8_saved 8 = .ok (.iconst (-1), 1) := dz_2 (b_1 bX8_saved (by decide +kernel))
theorem dX8_saved_9 : decode cX8_saved 9 = .ok (.ireturn, 1) := dz_172 (b_1 bX8_saved (by decide +kernel))
theorem dX8_saved_10 : decode cX8_saved 10 = .ok (.iload_n 2, 1) := dz_28 (b_1 bX8_saved (by decide +kernel))
theorem dX8_saved_11 : decode cX8_saved 11 = .ok (.lookupswitch 45 #[(0, 25), (1, 35)], 25) := by decide +kernel
theorem dX8_saved_36 : decode cX8_saved 36 = .ok (.aload_n 0, 1) := dz_42 (b_1 bX8_saved (by decide +kernel))
theorem dX8_saved_37 : decode cX8_saved 37 = .ok (.getfield 27, 3) := dz_180 (b_3 (a := 0) (b := 27) bX8_saved (by decide +kernel))
theorem dX8_saved_40 : decode cX8_saved 40 = .ok (.iload_n 1, 1) := dz_27 (b_1 bX8_saved (by decide +kernel))
theorem dX8_saved_41 : decode cX8_saved 41 = .ok (.aaload, 1) := dz_50 (b_1 bX8_saved (by decide +kernel))
theorem dX8_saved_42 : decode cX8_saved 42 = .ok (.getfield 231, 3) := dz_180 (b_3 (a := 0) (b := 231) bX8_saved (by decide +kernel))
theorem dX8_saved_45 : decode cX8_saved 45 = .ok (.ireturn, 1) := dz_172 (b_1 bX8_saved (by decide +kernel))
theorem dX8_saved_46 : decode cX8_saved 46 = .ok (.aload_n 0, 1) := dz_42 (b_1 bX8_saved (by decide +kernel))
theorem dX8_saved_47 : decode cX8_saved 47 = .ok (.getfield 27, 3) := dz_180 (b_3 (a := 0) (b := 27) bX8_saved (by decide +kernel))
theorem dX8_saved_50 : decode cX8_saved 50 = .ok (.iload_n 1, 1) := dz_27 (b_1 bX8_saved (by decide +kernel))
theorem dX8_saved_51 : decode cX8_saved 51 = .ok (.aaload, 1) := dz_50 (b_1 bX8_saved (by decide +kernel))
theorem dX8_saved_52 : decode cX8_saved 52 = .ok (.getfield 234, 3) := dz_180 (b_3 (a := 0) (b := 234) bX8_saved (by decide +kernel))
theorem dX8_saved_55 : decode cX8_saved 55 = .ok (.ireturn, 1) := dz_172 (b_1 bX8_saved (by decide +kernel))
theorem dX8_saved_56 : decode cX8_saved 56 = .ok (.bipush (-2), 2) := dz_16 (b_2 (a := 254) bX8_saved (by decide +kernel)) (by decide +kernel)
theorem dX8_saved_58 : decode cX8_saved 58 = .ok (.ireturn, 1) := dz_172 (b_1 bX8_saved (by decide +kernel))
theorem gj_X8_restore_0 : GpS (wsX8_restore_r1) wsX8_restore := fun w h => List.mem_cons_of_mem _ (List.mem_append_left _ (List.mem_append_left _ (List.mem_append_left _ (List.mem_append_left _ (List.mem_append_left _ (List.mem_append_left _ (List.mem_append_left _ (List.mem_append_left _ (h)))))))))
set_option maxRecDepth 20000 in
theorem ggX8_restore_X8_isBelow : GoodIn wsX8_restore wsX8_isBelow := gp_s (gp_c (gj_X8_restore_0 _ (gp_4 (gp_1 (gp_1 gp_h)))) (gp_n)) gb_X8_isBelow
set_option maxRecDepth 20000 in
theorem gX8_restore_X8_isBelow : GoodIn wsX8_restore (va_wsS RX8 74 yX8_isBelow wsX8_isBelow) := goodIn_app (gp_s (gp_c (gj_X8_restore_0 _ (gp_1 (gp_1 (gp_1 gp_h)))) (gp_c (gj_X8_restore_0 _ (gp_4 gp_h)) (gp_c (gj_X8_restore_0 _ (gp_4 (gp_1 gp_h))) (gp_n)))) (gp_t)) ggX8_restore_X8_isBelow
theorem gb_X8_addThings : wsX8_addThings.all goodWord = true := by decide +kernel
theorem gj_X8_restore_1 : GpS (wsX8_restore_r2) wsX8_restore := fun w h => List.mem_cons_of_mem _ (List.mem_append_left _ (List.mem_append_left _ (List.mem_append_left _ (List.mem_append_left _ (List.mem_append_left _ (List.mem_append_left _ (List.mem_append_left _ (List.mem_append_right _ (List.mem_append_left _ (h))))))))))
theorem gj_X8_restore_7 : GpS (wsX80) wsX8_restore := fun w h => List.mem_cons_of_mem _ (List.mem_append_left _ (List.mem_append_left _ (List.mem_append_left _ (List.mem_append_left _ (List.mem_append_left _ (List.mem_append_left _ (List.mem_append_right _ (h))))))))
theorem gj_X8_restore_8 : GpS (wsX40) wsX8_restore := fun w h => List.mem_cons_of_mem _ (List.mem_append_left _ (List.mem_append_left _ (List.mem_append_left _ (List.mem_append_left _ (List.mem_append_left _ (List.mem_append_right _ (h)))))))
theorem gj_X8_restore_9 : GpS (wsX60) wsX8_restore := fun w h => List.mem_cons_of_mem _ (List.mem_append_left _ (List.mem_append_left _ (List.mem_append_left _ (List.mem_append_left _ (List.mem_append_right _ (h))))))
theorem gj_X8_restore_10 : GpS (wsX70) wsX8_restore := fun w h => List.mem_cons_of_mem _ (List.mem_append_left _ (List.mem_append_left _ (List.mem_append_left _ (List.mem_append_right _ (h)))))
set_option maxRecDepth 20000 in
theorem ggX8_restore_X8_addThings : GoodIn wsX8_restore wsX8_addThings := gp_s (gp_c (gj_X8_restore_0 _ (gp_4 (gp_4 (gp_1 (gp_1 gp_h))))) (gp_a (gp_a (gp_a (gp_a (gp_c (gj_X8_restore_0 _ (gp_1 gp_h)) (gp_c (gj_X8_restore_0 _ (gp_4 (gp_4 (gp_1 (gp_1 (gp_1 gp_h)))))) (gp_c (gj_X8_restore_0 _ (gp_1 (gp_1 gp_h))) (gp_c (gj_X8_restore_0 _ (gp_4 (gp_4 (gp_4 gp_h)))) (gp_c (gj_X8_restore_0 _ (gp_4 (gp_4 (gp_4 (gp_1 gp_h))))) (gp_c (gj_X8_restore_0 _ (gp_4 (gp_4 (gp_4 (gp_1 (gp_1 gp_h)))))) (gp_c (gj_X8_restore_0 _ (gp_4 (gp_4 (gp_4 (gp_1 (gp_1 (gp_1 gp_h))))))) (gp_c (gj_X8_restore_0 _ (gp_16 gp_h)) (gp_c (gj_X8_restore_0 _ (gp_16 (gp_1 gp_h))) (gp_c (gj_X8_restore_0 _ (gp_16 (gp_1 (gp_1 gp_h)))) (gp_c (gj_X8_restore_0 _ (gp_16 (gp_1 (gp_1 (gp_1 gp_h))))) (gp_c (gj_X8_restore_0 _ (gp_16 (gp_4 gp_h))) (gp_c (gj_X8_restore_0 _ (gp_16 (gp_4 (gp_1 gp_h)))) (gp_c (gj_X8_restore_0 _ (gp_16 (gp_4 (gp_1 (gp_1 gp_h))))) (gp_c (gj_X8_restore_0 _ (gp_16 (gp_4 (gp_1 (gp_1 (gp_1 gp_h)))))) (gp_c (gj_X8_restore_1 _ (gp_h)) (gp_c (gj_X8_restore_1 _ (gp_1 gp_h)) (gp_c (gj_X8_restore_1 _ (gp_1 (gp_1 gp_h))) (gp_c (gj_X8_restore_1 _ (gp_1 (gp_1 (gp_1 gp_h)))) (gp_n)))))))))))))))))))) (gj_X8_restore_8)) (gj_X8_restore_7)) (gj_X8_restore_9)) (gj_X8_restore_10))) gb_X8_addThings
set_option maxRecDepth 20000 in
theorem gX8_restore_X8_addThings : GoodIn wsX8_restore (wsV RX8 237 RX8 yX8_addThings wsX8_addThings) := goodIn_app (gp_s (gp_c (gj_X8_restore_0 _ (gp_4 (gp_1 (gp_1 (gp_1 gp_h))))) (gp_c (gj_X8_restore_0 _ (gp_4 (gp_4 gp_h))) (gp_c (gj_X8_restore_0 _ (gp_4 (gp_4 (gp_1 gp_h)))) (gp_c (gj_X8_restore_0 _ (gp_4 (gp_1 gp_h))) (gp_n))))) (gp_v)) ggX8_restore_X8_addThings
theorem gb_X8_fillThings : wsX8_fillThings.all goodWord = true := by decide +kernel
theorem gj_X8_restore_2 : GpS (wsX8_restore_r3) wsX8_restore := fun w h => List.mem_cons_of_mem _ (List.mem_append_left _ (List.mem_append_left _ (List.mem_append_left _ (List.mem_append_left _ (List.mem_append_left _ (List.mem_append_left _ (List.mem_append_left _ (List.mem_append_right _ (List.mem_append_right _ (List.mem_append_left _ (h)))))))))))
theorem gj_X8_restore_3 : GpS (wsX8_restore_r4) wsX8_restore := fun w h => List.mem_cons_of_mem _ (List.mem_append_left _ (List.mem_append_left _ (List.mem_append_left _ (List.mem_append_left _ (List.mem_append_left _ (List.mem_append_left _ (List.mem_append_left _ (List.mem_append_right _ (List.mem_append_right _ (List.mem_append_right _ (List.mem_append_left _ (h))))))))))))
theorem gj_X8_restore_4 : GpS (wsX8_restore_r5) wsX8_restore := fun w h => List.mem_cons_of_mem _ (List.mem_append_left _ (List.mem_append_left _ (List.mem_append_left _ (List.mem_append_left _ (List.mem_append_left _ (List.mem_append_left _ (List.mem_append_left _ (List.mem_append_right _ (List.mem_append_right _ (List.mem_append_right _ (List.mem_append_right _ (List.mem_append_left _ (h)))))))))))))
theorem gj_X8_restore_11 : GpS (wsX50) wsX8_restore := fun w h => List.mem_cons_of_mem _ (List.mem_append_left _ (List.mem_append_left _ (List.mem_append_right _ (h))))
theorem gj_X8_restore_12 : GpS (wsX10) wsX8_restore := fun w h => List.mem_cons_of_mem _ (List.mem_append_left _ (List.mem_append_right _ (h)))
set_option maxRecDepth 20000 in
theorem ggX8_restore_X8_fillThings : GoodIn wsX8_restore wsX8_fillThings := gp_s (gp_c (gj_X8_restore_1 _ (gp_4 (gp_1 (gp_1 (gp_1 gp_h))))) (gp_a (gp_a (gp_a (gp_a (gp_a (gp_a (gp_a (gp_c (gj_X8_restore_1 _ (gp_4 (gp_4 gp_h))) (gp_c (gj_X8_restore_1 _ (gp_4 (gp_4 (gp_1 gp_h)))) (gp_c (gj_X8_restore_0 _ (gp_1 gp_h)) (gp_c (gj_X8_restore_1 _ (gp_4 (gp_4 (gp_1 (gp_1 gp_h))))) (gp_c (gj_X8_restore_0 _ (gp_4 (gp_4 (gp_1 (gp_1 (gp_1 gp_h)))))) (gp_c (gj_X8_restore_1 _ (gp_4 (gp_4 (gp_1 (gp_1 (gp_1 gp_h)))))) (gp_c (gj_X8_restore_1 _ (gp_4 (gp_4 (gp_4 gp_h)))) (gp_c (gj_X8_restore_1 _ (gp_4 (gp_4 (gp_4 (gp_1 gp_h))))) (gp_c (gj_X8_restore_1 _ (gp_4 (gp_4 (gp_4 (gp_1 (gp_1 gp_h)))))) (gp_c (gj_X8_restore_1 _ (gp_4 (gp_4 (gp_4 (gp_1 (gp_1 (gp_1 gp_h))))))) (gp_c (gj_X8_restore_0 _ (gp_4 (gp_1 gp_h))) (gp_c (gj_X8_restore_1 _ (gp_16 gp_h)) (gp_c (gj_X8_restore_1 _ (gp_16 (gp_1 gp_h))) (gp_c (gj_X8_restore_1 _ (gp_16 (gp_1 (gp_1 gp_h)))) (gp_c (gj_X8_restore_1 _ (gp_16 (gp_1 (gp_1 (gp_1 gp_h))))) (gp_c (gj_X8_restore_1 _ (gp_16 (gp_4 gp_h))) (gp_c (gj_X8_restore_1 _ (gp_16 (gp_4 (gp_1 gp_h)))) (gp_c (gj_X8_restore_1 _ (gp_16 (gp_4 (gp_1 (gp_1 gp_h))))) (gp_c (gj_X8_restore_1 _ (gp_16 (gp_4 (gp_1 (gp_1 (gp_1 gp_h)))))) (gp_c (gj_X8_restore_2 _ (gp_h)) (gp_c (gj_X8_restore_2 _ (gp_1 gp_h)) (gp_c (gj_X8_restore_2 _ (gp_1 (gp_1 gp_h))) (gp_c (gj_X8_restore_2 _ (gp_1 (gp_1 (gp_1 gp_h)))) (gp_c (gj_X8_restore_2 _ (gp_4 gp_h)) (gp_n))))))))))))))))))))))))) (gp_a (gp_c (gj_X8_restore_2 _ (gp_4 (gp_1 gp_h))) (gp_c (gj_X8_restore_2 _ (gp_4 (gp_1 (gp_1 gp_h)))) (gp_c (gj_X8_restore_2 _ (gp_4 (gp_1 (gp_1 (gp_1 gp_h))))) (gp_c (gj_X8_restore_2 _ (gp_4 (gp_4 gp_h))) (gp_c (gj_X8_restore_2 _ (gp_4 (gp_4 (gp_1 gp_h)))) (gp_c (gj_X8_restore_2 _ (gp_4 (gp_4 (gp_1 (gp_1 gp_h))))) (gp_c (gj_X8_restore_2 _ (gp_4 (gp_4 (gp_1 (gp_1 (gp_1 gp_h)))))) (gp_c (gj_X8_restore_2 _ (gp_4 (gp_4 (gp_4 gp_h)))) (gp_c (gj_X8_restore_2 _ (gp_4 (gp_4 (gp_4 (gp_1 gp_h))))) (gp_c (gj_X8_restore_2 _ (gp_4 (gp_4 (gp_4 (gp_1 (gp_1 gp_h)))))) (gp_c (gj_X8_restore_2 _ (gp_4 (gp_4 (gp_4 (gp_1 (gp_1 (gp_1 gp_h))))))) (gp_c (gj_X8_restore_2 _ (gp_16 gp_h)) (gp_c (gj_X8_restore_2 _ (gp_16 (gp_1 gp_h))) (gp_c (gj_X8_restore_2 _ (gp_16 (gp_1 (gp_1 gp_h)))) (gp_c (gj_X8_restore_2 _ (gp_16 (gp_1 (gp_1 (gp_1 gp_h))))) (gp_c (gj_X8_restore_2 _ (gp_16 (gp_4 gp_h))) (gp_c (gj_X8_restore_2 _ (gp_16 (gp_4 (gp_1 gp_h)))) (gp_c (gj_X8_restore_2 _ (gp_16 (gp_4 (gp_1 (gp_1 gp_h))))) (gp_c (gj_X8_restore_2 _ (gp_16 (gp_4 (gp_1 (gp_1 (gp_1 gp_h)))))) (gp_c (gj_X8_restore_3 _ (gp_h)) (gp_c (gj_X8_restore_3 _ (gp_1 gp_h)) (gp_c (gj_X8_restore_3 _ (gp_1 (gp_1 gp_h))) (gp_c (gj_X8_restore_3 _ (gp_1 (gp_1 (gp_1 gp_h)))) (gp_c (gj_X8_restore_3 _ (gp_4 gp_h)) (gp_n))))))))))))))))))))))))) (gp_c (gj_X8_restore_3 _ (gp_4 (gp_1 gp_h))) (gp_c (gj_X8_restore_3 _ (gp_4 (gp_1 (gp_1 gp_h)))) (gp_c (gj_X8_restore_3 _ (gp_4 (gp_1 (gp_1 (gp_1 gp_h))))) (gp_c (gj_X8_restore_3 _ (gp_4 (gp_4 gp_h))) (gp_c (gj_X8_restore_3 _ (gp_4 (gp_4 (gp_1 gp_h)))) (gp_c (gj_X8_restore_3 _ (gp_4 (gp_4 (gp_1 (gp_1 gp_h))))) (gp_c (gj_X8_restore_3 _ (gp_4 (gp_4 (gp_1 (gp_1 (gp_1 gp_h)))))) (gp_c (gj_X8_restore_3 _ (gp_4 (gp_4 (gp_4 gp_h)))) (gp_c (gj_X8_restore_3 _ (gp_4 (gp_4 (gp_4 (gp_1 gp_h))))) (gp_c (gj_X8_restore_3 _ (gp_4 (gp_4 (gp_4 (gp_1 (gp_1 gp_h)))))) (gp_c (gj_X8_restore_3 _ (gp_4 (gp_4 (gp_4 (gp_1 (gp_1 (gp_1 gp_h))))))) (gp_c (gj_X8_restore_3 _ (gp_16 gp_h)) (gp_c (gj_X8_restore_3 _ (gp_16 (gp_1 gp_h))) (gp_c (gj_X8_restore_3 _ (gp_16 (gp_1 (gp_1 gp_h)))) (gp_c (gj_X8_restore_3 _ (gp_16 (gp_1 (gp_1 (gp_1 gp_h))))) (gp_c (gj_X8_restore_3 _ (gp_16 (gp_4 gp_h))) (gp_c (gj_X8_restore_3 _ (gp_16 (gp_4 (gp_1 gp_h)))) (gp_c (gj_X8_restore_3 _ (gp_16 (gp_4 (gp_1 (gp_1 gp_h))))) (gp_c (gj_X8_restore_3 _ (gp_16 (gp_4 (gp_1 (gp_1 (gp_1 gp_h)))))) (gp_c (gj_X8_restore_4 _ (gp_h)) (gp_c (gj_X8_restore_4 _ (gp_1 gp_h)) (gp_c (gj_X8_restore_4 _ (gp_1 (gp_1 gp_h))) (gp_n))))))))))))))))))))))))) (gj_X8_restore_8)) (gj_X8_restore_7)) (gj_X8_restore_9)) (gj_X8_restore_10)) (gj_X8_restore_11)) (gj_X8_restore_12))) gb_X8_fillThings
set_option maxRecDepth 20000 in
theorem gX8_restore_X8_fillThings : GoodIn wsX8_restore (wsV RX8 241 RX8 yX8_fillThings wsX8_fillThings) := goodIn_app (gp_s (gp_c (gj_X8_restore_1 _ (gp_4 gp_h)) (gp_c (gj_X8_restore_1 _ (gp_4 (gp_1 gp_h))) (gp_c (gj_X8_restore_1 _ (gp_4 (gp_1 (gp_1 gp_h)))) (gp_c (gj_X8_restore_0 _ (gp_4 (gp_1 gp_h))) (gp_n))))) (gp_v)) ggX8_restore_X8_fillThings
theorem gb_X8_judgeThings : wsX8_judgeThings.all goodWord = true := by decide +kernel
theorem gj_X8_restore_5 : GpS (wsX8_restore_r6) wsX8_restore := fun w h => List.mem_cons_of_mem _ (List.mem_append_left _ (List.mem_append_left _ (List.mem_append_left _ (List.mem_append_left _ (List.mem_append_left _ (List.mem_append_left _ (List.mem_append_left _ (List.mem_append_right _ (List.mem_append_right _ (List.mem_append_right _ (List.mem_append_right _ (List.mem_append_right _ (List.mem_append_left _ (h))))))))))))))
theorem gj_X8_restore_6 : GpS (wsX8_restore_r7) wsX8_restore := fun w h => List.mem_cons_of_mem _ (List.mem_append_left _ (List.mem_append_left _ (List.mem_append_left _ (List.mem_append_left _ (List.mem_append_left _ (List.mem_append_left _ (List.mem_append_left _ (List.mem_append_right _ (List.mem_append_right _ (List.mem_append_right _ (List.mem_append_right _ (List.mem_append_right _ (List.mem_append_right _ (h))))))))))))))
theorem gj_X8_restore_13 : GpS (wsX00) wsX8_restore := fun w h => List.mem_cons_of_mem _ (List.mem_append_right _ (h))
set_option maxRecDepth 20000 in
theorem ggX8_restore_X8_judgeThings : GoodIn wsX8_restore wsX8_judgeThings := gp_s (gp_c (gj_X8_restore_4 _ (gp_4 (gp_1 (gp_1 gp_h)))) (gp_a (gp_a (gp_a (gp_a (gp_a (gp_a (gp_a (gp_c (gj_X8_restore_0 _ (gp_1 (gp_1 gp_h))) (gp_c (gj_X8_restore_0 _ (gp_4 (gp_4 (gp_1 (gp_1 (gp_1 gp_h)))))) (gp_c (gj_X8_restore_1 _ (gp_4 (gp_4 (gp_1 (gp_1 (gp_1 gp_h)))))) (gp_c (gj_X8_restore_1 _ (gp_16 (gp_1 gp_h))) (gp_c (gj_X8_restore_4 _ (gp_4 (gp_1 (gp_1 (gp_1 gp_h))))) (gp_c (gj_X8_restore_4 _ (gp_4 (gp_4 gp_h))) (gp_c (gj_X8_restore_4 _ (gp_4 (gp_4 (gp_1 gp_h)))) (gp_c (gj_X8_restore_4 _ (gp_4 (gp_4 (gp_1 (gp_1 gp_h))))) (gp_c (gj_X8_restore_0 _ (gp_4 (gp_1 gp_h))) (gp_c (gj_X8_restore_4 _ (gp_4 (gp_4 (gp_1 (gp_1 (gp_1 gp_h)))))) (gp_c (gj_X8_restore_4 _ (gp_4 (gp_4 (gp_4 gp_h)))) (gp_c (gj_X8_restore_4 _ (gp_4 (gp_4 (gp_4 (gp_1 gp_h))))) (gp_c (gj_X8_restore_4 _ (gp_4 (gp_4 (gp_4 (gp_1 (gp_1 gp_h)))))) (gp_c (gj_X8_restore_4 _ (gp_4 (gp_4 (gp_4 (gp_1 (gp_1 (gp_1 gp_h))))))) (gp_c (gj_X8_restore_4 _ (gp_16 gp_h)) (gp_c (gj_X8_restore_4 _ (gp_16 (gp_1 gp_h))) (gp_c (gj_X8_restore_4 _ (gp_16 (gp_1 (gp_1 gp_h)))) (gp_c (gj_X8_restore_4 _ (gp_16 (gp_1 (gp_1 (gp_1 gp_h))))) (gp_c (gj_X8_restore_4 _ (gp_16 (gp_4 gp_h))) (gp_c (gj_X8_restore_4 _ (gp_16 (gp_4 (gp_1 gp_h)))) (gp_c (gj_X8_restore_4 _ (gp_16 (gp_4 (gp_1 (gp_1 gp_h))))) (gp_c (gj_X8_restore_1 _ (gp_16 (gp_4 (gp_1 (gp_1 (gp_1 gp_h)))))) (gp_c (gj_X8_restore_4 _ (gp_16 (gp_4 (gp_1 (gp_1 (gp_1 gp_h)))))) (gp_c (gj_X8_restore_5 _ (gp_h)) (gp_n))))))))))))))))))))))))) (gp_a (gp_c (gj_X8_restore_5 _ (gp_1 gp_h)) (gp_c (gj_X8_restore_2 _ (gp_1 (gp_1 (gp_1 gp_h)))) (gp_c (gj_X8_restore_5 _ (gp_1 (gp_1 gp_h))) (gp_c (gj_X8_restore_5 _ (gp_1 (gp_1 (gp_1 gp_h)))) (gp_c (gj_X8_restore_5 _ (gp_4 gp_h)) (gp_c (gj_X8_restore_5 _ (gp_4 (gp_1 gp_h))) (gp_c (gj_X8_restore_5 _ (gp_4 (gp_1 (gp_1 gp_h)))) (gp_c (gj_X8_restore_5 _ (gp_4 (gp_1 (gp_1 (gp_1 gp_h))))) (gp_c (gj_X8_restore_2 _ (gp_4 (gp_1 gp_h))) (gp_c (gj_X8_restore_0 _ (gp_4 gp_h)) (gp_c (gj_X8_restore_0 _ (gp_4 (gp_1 (gp_1 gp_h)))) (gp_c (gj_X8_restore_5 _ (gp_4 (gp_4 gp_h))) (gp_c (gj_X8_restore_5 _ (gp_4 (gp_4 (gp_1 gp_h)))) (gp_c (gj_X8_restore_5 _ (gp_4 (gp_4 (gp_1 (gp_1 gp_h))))) (gp_c (gj_X8_restore_5 _ (gp_4 (gp_4 (gp_1 (gp_1 (gp_1 gp_h)))))) (gp_c (gj_X8_restore_5 _ (gp_4 (gp_4 (gp_4 gp_h)))) (gp_c (gj_X8_restore_5 _ (gp_4 (gp_4 (gp_4 (gp_1 gp_h))))) (gp_c (gj_X8_restore_5 _ (gp_4 (gp_4 (gp_4 (gp_1 (gp_1 gp_h)))))) (gp_c (gj_X8_restore_5 _ (gp_4 (gp_4 (gp_4 (gp_1 (gp_1 (gp_1 gp_h))))))) (gp_c (gj_X8_restore_5 _ (gp_16 gp_h)) (gp_c (gj_X8_restore_5 _ (gp_16 (gp_1 gp_h))) (gp_c (gj_X8_restore_5 _ (gp_16 (gp_1 (gp_1 gp_h)))) (gp_c (gj_X8_restore_5 _ (gp_16 (gp_1 (gp_1 (gp_1 gp_h))))) (gp_c (gj_X8_restore_5 _ (gp_16 (gp_4 gp_h))) (gp_n))))))))))))))))))))))))) (gp_a (gp_c (gj_X8_restore_1 _ (gp_16 (gp_4 (gp_1 (gp_1 gp_h))))) (gp_c (gj_X8_restore_5 _ (gp_16 (gp_4 (gp_1 gp_h)))) (gp_c (gj_X8_restore_5 _ (gp_16 (gp_4 (gp_1 (gp_1 gp_h))))) (gp_c (gj_X8_restore_5 _ (gp_16 (gp_4 (gp_1 (gp_1 (gp_1 gp_h)))))) (gp_c (gj_X8_restore_6 _ (gp_h)) (gp_c (gj_X8_restore_6 _ (gp_1 gp_h)) (gp_c (gj_X8_restore_2 _ (gp_4 (gp_4 (gp_1 (gp_1 (gp_1 gp_h)))))) (gp_c (gj_X8_restore_2 _ (gp_4 (gp_4 (gp_4 gp_h)))) (gp_c (gj_X8_restore_6 _ (gp_1 (gp_1 gp_h))) (gp_c (gj_X8_restore_6 _ (gp_1 (gp_1 (gp_1 gp_h)))) (gp_c (gj_X8_restore_6 _ (gp_4 gp_h)) (gp_c (gj_X8_restore_6 _ (gp_4 (gp_1 gp_h))) (gp_c (gj_X8_restore_6 _ (gp_4 (gp_1 (gp_1 gp_h)))) (gp_c (gj_X8_restore_6 _ (gp_4 (gp_1 (gp_1 (gp_1 gp_h))))) (gp_c (gj_X8_restore_6 _ (gp_4 (gp_4 gp_h))) (gp_c (gj_X8_restore_6 _ (gp_4 (gp_4 (gp_1 gp_h)))) (gp_c (gj_X8_restore_6 _ (gp_4 (gp_4 (gp_1 (gp_1 gp_h))))) (gp_c (gj_X8_restore_6 _ (gp_4 (gp_4 (gp_1 (gp_1 (gp_1 gp_h)))))) (gp_c (gj_X8_restore_6 _ (gp_4 (gp_4 (gp_4 gp_h)))) (gp_c (gj_X8_restore_6 _ (gp_4 (gp_4 (gp_4 (gp_1 gp_h))))) (gp_c (gj_X8_restore_2 _ (gp_h)) (gp_c (gj_X8_restore_2 _ (gp_1 gp_h)) (gp_c (gj_X8_restore_2 _ (gp_1 (gp_1 gp_h))) (gp_c (gj_X8_restore_2 _ (gp_4 gp_h)) (gp_n))))))))))))))))))))))))) (gp_c (gj_X8_restore_2 _ (gp_4 (gp_1 (gp_1 gp_h)))) (gp_c (gj_X8_restore_3 _ (gp_16 (gp_1 (gp_1 gp_h)))) (gp_c (gj_X8_restore_3 _ (gp_16 (gp_1 (gp_1 (gp_1 gp_h))))) (gp_c (gj_X8_restore_3 _ (gp_16 (gp_4 gp_h))) (gp_c (gj_X8_restore_3 _ (gp_16 (gp_4 (gp_1 gp_h)))) (gp_c (gj_X8_restore_3 _ (gp_16 (gp_4 (gp_1 (gp_1 gp_h))))) (gp_c (gj_X8_restore_3 _ (gp_16 (gp_4 (gp_1 (gp_1 (gp_1 gp_h)))))) (gp_c (gj_X8_restore_4 _ (gp_h)) (gp_c (gj_X8_restore_4 _ (gp_1 gp_h)) (gp_c (gj_X8_restore_4 _ (gp_1 (gp_1 gp_h))) (gp_n)))))))))))))) (gj_X8_restore_7)) (gj_X8_restore_9)) (gj_X8_restore_10)) (gj_X8_restore_13)) (gj_X8_restore_11)) (gj_X8_restore_12))) gb_X8_judgeThings
set_option maxRecDepth 20000 in
theorem gX8_restore_X8_judgeThings : GoodIn wsX8_restore (wsV RX8 245 RX8 yX8_judgeThings wsX8_judgeThings) := goodIn_app (gp_s (gp_c (gj_X8_restore_4 _ (gp_1 (gp_1 (gp_1 gp_h)))) (gp_c (gj_X8_restore_4 _ (gp_4 gp_h)) (gp_c (gj_X8_restore_4 _ (gp_4 (gp_1 gp_h))) (gp_c (gj_X8_restore_0 _ (gp_4 (gp_1 gp_h))) (gp_n))))) (gp_v)) ggX8_restore_X8_judgeThings
set_option maxRecDepth 20000 in
theorem ggX8_restore_X8_failed : GoodIn wsX8_restore wsX8_failed := gp_s (gp_c (gj_X8_restore_6 _ (gp_16 gp_h)) (gp_n)) gb_X8_failed
set_option maxRecDepth 20000 in
theorem gX8_restore_X8_failed : GoodIn wsX8_restore (va_wsS RX8 139 yX8_failed wsX8_failed) := goodIn_app (gp_s (gp_c (gj_X8_restore_6 _ (gp_4 (gp_4 (gp_4 (gp_1 (gp_1 gp_h)))))) (gp_c (gj_X8_restore_6 _ (gp_4 (gp_4 (gp_4 (gp_1 (gp_1 (gp_1 gp_h))))))) (gp_c (gj_X8_restore_0 _ (gp_4 (gp_1 gp_h))) (gp_n)))) (gp_t)) ggX8_restore_X8_failed
noncomputable def nX8_restore : Nat := 0xac1dac8b00b804155e00b51d2a0e009904150436f500b61d2a0a009a04150436f100b61c1d321b1b00b42a2aed00b6321b1b00b42a2aacfc100600a41e1060e700b4321b1b00b42a1d3e5e00b42aacfe1006009a4a00b8071cac0205009ae700b4321b1b00b42a0f00994a00b8071b
theorem bX8_restore : Bts cX8_restore nX8_restore 111 := by unfold Bts; decide +kernel
theorem dX8_restore_0 : decode cX8_restore 0 = .ok (.iload_n 1, 1) := dz_27 (b_1 bX8_restore (by decide +kernel))
theorem dX8_restore_1 : decode cX8_restore 1 = .ok (.iconst 4, 1) := dz_7 (b_1 bX8_restore (by decide +kernel))
theorem dX8_restore_2 : decode cX8_restore 2 = .ok (.invokestatic 74, 3) := dz_184 (b_3 (a := 0) (b := 74) bX8_restore (by decide +kernel))
theorem dX8_restore_5 : decode cX8_restore 5 = .ok (.ifCond .eq 15, 3) := dz_153 (b_3 (a := 0) (b := 15) bX8_restore (by decide +kernel)) (by decide +kernel)
theorem dX8_restore_8 : decode cX8_restore 8 = .ok (.aload_n 0, 1) := dz_42 (b_1 bX8_restore (by decide +kernel))
theorem dX8_restore_9 : decode cX8_restore 9 = .ok (.getfield 27, 3) := dz_180 (b_3 (a := 0) (b := 27) bX8_restore (by decide +kernel))
theorem dX8_restore_12 : decode cX8_restore 12 = .ok (.iload_n 1, 1) := dz_27 (b_1 bX8_restore (by decide +kernel))
theorem dX8_restore_13 : decode cX8_restore 13 = .ok (.aaload, 1) := dz_50 (b_1 bX8_restore (by decide +kernel))
theorem dX8_restore_14 : decode cX8_restore 14 = .ok (.getfield 231, 3) := dz_180 (b_3 (a := 0) (b := 231) bX8_restore (by decide +kernel))
theorem dX8_restore_17 : decode cX8_restore 17 = .ok (.ifCond .ne 5, 3) := dz_154 (b_3 (a := 0) (b := 5) bX8_restore (by decide +kernel)) (by decide +kernel)
theorem dX8_restore_20 : decode cX8_restore 20 = .ok (.iconst (-1), 1) := dz_2 (b_1 bX8_restore (by decide +kernel))
theorem dX8_restore_21 : decode cX8_restore 21 = .ok (.ireturn, 1) := dz_172 (b_1 bX8_restore (by decide +kernel))
theorem dX8_restore_22 : decode cX8_restore 22 = .ok (.iload_n 2, 1) := dz_28 (b_1 bX8_restore (by decide +kernel))
theorem dX8_restore_23 : decode cX8_restore 23 = .ok (.iconst 4, 1) := dz_7 (b_1 bX8_restore (by decide +kernel))
theorem dX8_restore_24 : decode cX8_restore 24 = .ok (.invokestatic 74, 3) := dz_184 (b_3 (a := 0) (b := 74) bX8_restore (by decide +kernel))
theorem dX8_restore_27 : decode cX8_restore 27 = .ok (.ifCond .ne 6, 3) := dz_154 (b_3 (a := 0) (b := 6) bX8_restore (by decide +kernel)) (by decide +kernel)
theorem dX8_restore_30 : decode cX8_restore 30 = .ok (.bipush (-2), 2) := dz_16 (b_2 (a := 254) bX8_restore (by decide +kernel)) (by decide +kernel)
theorem dX8_restore_32 : decode cX8_restore 32 = .ok (.ireturn, 1) := dz_172 (b_1 bX8_restore (by decide +kernel))
theorem dX8_restore_33 : decode cX8_restore 33 = .ok (.aload_n 0, 1) := dz_42 (b_1 bX8_restore (by decide +kernel))
theorem dX8_restore_34 : decode cX8_restore 34 = .ok (.getfield 94, 3) := dz_180 (b_3 (a := 0) (b := 94) bX8_restore (by decide +kernel))
theorem dX8_restore_37 : decode cX8_restore 37 = .ok (.istore_n 3, 1) := dz_62 (b_1 bX8_restore (by decide +kernel))
theorem dX8_restore_38 : decode cX8_restore 38 = .ok (.iload_n 3, 1) := dz_29 (b_1 bX8_restore (by decide +kernel))
theorem dX8_restore_39 : decode cX8_restore 39 = .ok (.aload_n 0, 1) := dz_42 (b_1 bX8_restore (by decide +kernel))
theorem dX8_restore_40 : decode cX8_restore 40 = .ok (.getfield 27, 3) := dz_180 (b_3 (a := 0) (b := 27) bX8_restore (by decide +kernel))
theorem dX8_restore_43 : decode cX8_restore 43 = .ok (.iload_n 1, 1) := dz_27 (b_1 bX8_restore (by decide +kernel))
theorem dX8_restore_44 : decode cX8_restore 44 = .ok (.aaload, 1) := dz_50 (b_1 bX8_restore (by decide +kernel))
theorem dX8_restore_45 : decode cX8_restore 45 = .ok (.getfield 231, 3) := dz_180 (b_3 (a := 0) (b := 231) bX8_restore (by decide +kernel))
theorem dX8_restore_48 : decode cX8_restore 48 = .ok (.iadd, 1) := dz_96 (b_1 bX8_restore (by decide +kernel))
theorem dX8_restore_49 : decode cX8_restore 49 = .ok (.bipush 30, 2) := dz_16 (b_2 (a := 30) bX8_restore (by decide +kernel)) (by decide +kernel)
theorem dX8_restore_51 : decode cX8_restore 51 = .ok (.if_icmp .le 6, 3) := dz_164 (b_3 (a := 0) (b := 6) bX8_restore (by decide +kernel)) (by decide +kernel)
theorem dX8_restore_54 : decode cX8_restore 54 = .ok (.bipush (-4), 2) := dz_16 (b_2 (a := 252) bX8_restore (by decide +kernel)) (by decide +kernel)
theorem dX8_restore_56 : decode cX8_restore 56 = .ok (.ireturn, 1) := dz_172 (b_1 bX8_restore (by decide +kernel))
theorem dX8_restore_57 : decode cX8_restore 57 = .ok (.aload_n 0, 1) := dz_42 (b_1 bX8_restore (by decide +kernel))
theorem dX8_restore_58 : decode cX8_restore 58 = .ok (.aload_n 0, 1) := dz_42 (b_1 bX8_restore (by decide +kernel))
theorem dX8_restore_59 : decode cX8_restore 59 = .ok (.getfield 27, 3) := dz_180 (b_3 (a := 0) (b := 27) bX8_restore (by decide +kernel))
theorem dX8_restore_62 : decode cX8_restore 62 = .ok (.iload_n 1, 1) := dz_27 (b_1 bX8_restore (by decide +kernel))
theorem dX8_restore_63 : decode cX8_restore 63 = .ok (.aaload, 1) := dz_50 (b_1 bX8_restore (by decide +kernel))
theorem dX8_restore_64 : decode cX8_restore 64 = .ok (.invokevirtual 237, 3) := dz_182 (b_3 (a := 0) (b := 237) bX8_restore (by decide +kernel))
theorem dX8_restore_67 : decode cX8_restore 67 = .ok (.aload_n 0, 1) := dz_42 (b_1 bX8_restore (by decide +kernel))
theorem dX8_restore_68 : decode cX8_restore 68 = .ok (.aload_n 0, 1) := dz_42 (b_1 bX8_restore (by decide +kernel))
theorem dX8_restore_69 : decode cX8_restore 69 = .ok (.getfield 27, 3) := dz_180 (b_3 (a := 0) (b := 27) bX8_restore (by decide +kernel))
theorem dX8_restore_72 : decode cX8_restore 72 = .ok (.iload_n 1, 1) := dz_27 (b_1 bX8_restore (by decide +kernel))
theorem dX8_restore_73 : decode cX8_restore 73 = .ok (.aaload, 1) := dz_50 (b_1 bX8_restore (by decide +kernel))
theorem dX8_restore_74 : decode cX8_restore 74 = .ok (.iload_n 3, 1) := dz_29 (b_1 bX8_restore (by decide +kernel))
theorem dX8_restore_75 : decode cX8_restore 75 = .ok (.iload_n 2, 1) := dz_28 (b_1 bX8_restore (by decide +kernel))
theorem dX8_restore_76 : decode cX8_restore 76 = .ok (.invokevirtual 241, 3) := dz_182 (b_3 (a := 0) (b := 241) bX8_restore (by decide +kernel))
theorem dX8_restore_79 : decode cX8_restore 79 = .ok (.istore 4, 2) := dz_54 (b_2 (a := 4) bX8_restore (by decide +kernel))
theorem dX8_restore_81 : decode cX8_restore 81 = .ok (.iload 4, 2) := dz_21 (b_2 (a := 4) bX8_restore (by decide +kernel))
theorem dX8_restore_83 : decode cX8_restore 83 = .ok (.ifCond .ne 10, 3) := dz_154 (b_3 (a := 0) (b := 10) bX8_restore (by decide +kernel)) (by decide +kernel)
theorem dX8_restore_86 : decode cX8_restore 86 = .ok (.aload_n 0, 1) := dz_42 (b_1 bX8_restore (by decide +kernel))
theorem dX8_restore_87 : decode cX8_restore 87 = .ok (.iload_n 3, 1) := dz_29 (b_1 bX8_restore (by decide +kernel))
theorem dX8_restore_88 : decode cX8_restore 88 = .ok (.invokevirtual 245, 3) := dz_182 (b_3 (a := 0) (b := 245) bX8_restore (by decide +kernel))
theorem dX8_restore_91 : decode cX8_restore 91 = .ok (.istore 4, 2) := dz_54 (b_2 (a := 4) bX8_restore (by decide +kernel))
theorem dX8_restore_93 : decode cX8_restore 93 = .ok (.iload 4, 2) := dz_21 (b_2 (a := 4) bX8_restore (by decide +kernel))
theorem dX8_restore_95 : decode cX8_restore 95 = .ok (.ifCond .eq 14, 3) := dz_153 (b_3 (a := 0) (b := 14) bX8_restore (by decide +kernel)) (by decide +kernel)
theorem dX8_restore_98 : decode cX8_restore 98 = .ok (.aload_n 0, 1) := dz_42 (b_1 bX8_restore (by decide +kernel))
theorem dX8_restore_99 : decode cX8_restore 99 = .ok (.iload_n 3, 1) := dz_29 (b_1 bX8_restore (by decide +kernel))
theorem dX8_restore_100 : decode cX8_restore 100 = .ok (.putfield 94, 3) := dz_181 (b_3 (a := 0) (b := 94) bX8_restore (by decide +kernel))
theorem dX8_restore_103 : decode cX8_restore 103 = .ok (.iload 4, 2) := dz_21 (b_2 (a := 4) bX8_restore (by decide +kernel))
theorem dX8_restore_105 : decode cX8_restore 105 = .ok (.invokestatic 139, 3) := dz_184 (b_3 (a := 0) (b := 139) bX8_restore (by decide +kernel))
theorem dX8_restore_108 : decode cX8_restore 108 = .ok (.ireturn, 1) := dz_172 (b_1 bX8_restore (by decide +kernel))
theorem dX8_restore_109 : decode cX8_restore 109 = .ok (.iload_n 3, 1) := dz_29 (b_1 bX8_restore (by decide +kernel))
theorem dX8_restore_110 : decode cX8_restore 110 = .ok (.ireturn, 1) := dz_172 (b_1 bX8_restore (by decide +kernel))
noncomputable def nX8_fault : Nat := 0xacfe10ac0201b43a00b42aacff00b43a00b42aacfc00b43a00b42a2a000000220000001a00000002000000000000003200000000aa1bacf71006009af800b43a00b42a
theorem bX8_fault : Bts cX8_fault nX8_fault 67 := by unfold Bts; decide +kernel
theorem dX8_fault_0 : decode cX8_fault 0 = .ok (.aload_n 0, 1) := dz_42 (b_1 bX8_fault (by decide +kernel))
theorem dX8_fault_1 : decode cX8_fault 1 = .ok (.getfield 58, 3) := dz_180 (b_3 (a := 0) (b := 58) bX8_fault (by decide +kernel))
theorem dX8_fault_4 : decode cX8_fault 4 = .ok (.getfield 248, 3) := dz_180 (b_3 (a := 0) (b := 248) bX8_fault (by decide +kernel))
theorem dX8_fault_7 : decode cX8_fault 7 = .ok (.ifCond .ne 6, 3) := dz_154 (b_3 (a := 0) (b := 6) bX8_fault (by decide +kernel)) (by decide +kernel)
theorem dX8_fault_10 : decode cX8_fault 10 = .ok (.bipush (-9), 2) := dz_16 (b_2 (a := 247) bX8_fault (by decide +kernel)) (by decide +kernel)
theorem dX8_fault_12 : decode cX8_fault 12 = .ok (.ireturn, 1) := dz_172 (b_1 bX8_fault (by decide +kernel))
theorem dX8_fault_13 : decode cX8_fault 13 = .ok (.iload_n 1, 1) := dz_27 (b_1 bX8_fault (by decide +kernel))
theorem dX8_fault_14 : decode cX8_fault 14 = .ok (.tableswitch 50 0 2 #[26, 34, 42], 26) := by decide +kernel
theorem dX8_fault_40 : decode cX8_fault 40 = .ok (.aload_n 0, 1) := dz_42 (b_1 bX8_fault (by decide +kernel))
theorem dX8_fault_41 : decode cX8_fault 41 = .ok (.getfield 58, 3) := dz_180 (b_3 (a := 0) (b := 58) bX8_fault (by decide +kernel))
theorem dX8_fault_44 : decode cX8_fault 44 = .ok (.getfield 252, 3) := dz_180 (b_3 (a := 0) (b := 252) bX8_fault (by decide +kernel))
theorem dX8_fault_47 : decode cX8_fault 47 = .ok (.ireturn, 1) := dz_172 (b_1 bX8_fault (by decide +kernel))
theorem dX8_fault_48 : decode cX8_fault 48 = .ok (.aload_n 0, 1) := dz_42 (b_1 bX8_fault (by decide +kernel))
theorem dX8_fault_49 : decode cX8_fault 49 = .ok (.getfield 58, 3) := dz_180 (b_3 (a := 0) (b := 58) bX8_fault (by decide +kernel))
theorem dX8_fault_52 : decode cX8_fault 52 = .ok (.getfield 255, 3) := dz_180 (b_3 (a := 0) (b := 255) bX8_fault (by decide +kernel))
theorem dX8_fault_55 : decode cX8_fault 55 = .ok (.ireturn, 1) := dz_172 (b_1 bX8_fault (by decide +kernel))
theorem dX8_fault_56 : decode cX8_fault 56 = .ok (.aload_n 0, 1) := dz_42 (b_1 bX8_fault (by decide +kernel))
theorem dX8_fault_57 : decode cX8_fault 57 = .ok (.getfield 58, 3) := dz_180 (b_3 (a := 0) (b := 58) bX8_fault (by decide +kernel))
theorem dX8_fault_60 : decode cX8_fault 60 = .ok (.getfield 258, 3) := dz_180 (b_3 (a := 1) (b := 2) bX8_fault (by decide +kernel))
theorem dX8_fault_63 : decode cX8_fault 63 = .ok (.ireturn, 1) := dz_172 (b_1 bX8_fault (by decide +kernel))
theorem dX8_fault_64 : decode cX8_fault 64 = .ok (.bipush (-2), 2) := dz_16 (b_2 (a := 254) bX8_fault (by decide +kernel)) (by decide +kernel)
theorem dX8_fault_66 : decode cX8_fault 66 = .ok (.ireturn, 1) := dz_172 (b_1 bX8_fault (by decide +kernel))
theorem gj_X8_like_0 : GpS (wsX8_like_r1) wsX8_like := fun w h => List.mem_cons_of_mem _ (List.mem_append_left _ (List.mem_append_left _ (List.mem_append_left _ (List.mem_append_left _ (List.mem_append_left _ (List.mem_append_left _ (h)))))))
theorem gj_X8_like_4 : GpS (wsX80) wsX8_like := fun w h => List.mem_cons_of_mem _ (List.mem_append_left _ (List.mem_append_left _ (List.mem_append_left _ (List.mem_append_left _ (List.mem_append_right _ (h))))))
set_option maxRecDepth 20000 in
theorem ggX8_like_X8_thingNumbered : GoodIn wsX8_like wsX8_thingNumbered := gp_s (gp_c (gj_X8_like_0 _ (gp_4 (gp_1 (gp_1 gp_h)))) (gp_a (gp_c (gj_X8_like_0 _ (gp_4 (gp_1 (gp_1 (gp_1 gp_h))))) (gp_c (gj_X8_like_0 _ (gp_4 (gp_4 gp_h))) (gp_n))) (gj_X8_like_4))) gb_X8_thingNumbered
set_option maxRecDepth 20000 in
theorem gX8_like_X8_thingNumbered : GoodIn wsX8_like (wsV RX8 177 RX8 yX8_thingNumbered wsX8_thingNumbered) := goodIn_app (gp_s (gp_c (gj_X8_like_0 _ (gp_1 (gp_1 gp_h))) (gp_c (gj_X8_like_0 _ (gp_1 (gp_1 (gp_1 gp_h)))) (gp_c (gj_X8_like_0 _ (gp_4 gp_h)) (gp_c (gj_X8_like_0 _ (gp_4 (gp_1 gp_h))) (gp_n))))) (gp_v)) ggX8_like_X8_thingNumbered
theorem gj_X8_like_1 : GpS (wsX8_like_r2) wsX8_like := fun w h => List.mem_cons_of_mem _ (List.mem_append_left _ (List.mem_append_left _ (List.mem_append_left _ (List.mem_append_left _ (List.mem_append_left _ (List.mem_append_right _ (List.mem_append_left _ (h))))))))
theorem gj_X8_like_2 : GpS (wsX8_like_r3) wsX8_like := fun w h => List.mem_cons_of_mem _ (List.mem_append_left _ (List.mem_append_left _ (List.mem_append_left _ (List.mem_append_left _ (List.mem_append_left _ (List.mem_append_right _ (List.mem_append_right _ (List.mem_append_left _ (h)))))))))
theorem gj_X8_like_5 : GpS (wsX40) wsX8_like := fun w h => List.mem_cons_of_mem _ (List.mem_append_left _ (List.mem_append_left _ (List.mem_append_left _ (List.mem_append_right _ (h)))))
theorem gj_X8_like_6 : GpS (wsX60) wsX8_like := fun w h => List.mem_cons_of_mem _ (List.mem_append_left _ (List.mem_append_left _ (List.mem_append_right _ (h))))
theorem gj_X8_like_7 : GpS (wsX70) wsX8_like := fun w h => List.mem_cons_of_mem _ (List.mem_append_left _ (List.mem_append_right _ (h)))
theorem gj_X8_like_8 : GpS (wsX50) wsX8_like := fun w h => List.mem_cons_of_mem _ (List.mem_append_right _ (h))
set_option maxRecDepth 20000 in
theorem ggX8_like_X8_recordFrom : GoodIn wsX8_like wsX8_recordFrom := gp_s (gp_c (gj_X8_like_0 _ (gp_4 (gp_4 (gp_4 gp_h)))) (gp_a (gp_a (gp_a (gp_a (gp_a (gp_a (gp_c (gj_X8_like_0 _ (gp_4 (gp_4 (gp_4 (gp_1 gp_h))))) (gp_c (gj_X8_like_0 _ (gp_4 (gp_4 (gp_4 (gp_1 (gp_1 gp_h)))))) (gp_c (gj_X8_like_0 _ (gp_4 (gp_4 (gp_4 (gp_1 (gp_1 (gp_1 gp_h))))))) (gp_c (gj_X8_like_0 _ (gp_16 gp_h)) (gp_c (gj_X8_like_0 _ (gp_16 (gp_1 gp_h))) (gp_c (gj_X8_like_0 _ (gp_16 (gp_1 (gp_1 gp_h)))) (gp_c (gj_X8_like_0 _ (gp_4 (gp_1 gp_h))) (gp_c (gj_X8_like_0 _ (gp_16 (gp_1 (gp_1 (gp_1 gp_h))))) (gp_c (gj_X8_like_0 _ (gp_4 (gp_1 (gp_1 (gp_1 gp_h))))) (gp_c (gj_X8_like_0 _ (gp_4 (gp_4 gp_h))) (gp_c (gj_X8_like_0 _ (gp_16 (gp_4 gp_h))) (gp_c (gj_X8_like_0 _ (gp_16 (gp_4 (gp_1 gp_h)))) (gp_c (gj_X8_like_0 _ (gp_16 (gp_4 (gp_1 (gp_1 gp_h))))) (gp_c (gj_X8_like_0 _ (gp_16 (gp_4 (gp_1 (gp_1 (gp_1 gp_h)))))) (gp_c (gj_X8_like_1 _ (gp_h)) (gp_c (gj_X8_like_1 _ (gp_1 gp_h)) (gp_c (gj_X8_like_1 _ (gp_1 (gp_1 gp_h))) (gp_c (gj_X8_like_1 _ (gp_1 (gp_1 (gp_1 gp_h)))) (gp_c (gj_X8_like_1 _ (gp_4 gp_h)) (gp_c (gj_X8_like_1 _ (gp_4 (gp_1 gp_h))) (gp_c (gj_X8_like_1 _ (gp_4 (gp_1 (gp_1 gp_h)))) (gp_c (gj_X8_like_1 _ (gp_4 (gp_1 (gp_1 (gp_1 gp_h))))) (gp_c (gj_X8_like_1 _ (gp_4 (gp_4 gp_h))) (gp_c (gj_X8_like_1 _ (gp_4 (gp_4 (gp_1 gp_h)))) (gp_n))))))))))))))))))))))))) (gp_a (gp_c (gj_X8_like_1 _ (gp_4 (gp_4 (gp_1 (gp_1 gp_h))))) (gp_c (gj_X8_like_1 _ (gp_4 (gp_4 (gp_1 (gp_1 (gp_1 gp_h)))))) (gp_c (gj_X8_like_1 _ (gp_4 (gp_4 (gp_4 gp_h)))) (gp_c (gj_X8_like_1 _ (gp_4 (gp_4 (gp_4 (gp_1 gp_h))))) (gp_c (gj_X8_like_1 _ (gp_4 (gp_4 (gp_4 (gp_1 (gp_1 gp_h)))))) (gp_c (gj_X8_like_1 _ (gp_4 (gp_4 (gp_4 (gp_1 (gp_1 (gp_1 gp_h))))))) (gp_c (gj_X8_like_1 _ (gp_16 gp_h)) (gp_c (gj_X8_like_1 _ (gp_16 (gp_1 gp_h))) (gp_c (gj_X8_like_1 _ (gp_16 (gp_1 (gp_1 gp_h)))) (gp_c (gj_X8_like_1 _ (gp_16 (gp_1 (gp_1 (gp_1 gp_h))))) (gp_c (gj_X8_like_1 _ (gp_16 (gp_4 gp_h))) (gp_c (gj_X8_like_1 _ (gp_16 (gp_4 (gp_1 gp_h)))) (gp_c (gj_X8_like_1 _ (gp_16 (gp_4 (gp_1 (gp_1 gp_h))))) (gp_c (gj_X8_like_1 _ (gp_16 (gp_4 (gp_1 (gp_1 (gp_1 gp_h)))))) (gp_c (gj_X8_like_2 _ (gp_h)) (gp_c (gj_X8_like_2 _ (gp_1 gp_h)) (gp_c (gj_X8_like_2 _ (gp_1 (gp_1 gp_h))) (gp_c (gj_X8_like_2 _ (gp_1 (gp_1 (gp_1 gp_h)))) (gp_c (gj_X8_like_2 _ (gp_4 gp_h)) (gp_c (gj_X8_like_2 _ (gp_4 (gp_1 gp_h))) (gp_c (gj_X8_like_2 _ (gp_4 (gp_1 (gp_1 gp_h)))) (gp_c (gj_X8_like_2 _ (gp_4 (gp_1 (gp_1 (gp_1 gp_h))))) (gp_c (gj_X8_like_2 _ (gp_4 (gp_4 gp_h))) (gp_c (gj_X8_like_2 _ (gp_4 (gp_4 (gp_1 gp_h)))) (gp_n))))))))))))))))))))))))) (gp_c (gj_X8_like_2 _ (gp_4 (gp_4 (gp_1 (gp_1 gp_h))))) (gp_c (gj_X8_like_2 _ (gp_4 (gp_4 (gp_1 (gp_1 (gp_1 gp_h)))))) (gp_c (gj_X8_like_2 _ (gp_4 (gp_4 (gp_4 gp_h)))) (gp_c (gj_X8_like_2 _ (gp_4 (gp_4 (gp_4 (gp_1 gp_h))))) (gp_c (gj_X8_like_2 _ (gp_4 (gp_4 (gp_4 (gp_1 (gp_1 gp_h)))))) (gp_c (gj_X8_like_2 _ (gp_4 (gp_4 (gp_4 (gp_1 (gp_1 (gp_1 gp_h))))))) (gp_c (gj_X8_like_2 _ (gp_16 gp_h)) (gp_c (gj_X8_like_2 _ (gp_16 (gp_1 gp_h))) (gp_c (gj_X8_like_2 _ (gp_16 (gp_1 (gp_1 gp_h)))) (gp_c (gj_X8_like_2 _ (gp_16 (gp_1 (gp_1 (gp_1 gp_h))))) (gp_c (gj_X8_like_2 _ (gp_16 (gp_4 gp_h))) (gp_c (gj_X8_like_0 _ (gp_1 (gp_1 gp_h))) (gp_c (gj_X8_like_0 _ (gp_1 (gp_1 (gp_1 gp_h)))) (gp_c (gj_X8_like_0 _ (gp_4 gp_h)) (gp_c (gj_X8_like_0 _ (gp_4 (gp_1 (gp_1 gp_h)))) (gp_n)))))))))))))))))) (gj_X8_like_5)) (gj_X8_like_4)) (gj_X8_like_6)) (gj_X8_like_7)) (gj_X8_like_8))) gb_X8_recordFrom
set_option maxRecDepth 20000 in
theorem gX8_like_X8_recordFrom : GoodIn wsX8_like (wsV RX8 216 RX8 yX8_recordFrom wsX8_recordFrom) := goodIn_app (gp_s (gp_c (gj_X8_like_0 _ (gp_4 (gp_4 (gp_1 gp_h)))) (gp_c (gj_X8_like_0 _ (gp_4 (gp_4 (gp_1 (gp_1 gp_h))))) (gp_c (gj_X8_like_0 _ (gp_4 (gp_4 (gp_1 (gp_1 (gp_1 gp_h)))))) (gp_c (gj_X8_like_0 _ (gp_4 (gp_1 gp_h))) (gp_n))))) (gp_v)) ggX8_like_X8_recordFrom
theorem gb_X8_firstDifference : wsX8_firstDifference.all goodWord = true := by decide +kernel
theorem gj_X8_like_3 : GpS (wsX8_like_r4) wsX8_like := fun w h => List.mem_cons_of_mem _ (List.mem_append_left _ (List.mem_append_left _ (List.mem_append_left _ (List.mem_append_left _ (List.mem_append_left _ (List.mem_append_right _ (List.mem_append_right _ (List.mem_append_right _ (h)))))))))
set_option maxRecDepth 20000 in
theorem ggX8_like_X8_firstDifference : GoodIn wsX8_like wsX8_firstDifference := gp_s (gp_c (gj_X8_like_2 _ (gp_16 (gp_4 (gp_1 (gp_1 (gp_1 gp_h)))))) (gp_a (gp_a (gp_c (gj_X8_like_0 _ (gp_4 (gp_4 (gp_4 (gp_1 gp_h))))) (gp_c (gj_X8_like_3 _ (gp_h)) (gp_c (gj_X8_like_3 _ (gp_1 gp_h)) (gp_c (gj_X8_like_3 _ (gp_1 (gp_1 gp_h))) (gp_c (gj_X8_like_3 _ (gp_1 (gp_1 (gp_1 gp_h)))) (gp_c (gj_X8_like_1 _ (gp_4 (gp_4 (gp_4 (gp_1 (gp_1 gp_h)))))) (gp_c (gj_X8_like_1 _ (gp_16 (gp_4 gp_h))) (gp_c (gj_X8_like_3 _ (gp_4 gp_h)) (gp_c (gj_X8_like_3 _ (gp_4 (gp_1 gp_h))) (gp_c (gj_X8_like_3 _ (gp_4 (gp_1 (gp_1 gp_h)))) (gp_c (gj_X8_like_2 _ (gp_4 (gp_4 (gp_4 (gp_1 (gp_1 gp_h)))))) (gp_c (gj_X8_like_3 _ (gp_4 (gp_1 (gp_1 (gp_1 gp_h))))) (gp_c (gj_X8_like_3 _ (gp_4 (gp_4 gp_h))) (gp_c (gj_X8_like_3 _ (gp_4 (gp_4 (gp_1 gp_h)))) (gp_c (gj_X8_like_3 _ (gp_4 (gp_4 (gp_1 (gp_1 gp_h))))) (gp_c (gj_X8_like_3 _ (gp_4 (gp_4 (gp_1 (gp_1 (gp_1 gp_h)))))) (gp_c (gj_X8_like_3 _ (gp_4 (gp_4 (gp_4 gp_h)))) (gp_c (gj_X8_like_3 _ (gp_4 (gp_4 (gp_4 (gp_1 gp_h))))) (gp_c (gj_X8_like_3 _ (gp_4 (gp_4 (gp_4 (gp_1 (gp_1 gp_h)))))) (gp_c (gj_X8_like_3 _ (gp_4 (gp_4 (gp_4 (gp_1 (gp_1 (gp_1 gp_h))))))) (gp_c (gj_X8_like_3 _ (gp_16 gp_h)) (gp_c (gj_X8_like_3 _ (gp_16 (gp_1 gp_h))) (gp_c (gj_X8_like_3 _ (gp_16 (gp_1 (gp_1 gp_h)))) (gp_c (gj_X8_like_2 _ (gp_4 (gp_4 (gp_1 gp_h)))) (gp_n))))))))))))))))))))))))) (gp_c (gj_X8_like_0 _ (gp_4 (gp_1 gp_h))) (gp_c (gj_X8_like_2 _ (gp_4 (gp_4 (gp_1 (gp_1 gp_h))))) (gp_c (gj_X8_like_3 _ (gp_16 (gp_1 (gp_1 (gp_1 gp_h))))) (gp_c (gj_X8_like_3 _ (gp_16 (gp_4 gp_h))) (gp_c (gj_X8_like_3 _ (gp_16 (gp_4 (gp_1 gp_h)))) (gp_c (gj_X8_like_3 _ (gp_16 (gp_4 (gp_1 (gp_1 gp_h))))) (gp_c (gj_X8_like_2 _ (gp_16 (gp_1 (gp_1 gp_h)))) (gp_c (gj_X8_like_2 _ (gp_16 (gp_4 gp_h))) (gp_n)))))))))) (gj_X8_like_5))) gb_X8_firstDifference
set_option maxRecDepth 20000 in
theorem gX8_like_X8_firstDifference : GoodIn wsX8_like (va_wsS RX8 261 yX8_firstDifference wsX8_firstDifference) := goodIn_app (gp_s (gp_c (gj_X8_like_2 _ (gp_16 (gp_4 (gp_1 gp_h)))) (gp_c (gj_X8_like_2 _ (gp_16 (gp_4 (gp_1 (gp_1 gp_h))))) (gp_c (gj_X8_like_0 _ (gp_4 (gp_1 gp_h))) (gp_n)))) (gp_t)) ggX8_like_X8_firstDifference
noncomputable def nX8_like : Nat := 0xac030400a7040700a0020501b82400b42a2000b42ad800b62400b42a04192ad800b62000b42a2d2aac020500c704190800c62d043ab100b6851c2a4eb100b6851b2a
theorem bX8_like : Bts cX8_like nX8_like 66 := by unfold Bts; decide +kernel
theorem dX8_like_0 : decode cX8_like 0 = .ok (.aload_n 0, 1) := dz_42 (b_1 bX8_like (by decide +kernel))
theorem dX8_like_1 : decode cX8_like 1 = .ok (.iload_n 1, 1) := dz_27 (b_1 bX8_like (by decide +kernel))
theorem dX8_like_2 : decode cX8_like 2 = .ok (.i2l, 1) := dz_133 (b_1 bX8_like (by decide +kernel))
theorem dX8_like_3 : decode cX8_like 3 = .ok (.invokevirtual 177, 3) := dz_182 (b_3 (a := 0) (b := 177) bX8_like (by decide +kernel))
theorem dX8_like_6 : decode cX8_like 6 = .ok (.astore_n 3, 1) := dz_78 (b_1 bX8_like (by decide +kernel))
theorem dX8_like_7 : decode cX8_like 7 = .ok (.aload_n 0, 1) := dz_42 (b_1 bX8_like (by decide +kernel))
theorem dX8_like_8 : decode cX8_like 8 = .ok (.iload_n 2, 1) := dz_28 (b_1 bX8_like (by decide +kernel))
theorem dX8_like_9 : decode cX8_like 9 = .ok (.i2l, 1) := dz_133 (b_1 bX8_like (by decide +kernel))
theorem dX8_like_10 : decode cX8_like 10 = .ok (.invokevirtual 177, 3) := dz_182 (b_3 (a := 0) (b := 177) bX8_like (by decide +kernel))
theorem dX8_like_13 : decode cX8_like 13 = .ok (.astore 4, 2) := dz_58 (b_2 (a := 4) bX8_like (by decide +kernel))
theorem dX8_like_15 : decode cX8_like 15 = .ok (.aload_n 3, 1) := dz_45 (b_1 bX8_like (by decide +kernel))
theorem dX8_like_16 : decode cX8_like 16 = .ok (.ifnull 8, 3) := dz_198 (b_3 (a := 0) (b := 8) bX8_like (by decide +kernel)) (by decide +kernel)
theorem dX8_like_19 : decode cX8_like 19 = .ok (.aload 4, 2) := dz_25 (b_2 (a := 4) bX8_like (by decide +kernel))
theorem dX8_like_21 : decode cX8_like 21 = .ok (.ifnonnull 5, 3) := dz_199 (b_3 (a := 0) (b := 5) bX8_like (by decide +kernel)) (by decide +kernel)
theorem dX8_like_24 : decode cX8_like 24 = .ok (.iconst (-1), 1) := dz_2 (b_1 bX8_like (by decide +kernel))
theorem dX8_like_25 : decode cX8_like 25 = .ok (.ireturn, 1) := dz_172 (b_1 bX8_like (by decide +kernel))
theorem dX8_like_26 : decode cX8_like 26 = .ok (.aload_n 0, 1) := dz_42 (b_1 bX8_like (by decide +kernel))
theorem dX8_like_27 : decode cX8_like 27 = .ok (.aload_n 3, 1) := dz_45 (b_1 bX8_like (by decide +kernel))
theorem dX8_like_28 : decode cX8_like 28 = .ok (.aload_n 0, 1) := dz_42 (b_1 bX8_like (by decide +kernel))
theorem dX8_like_29 : decode cX8_like 29 = .ok (.getfield 32, 3) := dz_180 (b_3 (a := 0) (b := 32) bX8_like (by decide +kernel))
theorem dX8_like_32 : decode cX8_like 32 = .ok (.invokevirtual 216, 3) := dz_182 (b_3 (a := 0) (b := 216) bX8_like (by decide +kernel))
theorem dX8_like_35 : decode cX8_like 35 = .ok (.aload_n 0, 1) := dz_42 (b_1 bX8_like (by decide +kernel))
theorem dX8_like_36 : decode cX8_like 36 = .ok (.aload 4, 2) := dz_25 (b_2 (a := 4) bX8_like (by decide +kernel))
theorem dX8_like_38 : decode cX8_like 38 = .ok (.aload_n 0, 1) := dz_42 (b_1 bX8_like (by decide +kernel))
theorem dX8_like_39 : decode cX8_like 39 = .ok (.getfield 36, 3) := dz_180 (b_3 (a := 0) (b := 36) bX8_like (by decide +kernel))
theorem dX8_like_42 : decode cX8_like 42 = .ok (.invokevirtual 216, 3) := dz_182 (b_3 (a := 0) (b := 216) bX8_like (by decide +kernel))
theorem dX8_like_45 : decode cX8_like 45 = .ok (.aload_n 0, 1) := dz_42 (b_1 bX8_like (by decide +kernel))
theorem dX8_like_46 : decode cX8_like 46 = .ok (.getfield 32, 3) := dz_180 (b_3 (a := 0) (b := 32) bX8_like (by decide +kernel))
theorem dX8_like_49 : decode cX8_like 49 = .ok (.aload_n 0, 1) := dz_42 (b_1 bX8_like (by decide +kernel))
theorem dX8_like_50 : decode cX8_like 50 = .ok (.getfield 36, 3) := dz_180 (b_3 (a := 0) (b := 36) bX8_like (by decide +kernel))
theorem dX8_like_53 : decode cX8_like 53 = .ok (.invokestatic 261, 3) := dz_184 (b_3 (a := 1) (b := 5) bX8_like (by decide +kernel))
theorem dX8_like_56 : decode cX8_like 56 = .ok (.iconst (-1), 1) := dz_2 (b_1 bX8_like (by decide +kernel))
theorem dX8_like_57 : decode cX8_like 57 = .ok (.if_icmp .ne 7, 3) := dz_160 (b_3 (a := 0) (b := 7) bX8_like (by decide +kernel)) (by decide +kernel)
theorem dX8_like_60 : decode cX8_like 60 = .ok (.iconst 1, 1) := dz_4 (b_1 bX8_like (by decide +kernel))
theorem dX8_like_61 : decode cX8_like 61 = .ok (.goto 4, 3) := dz_167 (b_3 (a := 0) (b := 4) bX8_like (by decide +kernel)) (by decide +kernel)
theorem dX8_like_64 : decode cX8_like 64 = .ok (.iconst 0, 1) := dz_3 (b_1 bX8_like (by decide +kernel))
theorem dX8_like_65 : decode cX8_like 65 = .ok (.ireturn, 1) := dz_172 (b_1 bX8_like (by decide +kernel))
theorem gj_X8_differs_0 : GpS (wsX8_differs_r1) wsX8_differs := fun w h => List.mem_cons_of_mem _ (List.mem_append_left _ (List.mem_append_left _ (List.mem_append_left _ (List.mem_append_left _ (List.mem_append_left _ (List.mem_append_left _ (h)))))))
theorem gj_X8_differs_5 : GpS (wsX80) wsX8_differs := fun w h => List.mem_cons_of_mem _ (List.mem_append_left _ (List.mem_append_left _ (List.mem_append_left _ (List.mem_append_left _ (List.mem_append_right _ (h))))))
set_option maxRecDepth 20000 in
theorem ggX8_differs_X8_thingNumbered : GoodIn wsX8_differs wsX8_thingNumbered := gp_s (gp_c (gj_X8_differs_0 _ (gp_4 (gp_1 (gp_1 (gp_1 gp_h))))) (gp_a (gp_c (gj_X8_differs_0 _ (gp_4 (gp_4 gp_h))) (gp_c (gj_X8_differs_0 _ (gp_4 (gp_4 (gp_1 gp_h)))) (gp_n))) (gj_X8_differs_5))) gb_X8_thingNumbered
set_option maxRecDepth 20000 in
theorem gX8_differs_X8_thingNumbered : GoodIn wsX8_differs (wsV RX8 177 RX8 yX8_thingNumbered wsX8_thingNumbered) := goodIn_app (gp_s (gp_c (gj_X8_differs_0 _ (gp_1 (gp_1 (gp_1 gp_h)))) (gp_c (gj_X8_differs_0 _ (gp_4 gp_h)) (gp_c (gj_X8_differs_0 _ (gp_4 (gp_1 gp_h))) (gp_c (gj_X8_differs_0 _ (gp_4 (gp_1 (gp_1 gp_h)))) (gp_n))))) (gp_v)) ggX8_differs_X8_thingNumbered
set_option maxRecDepth 20000 in
theorem ggX8_differs_X8_isBelow : GoodIn wsX8_differs wsX8_isBelow := gp_s (gp_c (gj_X8_differs_0 _ (gp_4 (gp_4 (gp_4 gp_h)))) (gp_n)) gb_X8_isBelow
set_option maxRecDepth 20000 in
theorem gX8_differs_X8_isBelow : GoodIn wsX8_differs (va_wsS RX8 74 yX8_isBelow wsX8_isBelow) := goodIn_app (gp_s (gp_c (gj_X8_differs_0 _ (gp_4 (gp_4 (gp_1 (gp_1 gp_h))))) (gp_c (gj_X8_differs_0 _ (gp_4 (gp_4 (gp_1 (gp_1 (gp_1 gp_h)))))) (gp_c (gj_X8_differs_0 _ (gp_4 (gp_1 (gp_1 gp_h)))) (gp_n)))) (gp_t)) ggX8_differs_X8_isBelow
theorem gj_X8_differs_1 : GpS (wsX8_differs_r2) wsX8_differs := fun w h => List.mem_cons_of_mem _ (List.mem_append_left _ (List.mem_append_left _ (List.mem_append_left _ (List.mem_append_left _ (List.mem_append_left _ (List.mem_append_right _ (List.mem_append_left _ (h))))))))
theorem gj_X8_differs_2 : GpS (wsX8_differs_r3) wsX8_differs := fun w h => List.mem_cons_of_mem _ (List.mem_append_left _ (List.mem_append_left _ (List.mem_append_left _ (List.mem_append_left _ (List.mem_append_left _ (List.mem_append_right _ (List.mem_append_right _ (List.mem_append_left _ (h)))))))))
theorem gj_X8_differs_6 : GpS (wsX40) wsX8_differs := fun w h => List.mem_cons_of_mem _ (List.mem_append_left _ (List.mem_append_left _ (List.mem_append_left _ (List.mem_append_right _ (h)))))
theorem gj_X8_differs_7 : GpS (wsX60) wsX8_differs := fun w h => List.mem_cons_of_mem _ (List.mem_append_left _ (List.mem_append_left _ (List.mem_append_right _ (h))))
theorem gj_X8_differs_8 : GpS (wsX70) wsX8_differs := fun w h => List.mem_cons_of_mem _ (List.mem_append_left _ (List.mem_append_right _ (h)))
theorem gj_X8_differs_9 : GpS (wsX50) wsX8_differs := fun w h => List.mem_cons_of_mem _ (List.mem_append_right _ (h))
set_option maxRecDepth 20000 in
theorem ggX8_differs_X8_recordFrom : GoodIn wsX8_differs wsX8_recordFrom := gp_s (gp_c (gj_X8_differs_0 _ (gp_16 gp_h)) (gp_a (gp_a (gp_a (gp_a (gp_a (gp_a (gp_c (gj_X8_differs_0 _ (gp_1 gp_h)) (gp_c (gj_X8_differs_0 _ (gp_16 (gp_1 gp_h))) (gp_c (gj_X8_differs_0 _ (gp_16 (gp_1 (gp_1 gp_h)))) (gp_c (gj_X8_differs_0 _ (gp_16 (gp_1 (gp_1 (gp_1 gp_h))))) (gp_c (gj_X8_differs_0 _ (gp_16 (gp_4 gp_h))) (gp_c (gj_X8_differs_0 _ (gp_16 (gp_4 (gp_1 gp_h)))) (gp_c (gj_X8_differs_0 _ (gp_4 (gp_1 (gp_1 gp_h)))) (gp_c (gj_X8_differs_0 _ (gp_16 (gp_4 (gp_1 (gp_1 gp_h))))) (gp_c (gj_X8_differs_0 _ (gp_4 (gp_4 gp_h))) (gp_c (gj_X8_differs_0 _ (gp_4 (gp_4 (gp_1 gp_h)))) (gp_c (gj_X8_differs_0 _ (gp_16 (gp_4 (gp_1 (gp_1 (gp_1 gp_h)))))) (gp_c (gj_X8_differs_1 _ (gp_h)) (gp_c (gj_X8_differs_1 _ (gp_1 gp_h)) (gp_c (gj_X8_differs_1 _ (gp_1 (gp_1 gp_h))) (gp_c (gj_X8_differs_1 _ (gp_1 (gp_1 (gp_1 gp_h)))) (gp_c (gj_X8_differs_1 _ (gp_4 gp_h)) (gp_c (gj_X8_differs_1 _ (gp_4 (gp_1 gp_h))) (gp_c (gj_X8_differs_1 _ (gp_4 (gp_1 (gp_1 gp_h)))) (gp_c (gj_X8_differs_1 _ (gp_4 (gp_1 (gp_1 (gp_1 gp_h))))) (gp_c (gj_X8_differs_1 _ (gp_4 (gp_4 gp_h))) (gp_c (gj_X8_differs_1 _ (gp_4 (gp_4 (gp_1 gp_h)))) (gp_c (gj_X8_differs_1 _ (gp_4 (gp_4 (gp_1 (gp_1 gp_h))))) (gp_c (gj_X8_differs_1 _ (gp_4 (gp_4 (gp_1 (gp_1 (gp_1 gp_h)))))) (gp_c (gj_X8_differs_1 _ (gp_4 (gp_4 (gp_4 gp_h)))) (gp_n))))))))))))))))))))))))) (gp_a (gp_c (gj_X8_differs_1 _ (gp_4 (gp_4 (gp_4 (gp_1 gp_h))))) (gp_c (gj_X8_differs_1 _ (gp_4 (gp_4 (gp_4 (gp_1 (gp_1 gp_h)))))) (gp_c (gj_X8_differs_1 _ (gp_4 (gp_4 (gp_4 (gp_1 (gp_1 (gp_1 gp_h))))))) (gp_c (gj_X8_differs_1 _ (gp_16 gp_h)) (gp_c (gj_X8_differs_1 _ (gp_16 (gp_1 gp_h))) (gp_c (gj_X8_differs_1 _ (gp_16 (gp_1 (gp_1 gp_h)))) (gp_c (gj_X8_differs_1 _ (gp_16 (gp_1 (gp_1 (gp_1 gp_h))))) (gp_c (gj_X8_differs_1 _ (gp_16 (gp_4 gp_h))) (gp_c (gj_X8_differs_1 _ (gp_16 (gp_4 (gp_1 gp_h)))) (gp_c (gj_X8_differs_1 _ (gp_16 (gp_4 (gp_1 (gp_1 gp_h))))) (gp_c (gj_X8_differs_1 _ (gp_16 (gp_4 (gp_1 (gp_1 (gp_1 gp_h)))))) (gp_c (gj_X8_differs_2 _ (gp_h)) (gp_c (gj_X8_differs_2 _ (gp_1 gp_h)) (gp_c (gj_X8_differs_2 _ (gp_1 (gp_1 gp_h))) (gp_c (gj_X8_differs_2 _ (gp_1 (gp_1 (gp_1 gp_h)))) (gp_c (gj_X8_differs_2 _ (gp_4 gp_h)) (gp_c (gj_X8_differs_2 _ (gp_4 (gp_1 gp_h))) (gp_c (gj_X8_differs_2 _ (gp_4 (gp_1 (gp_1 gp_h)))) (gp_c (gj_X8_differs_2 _ (gp_4 (gp_1 (gp_1 (gp_1 gp_h))))) (gp_c (gj_X8_differs_2 _ (gp_4 (gp_4 gp_h))) (gp_c (gj_X8_differs_2 _ (gp_4 (gp_4 (gp_1 gp_h)))) (gp_c (gj_X8_differs_2 _ (gp_4 (gp_4 (gp_1 (gp_1 gp_h))))) (gp_c (gj_X8_differs_2 _ (gp_4 (gp_4 (gp_1 (gp_1 (gp_1 gp_h)))))) (gp_c (gj_X8_differs_2 _ (gp_4 (gp_4 (gp_4 gp_h)))) (gp_n))))))))))))))))))))))))) (gp_c (gj_X8_differs_2 _ (gp_4 (gp_4 (gp_4 (gp_1 gp_h))))) (gp_c (gj_X8_differs_2 _ (gp_4 (gp_4 (gp_4 (gp_1 (gp_1 gp_h)))))) (gp_c (gj_X8_differs_2 _ (gp_4 (gp_4 (gp_4 (gp_1 (gp_1 (gp_1 gp_h))))))) (gp_c (gj_X8_differs_2 _ (gp_16 gp_h)) (gp_c (gj_X8_differs_2 _ (gp_16 (gp_1 gp_h))) (gp_c (gj_X8_differs_2 _ (gp_16 (gp_1 (gp_1 gp_h)))) (gp_c (gj_X8_differs_2 _ (gp_16 (gp_1 (gp_1 (gp_1 gp_h))))) (gp_c (gj_X8_differs_2 _ (gp_16 (gp_4 gp_h))) (gp_c (gj_X8_differs_2 _ (gp_16 (gp_4 (gp_1 gp_h)))) (gp_c (gj_X8_differs_2 _ (gp_16 (gp_4 (gp_1 (gp_1 gp_h))))) (gp_c (gj_X8_differs_2 _ (gp_16 (gp_4 (gp_1 (gp_1 (gp_1 gp_h)))))) (gp_c (gj_X8_differs_0 _ (gp_1 (gp_1 (gp_1 gp_h)))) (gp_c (gj_X8_differs_0 _ (gp_4 gp_h)) (gp_c (gj_X8_differs_0 _ (gp_4 (gp_1 gp_h))) (gp_c (gj_X8_differs_0 _ (gp_4 (gp_1 (gp_1 (gp_1 gp_h))))) (gp_n)))))))))))))))))) (gj_X8_differs_6)) (gj_X8_differs_5)) (gj_X8_differs_7)) (gj_X8_differs_8)) (gj_X8_differs_9))) gb_X8_recordFrom
set_option maxRecDepth 20000 in
theorem gX8_differs_X8_recordFrom : GoodIn wsX8_differs (wsV RX8 216 RX8 yX8_recordFrom wsX8_recordFrom) := goodIn_app (gp_s (gp_c (gj_X8_differs_0 _ (gp_4 (gp_4 (gp_4 (gp_1 gp_h))))) (gp_c (gj_X8_differs_0 _ (gp_4 (gp_4 (gp_4 (gp_1 (gp_1 gp_h)))))) (gp_c (gj_X8_differs_0 _ (gp_4 (gp_4 (gp_4 (gp_1 (gp_1 (gp_1 gp_h))))))) (gp_c (gj_X8_differs_0 _ (gp_4 (gp_1 (gp_1 gp_h)))) (gp_n))))) (gp_v)) ggX8_differs_X8_recordFrom
theorem gj_X8_differs_3 : GpS (wsX8_differs_r4) wsX8_differs := fun w h => List.mem_cons_of_mem _ (List.mem_append_left _ (List.mem_append_left _ (List.mem_append_left _ (List.mem_append_left _ (List.mem_append_left _ (List.mem_append_right _ (List.mem_append_right _ (List.mem_append_right _ (List.mem_append_left _ (h))))))))))
theorem gj_X8_differs_4 : GpS (wsX8_differs_r5) wsX8_differs := fun w h => List.mem_cons_of_mem _ (List.mem_append_left _ (List.mem_append_left _ (List.mem_append_left _ (List.mem_append_left _ (List.mem_append_left _ (List.mem_append_right _ (List.mem_append_right _ (List.mem_append_right _ (List.mem_append_right _ (h))))))))))
set_option maxRecDepth 20000 in
theorem ggX8_differs_X8_firstDifference : GoodIn wsX8_differs wsX8_firstDifference := gp_s (gp_c (gj_X8_differs_3 _ (gp_1 (gp_1 gp_h))) (gp_a (gp_a (gp_c (gj_X8_differs_0 _ (gp_1 gp_h)) (gp_c (gj_X8_differs_3 _ (gp_1 (gp_1 (gp_1 gp_h)))) (gp_c (gj_X8_differs_3 _ (gp_4 gp_h)) (gp_c (gj_X8_differs_3 _ (gp_4 (gp_1 gp_h))) (gp_c (gj_X8_differs_3 _ (gp_4 (gp_1 (gp_1 gp_h)))) (gp_c (gj_X8_differs_1 _ (gp_16 (gp_1 gp_h))) (gp_c (gj_X8_differs_1 _ (gp_16 (gp_4 (gp_1 (gp_1 (gp_1 gp_h)))))) (gp_c (gj_X8_differs_3 _ (gp_4 (gp_1 (gp_1 (gp_1 gp_h))))) (gp_c (gj_X8_differs_3 _ (gp_4 (gp_4 gp_h))) (gp_c (gj_X8_differs_3 _ (gp_4 (gp_4 (gp_1 gp_h)))) (gp_c (gj_X8_differs_2 _ (gp_16 (gp_1 gp_h))) (gp_c (gj_X8_differs_3 _ (gp_4 (gp_4 (gp_1 (gp_1 gp_h))))) (gp_c (gj_X8_differs_3 _ (gp_4 (gp_4 (gp_1 (gp_1 (gp_1 gp_h)))))) (gp_c (gj_X8_differs_3 _ (gp_4 (gp_4 (gp_4 gp_h)))) (gp_c (gj_X8_differs_3 _ (gp_4 (gp_4 (gp_4 (gp_1 gp_h))))) (gp_c (gj_X8_differs_3 _ (gp_4 (gp_4 (gp_4 (gp_1 (gp_1 gp_h)))))) (gp_c (gj_X8_differs_3 _ (gp_4 (gp_4 (gp_4 (gp_1 (gp_1 (gp_1 gp_h))))))) (gp_c (gj_X8_differs_3 _ (gp_16 gp_h)) (gp_c (gj_X8_differs_3 _ (gp_16 (gp_1 gp_h))) (gp_c (gj_X8_differs_3 _ (gp_16 (gp_1 (gp_1 gp_h)))) (gp_c (gj_X8_differs_3 _ (gp_16 (gp_1 (gp_1 (gp_1 gp_h))))) (gp_c (gj_X8_differs_3 _ (gp_16 (gp_4 gp_h))) (gp_c (gj_X8_differs_3 _ (gp_16 (gp_4 (gp_1 gp_h)))) (gp_c (gj_X8_differs_2 _ (gp_4 (gp_4 (gp_4 gp_h)))) (gp_n))))))))))))))))))))))))) (gp_c (gj_X8_differs_0 _ (gp_4 (gp_1 (gp_1 gp_h)))) (gp_c (gj_X8_differs_2 _ (gp_4 (gp_4 (gp_4 (gp_1 gp_h))))) (gp_c (gj_X8_differs_3 _ (gp_16 (gp_4 (gp_1 (gp_1 gp_h))))) (gp_c (gj_X8_differs_3 _ (gp_16 (gp_4 (gp_1 (gp_1 (gp_1 gp_h)))))) (gp_c (gj_X8_differs_4 _ (gp_h)) (gp_c (gj_X8_differs_4 _ (gp_1 gp_h)) (gp_c (gj_X8_differs_2 _ (gp_16 (gp_4 (gp_1 gp_h)))) (gp_c (gj_X8_differs_2 _ (gp_16 (gp_4 (gp_1 (gp_1 (gp_1 gp_h)))))) (gp_n)))))))))) (gj_X8_differs_6))) gb_X8_firstDifference
set_option maxRecDepth 20000 in
theorem gX8_differs_X8_firstDifference : GoodIn wsX8_differs (va_wsS RX8 261 yX8_firstDifference wsX8_firstDifference) := goodIn_app (gp_s (gp_c (gj_X8_differs_3 _ (gp_h)) (gp_c (gj_X8_differs_3 _ (gp_1 gp_h)) (gp_c (gj_X8_differs_0 _ (gp_4 (gp_1 (gp_1 gp_h)))) (gp_n)))) (gp_t)) ggX8_differs_X8_firstDifference
noncomputable def nX8_differs : Nat := 0xac0501b82000b42a321b1b00b42ad800b62000b42a2d2aacfe100600c72d070099e700b4321b1b00b42a1300994a00b8071b4eb100b6851c2a
theorem bX8_differs : Bts cX8_differs nX8_differs 57 := by unfold Bts; decide +kernel
theorem dX8_differs_0 : decode cX8_differs 0 = .ok (.aload_n 0, 1) := dz_42 (b_1 bX8_differs (by decide +kernel))
theorem dX8_differs_1 : decode cX8_differs 1 = .ok (.iload_n 2, 1) := dz_28 (b_1 bX8_differs (by decide +kernel))
theorem dX8_differs_2 : decode cX8_differs 2 = .ok (.i2l, 1) := dz_133 (b_1 bX8_differs (by decide +kernel))
theorem dX8_differs_3 : decode cX8_differs 3 = .ok (.invokevirtual 177, 3) := dz_182 (b_3 (a := 0) (b := 177) bX8_differs (by decide +kernel))
theorem dX8_differs_6 : decode cX8_differs 6 = .ok (.astore_n 3, 1) := dz_78 (b_1 bX8_differs (by decide +kernel))
theorem dX8_differs_7 : decode cX8_differs 7 = .ok (.iload_n 1, 1) := dz_27 (b_1 bX8_differs (by decide +kernel))
theorem dX8_differs_8 : decode cX8_differs 8 = .ok (.iconst 4, 1) := dz_7 (b_1 bX8_differs (by decide +kernel))
theorem dX8_differs_9 : decode cX8_differs 9 = .ok (.invokestatic 74, 3) := dz_184 (b_3 (a := 0) (b := 74) bX8_differs (by decide +kernel))
theorem dX8_differs_12 : decode cX8_differs 12 = .ok (.ifCond .eq 19, 3) := dz_153 (b_3 (a := 0) (b := 19) bX8_differs (by decide +kernel)) (by decide +kernel)
theorem dX8_differs_15 : decode cX8_differs 15 = .ok (.aload_n 0, 1) := dz_42 (b_1 bX8_differs (by decide +kernel))
theorem dX8_differs_16 : decode cX8_differs 16 = .ok (.getfield 27, 3) := dz_180 (b_3 (a := 0) (b := 27) bX8_differs (by decide +kernel))
theorem dX8_differs_19 : decode cX8_differs 19 = .ok (.iload_n 1, 1) := dz_27 (b_1 bX8_differs (by decide +kernel))
theorem dX8_differs_20 : decode cX8_differs 20 = .ok (.aaload, 1) := dz_50 (b_1 bX8_differs (by decide +kernel))
theorem dX8_differs_21 : decode cX8_differs 21 = .ok (.getfield 231, 3) := dz_180 (b_3 (a := 0) (b := 231) bX8_differs (by decide +kernel))
theorem dX8_differs_24 : decode cX8_differs 24 = .ok (.ifCond .eq 7, 3) := dz_153 (b_3 (a := 0) (b := 7) bX8_differs (by decide +kernel)) (by decide +kernel)
theorem dX8_differs_27 : decode cX8_differs 27 = .ok (.aload_n 3, 1) := dz_45 (b_1 bX8_differs (by decide +kernel))
theorem dX8_differs_28 : decode cX8_differs 28 = .ok (.ifnonnull 6, 3) := dz_199 (b_3 (a := 0) (b := 6) bX8_differs (by decide +kernel)) (by decide +kernel)
theorem dX8_differs_31 : decode cX8_differs 31 = .ok (.bipush (-2), 2) := dz_16 (b_2 (a := 254) bX8_differs (by decide +kernel)) (by decide +kernel)
theorem dX8_differs_33 : decode cX8_differs 33 = .ok (.ireturn, 1) := dz_172 (b_1 bX8_differs (by decide +kernel))
theorem dX8_differs_34 : decode cX8_differs 34 = .ok (.aload_n 0, 1) := dz_42 (b_1 bX8_differs (by decide +kernel))
theorem dX8_differs_35 : decode cX8_differs 35 = .ok (.aload_n 3, 1) := dz_45 (b_1 bX8_differs (by decide +kernel))
theorem dX8_differs_36 : decode cX8_differs 36 = .ok (.aload_n 0, 1) := dz_42 (b_1 bX8_differs (by decide +kernel))
theorem dX8_differs_37 : decode cX8_differs 37 = .ok (.getfield 32, 3) := dz_180 (b_3 (a := 0) (b := 32) bX8_differs (by decide +kernel))
theorem dX8_differs_40 : decode cX8_differs 40 = .ok (.invokevirtual 216, 3) := dz_182 (b_3 (a := 0) (b := 216) bX8_differs (by decide +kernel))
theorem dX8_differs_43 : decode cX8_differs 43 = .ok (.aload_n 0, 1) := dz_42 (b_1 bX8_differs (by decide +kernel))
theorem dX8_differs_44 : decode cX8_differs 44 = .ok (.getfield 27, 3) := dz_180 (b_3 (a := 0) (b := 27) bX8_differs (by decide +kernel))
theorem dX8_differs_47 : decode cX8_differs 47 = .ok (.iload_n 1, 1) := dz_27 (b_1 bX8_differs (by decide +kernel))
theorem dX8_differs_48 : decode cX8_differs 48 = .ok (.aaload, 1) := dz_50 (b_1 bX8_differs (by decide +kernel))
theorem dX8_differs_49 : decode cX8_differs 49 = .ok (.aload_n 0, 1) := dz_42 (b_1 bX8_differs (by decide +kernel))
theorem dX8_differs_50 : decode cX8_differs 50 = .ok (.getfield 32, 3) := dz_180 (b_3 (a := 0) (b := 32) bX8_differs (by decide +kernel))
theorem dX8_differs_53 : decode cX8_differs 53 = .ok (.invokestatic 261, 3) := dz_184 (b_3 (a := 1) (b := 5) bX8_differs (by decide +kernel))
theorem dX8_differs_56 : decode cX8_differs 56 = .ok (.ireturn, 1) := dz_172 (b_1 bX8_differs (by decide +kernel))
theorem gb_X2_addMark : wsX2_addMark.all goodWord = true := by decide +kernel
theorem gj_X8_mark_0 : GpS ([.fieldLink RX8 51 "StateRecords" "journal" "LStateRecords$Journal;", .fieldLink RX8 82 "StateRecords$Journal" "markCount" "I", .methodLink RX8 265 yX2_addMark, .instanceMethod yX2_addMark, .selects RX2 yX2_addMark yX2_addMark, .initialized RX2, .code yX2_addMark cX2_addMark 1 none, .fieldLink RX2 17 "StateRecords$Journal" "starts" "[I", .fieldLink RX2 45 "StateRecords$Journal" "markCount" "I", .fieldLink RX2 22 "StateRecords$Journal" "noteCount" "I"]) wsX8_mark := fun w h => List.mem_cons_of_mem _ (List.mem_append_left _ (List.mem_append_left _ (h)))
theorem gj_X8_mark_2 : GpS (wsX20) wsX8_mark := fun w h => List.mem_cons_of_mem _ (List.mem_append_right _ (h))
set_option maxRecDepth 20000 in
theorem ggX8_mark_X2_addMark : GoodIn wsX8_mark wsX2_addMark := gp_s (gp_c (gj_X8_mark_0 _ (gp_4 (gp_1 (gp_1 gp_h)))) (gp_a (gp_c (gj_X8_mark_0 _ (gp_4 (gp_1 (gp_1 (gp_1 gp_h))))) (gp_c (gj_X8_mark_0 _ (gp_4 (gp_4 gp_h))) (gp_c (gj_X8_mark_0 _ (gp_4 (gp_4 (gp_1 gp_h)))) (gp_n)))) (gj_X8_mark_2))) gb_X2_addMark
set_option maxRecDepth 20000 in
theorem gX8_mark_X2_addMark : GoodIn wsX8_mark (wsV RX8 265 RX2 yX2_addMark wsX2_addMark) := goodIn_app (gp_s (gp_c (gj_X8_mark_0 _ (gp_1 (gp_1 gp_h))) (gp_c (gj_X8_mark_0 _ (gp_1 (gp_1 (gp_1 gp_h)))) (gp_c (gj_X8_mark_0 _ (gp_4 gp_h)) (gp_c (gj_X8_mark_0 _ (gp_4 (gp_1 gp_h))) (gp_n))))) (gp_v)) ggX8_mark_X2_addMark
noncomputable def nX8_mark : Nat := 0xac5200b43300b42a0901b63300b42aacfc100600a1075200b43300b42a
theorem bX8_mark : Bts cX8_mark nX8_mark 29 := by unfold Bts; decide +kernel
theorem dX8_mark_0 : decode cX8_mark 0 = .ok (.aload_n 0, 1) := dz_42 (b_1 bX8_mark (by decide +kernel))
theorem dX8_mark_1 : decode cX8_mark 1 = .ok (.getfield 51, 3) := dz_180 (b_3 (a := 0) (b := 51) bX8_mark (by decide +kernel))
theorem dX8_mark_4 : decode cX8_mark 4 = .ok (.getfield 82, 3) := dz_180 (b_3 (a := 0) (b := 82) bX8_mark (by decide +kernel))
theorem dX8_mark_7 : decode cX8_mark 7 = .ok (.iconst 4, 1) := dz_7 (b_1 bX8_mark (by decide +kernel))
theorem dX8_mark_8 : decode cX8_mark 8 = .ok (.if_icmp .lt 6, 3) := dz_161 (b_3 (a := 0) (b := 6) bX8_mark (by decide +kernel)) (by decide +kernel)
theorem dX8_mark_11 : decode cX8_mark 11 = .ok (.bipush (-4), 2) := dz_16 (b_2 (a := 252) bX8_mark (by decide +kernel)) (by decide +kernel)
theorem dX8_mark_13 : decode cX8_mark 13 = .ok (.ireturn, 1) := dz_172 (b_1 bX8_mark (by decide +kernel))
theorem dX8_mark_14 : decode cX8_mark 14 = .ok (.aload_n 0, 1) := dz_42 (b_1 bX8_mark (by decide +kernel))
theorem dX8_mark_15 : decode cX8_mark 15 = .ok (.getfield 51, 3) := dz_180 (b_3 (a := 0) (b := 51) bX8_mark (by decide +kernel))
theorem dX8_mark_18 : decode cX8_mark 18 = .ok (.invokevirtual 265, 3) := dz_182 (b_3 (a := 1) (b := 9) bX8_mark (by decide +kernel))
theorem dX8_mark_21 : decode cX8_mark 21 = .ok (.aload_n 0, 1) := dz_42 (b_1 bX8_mark (by decide +kernel))
theorem dX8_mark_22 : decode cX8_mark 22 = .ok (.getfield 51, 3) := dz_180 (b_3 (a := 0) (b := 51) bX8_mark (by decide +kernel))
theorem dX8_mark_25 : decode cX8_mark 25 = .ok (.getfield 82, 3) := dz_180 (b_3 (a := 0) (b := 82) bX8_mark (by decide +kernel))
theorem dX8_mark_28 : decode cX8_mark 28 = .ok (.ireturn, 1) := dz_172 (b_1 bX8_mark (by decide +kernel))
theorem gb_X2_undoLatestMark : wsX2_undoLatestMark.all goodWord = true := by decide +kernel
theorem gj_X8_undo_0 : GpS ([.fieldLink RX8 51 "StateRecords" "journal" "LStateRecords$Journal;", .fieldLink RX8 82 "StateRecords$Journal" "markCount" "I", .methodLink RX8 268 yX2_undoLatestMark, .instanceMethod yX2_undoLatestMark, .selects RX2 yX2_undoLatestMark yX2_undoLatestMark, .initialized RX2, .code yX2_undoLatestMark cX2_undoLatestMark 4 (some .int), .fieldLink RX2 45 "StateRecords$Journal" "markCount" "I", .fieldLink RX2 17 "StateRecords$Journal" "starts" "[I", .fieldLink RX2 22 "StateRecords$Journal" "noteCount" "I", .fieldLink RX2 11 "StateRecords$Journal" "notes" "[LStateRecords$Note;", .methodLink RX2 67 yX3_takeBack, .instanceMethod yX3_takeBack, .selects RX3 yX3_takeBack yX3_takeBack, .initialized RX3, .code yX3_takeBack cX3_takeBack 1 none, .fieldLink RX3 7 "StateRecords$Note" "thing" "LStateRecords$Thing;", .fieldLink RX3 13 "StateRecords$Thing" "values" "[J", .fieldLink RX3 19 "StateRecords$Note" "index" "I", .fieldLink RX3 23 "StateRecords$Note" "value" "J", .fieldLink RX3 27 "StateRecords$Thing" "rows" "[LStateRecords$Row;", .fieldLink RX3 31 "StateRecords$Note" "row" "LStateRecords$Row;", .fieldLink RX3 35 "StateRecords$Row" "items" "[J"]) wsX8_undo := fun w h => List.mem_cons_of_mem _ (List.mem_append_left _ (List.mem_append_left _ (List.mem_append_left _ (List.mem_append_left _ (List.mem_append_left _ (h))))))
theorem gj_X8_undo_2 : GpS (wsX20) wsX8_undo := fun w h => List.mem_cons_of_mem _ (List.mem_append_left _ (List.mem_append_left _ (List.mem_append_left _ (List.mem_append_right _ (h)))))
theorem gj_X8_undo_3 : GpS (wsX30) wsX8_undo := fun w h => List.mem_cons_of_mem _ (List.mem_append_left _ (List.mem_append_left _ (List.mem_append_right _ (h))))
theorem gj_X8_undo_4 : GpS (wsX60) wsX8_undo := fun w h => List.mem_cons_of_mem _ (List.mem_append_left _ (List.mem_append_right _ (h)))
theorem gj_X8_undo_5 : GpS (wsX50) wsX8_undo := fun w h => List.mem_cons_of_mem _ (List.mem_append_right _ (h))
set_option maxRecDepth 20000 in
theorem ggX8_undo_X2_undoLatestMark : GoodIn wsX8_undo wsX2_undoLatestMark := gp_s (gp_c (gj_X8_undo_0 _ (gp_4 (gp_1 (gp_1 gp_h)))) (gp_a (gp_a (gp_a (gp_a (gp_c (gj_X8_undo_0 _ (gp_4 (gp_1 (gp_1 (gp_1 gp_h))))) (gp_c (gj_X8_undo_0 _ (gp_4 (gp_4 gp_h))) (gp_c (gj_X8_undo_0 _ (gp_4 (gp_4 (gp_1 gp_h)))) (gp_c (gj_X8_undo_0 _ (gp_4 (gp_4 (gp_1 (gp_1 gp_h))))) (gp_c (gj_X8_undo_0 _ (gp_4 (gp_4 (gp_1 (gp_1 (gp_1 gp_h)))))) (gp_c (gj_X8_undo_0 _ (gp_4 (gp_4 (gp_4 gp_h)))) (gp_c (gj_X8_undo_0 _ (gp_4 (gp_4 (gp_4 (gp_1 gp_h))))) (gp_c (gj_X8_undo_0 _ (gp_4 (gp_4 (gp_4 (gp_1 (gp_1 gp_h)))))) (gp_c (gj_X8_undo_0 _ (gp_4 (gp_4 (gp_4 (gp_1 (gp_1 (gp_1 gp_h))))))) (gp_c (gj_X8_undo_0 _ (gp_16 gp_h)) (gp_c (gj_X8_undo_0 _ (gp_16 (gp_1 gp_h))) (gp_c (gj_X8_undo_0 _ (gp_16 (gp_1 (gp_1 gp_h)))) (gp_c (gj_X8_undo_0 _ (gp_16 (gp_1 (gp_1 (gp_1 gp_h))))) (gp_c (gj_X8_undo_0 _ (gp_16 (gp_4 gp_h))) (gp_c (gj_X8_undo_0 _ (gp_16 (gp_4 (gp_1 gp_h)))) (gp_c (gj_X8_undo_0 _ (gp_16 (gp_4 (gp_1 (gp_1 gp_h))))) (gp_n))))))))))))))))) (gj_X8_undo_2)) (gj_X8_undo_3)) (gj_X8_undo_4)) (gj_X8_undo_5))) gb_X2_undoLatestMark
set_option maxRecDepth 20000 in
theorem gX8_undo_X2_undoLatestMark : GoodIn wsX8_undo (wsV RX8 268 RX2 yX2_undoLatestMark wsX2_undoLatestMark) := goodIn_app (gp_s (gp_c (gj_X8_undo_0 _ (gp_1 (gp_1 gp_h))) (gp_c (gj_X8_undo_0 _ (gp_1 (gp_1 (gp_1 gp_h)))) (gp_c (gj_X8_undo_0 _ (gp_4 gp_h)) (gp_c (gj_X8_undo_0 _ (gp_4 (gp_1 gp_h))) (gp_n))))) (gp_v)) ggX8_undo_X2_undoLatestMark
noncomputable def nX8_undo : Nat := 0xac0c01b63300b42a0a00a7fd1008009a5200b43300b42a
theorem bX8_undo : Bts cX8_undo nX8_undo 23 := by unfold Bts; decide +kernel
theorem dX8_undo_0 : decode cX8_undo 0 = .ok (.aload_n 0, 1) := dz_42 (b_1 bX8_undo (by decide +kernel))
theorem dX8_undo_1 : decode cX8_undo 1 = .ok (.getfield 51, 3) := dz_180 (b_3 (a := 0) (b := 51) bX8_undo (by decide +kernel))
theorem dX8_undo_4 : decode cX8_undo 4 = .ok (.getfield 82, 3) := dz_180 (b_3 (a := 0) (b := 82) bX8_undo (by decide +kernel))
theorem dX8_undo_7 : decode cX8_undo 7 = .ok (.ifCond .ne 8, 3) := dz_154 (b_3 (a := 0) (b := 8) bX8_undo (by decide +kernel)) (by decide +kernel)
theorem dX8_undo_10 : decode cX8_undo 10 = .ok (.bipush (-3), 2) := dz_16 (b_2 (a := 253) bX8_undo (by decide +kernel)) (by decide +kernel)
theorem dX8_undo_12 : decode cX8_undo 12 = .ok (.goto 10, 3) := dz_167 (b_3 (a := 0) (b := 10) bX8_undo (by decide +kernel)) (by decide +kernel)
theorem dX8_undo_15 : decode cX8_undo 15 = .ok (.aload_n 0, 1) := dz_42 (b_1 bX8_undo (by decide +kernel))
theorem dX8_undo_16 : decode cX8_undo 16 = .ok (.getfield 51, 3) := dz_180 (b_3 (a := 0) (b := 51) bX8_undo (by decide +kernel))
theorem dX8_undo_19 : decode cX8_undo 19 = .ok (.invokevirtual 268, 3) := dz_182 (b_3 (a := 1) (b := 12) bX8_undo (by decide +kernel))
theorem dX8_undo_22 : decode cX8_undo 22 = .ok (.ireturn, 1) := dz_172 (b_1 bX8_undo (by decide +kernel))
noncomputable def nX8_count : Nat := 0xacfe10ac1001b43300b42aac5200b43300b42aac5e00b42aac3f00b42a3100000029000000240000001f0000000300000000000000390000000000aa1b
theorem bX8_count : Bts cX8_count nX8_count 61 := by unfold Bts; decide +kernel
theorem dX8_count_0 : decode cX8_count 0 = .ok (.iload_n 1, 1) := dz_27 (b_1 bX8_count (by decide +kernel))
theorem dX8_count_1 : decode cX8_count 1 = .ok (.tableswitch 57 0 3 #[31, 36, 41, 49], 31) := by decide +kernel
theorem dX8_count_32 : decode cX8_count 32 = .ok (.aload_n 0, 1) := dz_42 (b_1 bX8_count (by decide +kernel))
theorem dX8_count_33 : decode cX8_count 33 = .ok (.getfield 63, 3) := dz_180 (b_3 (a := 0) (b := 63) bX8_count (by decide +kernel))
theorem dX8_count_36 : decode cX8_count 36 = .ok (.ireturn, 1) := dz_172 (b_1 bX8_count (by decide +kernel))
theorem dX8_count_37 : decode cX8_count 37 = .ok (.aload_n 0, 1) := dz_42 (b_1 bX8_count (by decide +kernel))
theorem dX8_count_38 : decode cX8_count 38 = .ok (.getfield 94, 3) := dz_180 (b_3 (a := 0) (b := 94) bX8_count (by decide +kernel))
theorem dX8_count_41 : decode cX8_count 41 = .ok (.ireturn, 1) := dz_172 (b_1 bX8_count (by decide +kernel))
theorem dX8_count_42 : decode cX8_count 42 = .ok (.aload_n 0, 1) := dz_42 (b_1 bX8_count (by decide +kernel))
theorem dX8_count_43 : decode cX8_count 43 = .ok (.getfield 51, 3) := dz_180 (b_3 (a := 0) (b := 51) bX8_count (by decide +kernel))
theorem dX8_count_46 : decode cX8_count 46 = .ok (.getfield 82, 3) := dz_180 (b_3 (a := 0) (b := 82) bX8_count (by decide +kernel))
theorem dX8_count_49 : decode cX8_count 49 = .ok (.ireturn, 1) := dz_172 (b_1 bX8_count (by decide +kernel))
theorem dX8_count_50 : decode cX8_count 50 = .ok (.aload_n 0, 1) := dz_42 (b_1 bX8_count (by decide +kernel))
theorem dX8_count_51 : decode cX8_count 51 = .ok (.getfield 51, 3) := dz_180 (b_3 (a := 0) (b := 51) bX8_count (by decide +kernel))
theorem dX8_count_54 : decode cX8_count 54 = .ok (.getfield 272, 3) := dz_180 (b_3 (a := 1) (b := 16) bX8_count (by decide +kernel))
theorem dX8_count_57 : decode cX8_count 57 = .ok (.ireturn, 1) := dz_172 (b_1 bX8_count (by decide +kernel))
theorem dX8_count_58 : decode cX8_count 58 = .ok (.bipush (-2), 2) := dz_16 (b_2 (a := 254) bX8_count (by decide +kernel)) (by decide +kernel)
theorem dX8_count_60 : decode cX8_count 60 = .ok (.ireturn, 1) := dz_172 (b_1 bX8_count (by decide +kernel))
noncomputable def nX8_isBelow : Nat := 0xac030400a7040700a21b1a0c009b1a
theorem bX8_isBelow : Bts cX8_isBelow nX8_isBelow 15 := by unfold Bts; decide +kernel
theorem dX8_isBelow_0 : decode cX8_isBelow 0 = .ok (.iload_n 0, 1) := dz_26 (b_1 bX8_isBelow (by decide +kernel))
theorem dX8_isBelow_1 : decode cX8_isBelow 1 = .ok (.ifCond .lt 12, 3) := dz_155 (b_3 (a := 0) (b := 12) bX8_isBelow (by decide +kernel)) (by decide +kernel)
theorem dX8_isBelow_4 : decode cX8_isBelow 4 = .ok (.iload_n 0, 1) := dz_26 (b_1 bX8_isBelow (by decide +kernel))
theorem dX8_isBelow_5 : decode cX8_isBelow 5 = .ok (.iload_n 1, 1) := dz_27 (b_1 bX8_isBelow (by decide +kernel))
theorem dX8_isBelow_6 : decode cX8_isBelow 6 = .ok (.if_icmp .ge 7, 3) := dz_162 (b_3 (a := 0) (b := 7) bX8_isBelow (by decide +kernel)) (by decide +kernel)
theorem dX8_isBelow_9 : decode cX8_isBelow 9 = .ok (.iconst 1, 1) := dz_4 (b_1 bX8_isBelow (by decide +kernel))
theorem dX8_isBelow_10 : decode cX8_isBelow 10 = .ok (.goto 4, 3) := dz_167 (b_3 (a := 0) (b := 4) bX8_isBelow (by decide +kernel)) (by decide +kernel)
theorem dX8_isBelow_13 : decode cX8_isBelow 13 = .ok (.iconst 0, 1) := dz_3 (b_1 bX8_isBelow (by decide +kernel))
theorem dX8_isBelow_14 : decode cX8_isBelow 14 = .ok (.ireturn, 1) := dz_172 (b_1 bX8_isBelow (by decide +kernel))
noncomputable def nX8_isRowLane : Nat := 0xac030400a7040700a1061a
theorem bX8_isRowLane : Bts cX8_isRowLane nX8_isRowLane 11 := by unfold Bts; decide +kernel
theorem dX8_isRowLane_0 : decode cX8_isRowLane 0 = .ok (.iload_n 0, 1) := dz_26 (b_1 bX8_isRowLane (by decide +kernel))
theorem dX8_isRowLane_1 : decode cX8_isRowLane 1 = .ok (.iconst 3, 1) := dz_6 (b_1 bX8_isRowLane (by decide +kernel))
theorem dX8_isRowLane_2 : decode cX8_isRowLane 2 = .ok (.if_icmp .lt 7, 3) := dz_161 (b_3 (a := 0) (b := 7) bX8_isRowLane (by decide +kernel)) (by decide +kernel)
theorem dX8_isRowLane_5 : decode cX8_isRowLane 5 = .ok (.iconst 1, 1) := dz_4 (b_1 bX8_isRowLane (by decide +kernel))
theorem dX8_isRowLane_6 : decode cX8_isRowLane 6 = .ok (.goto 4, 3) := dz_167 (b_3 (a := 0) (b := 4) bX8_isRowLane (by decide +kernel)) (by decide +kernel)
theorem dX8_isRowLane_9 : decode cX8_isRowLane 9 = .ok (.iconst 0, 1) := dz_3 (b_1 bX8_isRowLane (by decide +kernel))
theorem dX8_isRowLane_10 : decode cX8_isRowLane 10 = .ok (.ireturn, 1) := dz_172 (b_1 bX8_isRowLane (by decide +kernel))
noncomputable def nX8_failed : Nat := 0xac641af610
theorem bX8_failed : Bts cX8_failed nX8_failed 5 := by unfold Bts; decide +kernel
theorem dX8_failed_0 : decode cX8_failed 0 = .ok (.bipush (-10), 2) := dz_16 (b_2 (a := 246) bX8_failed (by decide +kernel)) (by decide +kernel)
theorem dX8_failed_2 : decode cX8_failed 2 = .ok (.iload_n 0, 1) := dz_26 (b_1 bX8_failed (by decide +kernel))
theorem dX8_failed_3 : decode cX8_failed 3 = .ok (.isub, 1) := dz_100 (b_1 bX8_failed (by decide +kernel))
theorem dX8_failed_4 : decode cX8_failed 4 = .ok (.ireturn, 1) := dz_172 (b_1 bX8_failed (by decide +kernel))
noncomputable def nX8_isWordInUse : Nat := 0xac030400a70407009933881f1500b42a11009c941301141f19009b94091f
theorem bX8_isWordInUse : Bts cX8_isWordInUse nX8_isWordInUse 30 := by unfold Bts; decide +kernel
theorem dX8_isWordInUse_0 : decode cX8_isWordInUse 0 = .ok (.lload_n 1, 1) := dz_31 (b_1 bX8_isWordInUse (by decide +kernel))
theorem dX8_isWordInUse_1 : decode cX8_isWordInUse 1 = .ok (.lconst 0, 1) := dz_9 (b_1 bX8_isWordInUse (by decide +kernel))
theorem dX8_isWordInUse_2 : decode cX8_isWordInUse 2 = .ok (.lcmp, 1) := dz_148 (b_1 bX8_isWordInUse (by decide +kernel))
theorem dX8_isWordInUse_3 : decode cX8_isWordInUse 3 = .ok (.ifCond .lt 25, 3) := dz_155 (b_3 (a := 0) (b := 25) bX8_isWordInUse (by decide +kernel)) (by decide +kernel)
theorem dX8_isWordInUse_6 : decode cX8_isWordInUse 6 = .ok (.lload_n 1, 1) := dz_31 (b_1 bX8_isWordInUse (by decide +kernel))
theorem dX8_isWordInUse_7 : decode cX8_isWordInUse 7 = .ok (.ldc2_w 275, 3) := dz_20 (b_3 (a := 1) (b := 19) bX8_isWordInUse (by decide +kernel))
theorem dX8_isWordInUse_10 : decode cX8_isWordInUse 10 = .ok (.lcmp, 1) := dz_148 (b_1 bX8_isWordInUse (by decide +kernel))
theorem dX8_isWordInUse_11 : decode cX8_isWordInUse 11 = .ok (.ifCond .ge 17, 3) := dz_156 (b_3 (a := 0) (b := 17) bX8_isWordInUse (by decide +kernel)) (by decide +kernel)
theorem dX8_isWordInUse_14 : decode cX8_isWordInUse 14 = .ok (.aload_n 0, 1) := dz_42 (b_1 bX8_isWordInUse (by decide +kernel))
theorem dX8_isWordInUse_15 : decode cX8_isWordInUse 15 = .ok (.getfield 21, 3) := dz_180 (b_3 (a := 0) (b := 21) bX8_isWordInUse (by decide +kernel))
theorem dX8_isWordInUse_18 : decode cX8_isWordInUse 18 = .ok (.lload_n 1, 1) := dz_31 (b_1 bX8_isWordInUse (by decide +kernel))
theorem dX8_isWordInUse_19 : decode cX8_isWordInUse 19 = .ok (.l2i, 1) := dz_136 (b_1 bX8_isWordInUse (by decide +kernel))
theorem dX8_isWordInUse_20 : decode cX8_isWordInUse 20 = .ok (.baload, 1) := dz_51 (b_1 bX8_isWordInUse (by decide +kernel))
theorem dX8_isWordInUse_21 : decode cX8_isWordInUse 21 = .ok (.ifCond .eq 7, 3) := dz_153 (b_3 (a := 0) (b := 7) bX8_isWordInUse (by decide +kernel)) (by decide +kernel)
theorem dX8_isWordInUse_24 : decode cX8_isWordInUse 24 = .ok (.iconst 1, 1) := dz_4 (b_1 bX8_isWordInUse (by decide +kernel))
theorem dX8_isWordInUse_25 : decode cX8_isWordInUse 25 = .ok (.goto 4, 3) := dz_167 (b_3 (a := 0) (b := 4) bX8_isWordInUse (by decide +kernel)) (by decide +kernel)
theorem dX8_isWordInUse_28 : decode cX8_isWordInUse 28 = .ok (.iconst 0, 1) := dz_3 (b_1 bX8_isWordInUse (by decide +kernel))
theorem dX8_isWordInUse_29 : decode cX8_isWordInUse 29 = .ok (.ireturn, 1) := dz_172 (b_1 bX8_isWordInUse (by decide +kernel))
theorem gj_X8_typeNumbered_0 : GpS ([.fieldLink RX8 63 "StateRecords" "typeCount" "I", .fieldLink RX8 11 "StateRecords" "types" "[LStateRecords$Type;", .methodLink RX8 74 yX8_isBelow, .static yX8_isBelow, .initialized RX8, .code yX8_isBelow cX8_isBelow 2 (some .boolean)]) wsX8_typeNumbered := fun w h => List.mem_cons_of_mem _ (List.mem_append_left _ (h))
set_option maxRecDepth 20000 in
theorem ggX8_typeNumbered_X8_isBelow : GoodIn wsX8_typeNumbered wsX8_isBelow := gp_s (gp_c (gj_X8_typeNumbered_0 _ (gp_4 (gp_1 gp_h))) (gp_n)) gb_X8_isBelow
set_option maxRecDepth 20000 in
theorem gX8_typeNumbered_X8_isBelow : GoodIn wsX8_typeNumbered (va_wsS RX8 74 yX8_isBelow wsX8_isBelow) := goodIn_app (gp_s (gp_c (gj_X8_typeNumbered_0 _ (gp_1 (gp_1 gp_h))) (gp_c (gj_X8_typeNumbered_0 _ (gp_1 (gp_1 (gp_1 gp_h)))) (gp_c (gj_X8_typeNumbered_0 _ (gp_4 gp_h)) (gp_n)))) (gp_t)) ggX8_typeNumbered_X8_isBelow
noncomputable def nX8_typeNumbered : Nat := 0xb0010400a7321b0b00b42a0c00994a00b83f00b42a1b
theorem bX8_typeNumbered : Bts cX8_typeNumbered nX8_typeNumbered 22 := by unfold Bts; decide +kernel
theorem dX8_typeNumbered_0 : decode cX8_typeNumbered 0 = .ok (.iload_n 1, 1) := dz_27 (b_1 bX8_typeNumbered (by decide +kernel))
theorem dX8_typeNumbered_1 : decode cX8_typeNumbered 1 = .ok (.aload_n 0, 1) := dz_42 (b_1 bX8_typeNumbered (by decide +kernel))
theorem dX8_typeNumbered_2 : decode cX8_typeNumbered 2 = .ok (.getfield 63, 3) := dz_180 (b_3 (a := 0) (b := 63) bX8_typeNumbered (by decide +kernel))
theorem dX8_typeNumbered_5 : decode cX8_typeNumbered 5 = .ok (.invokestatic 74, 3) := dz_184 (b_3 (a := 0) (b := 74) bX8_typeNumbered (by decide +kernel))
theorem dX8_typeNumbered_8 : decode cX8_typeNumbered 8 = .ok (.ifCond .eq 12, 3) := dz_153 (b_3 (a := 0) (b := 12) bX8_typeNumbered (by decide +kernel)) (by decide +kernel)
theorem dX8_typeNumbered_11 : decode cX8_typeNumbered 11 = .ok (.aload_n 0, 1) := dz_42 (b_1 bX8_typeNumbered (by decide +kernel))
theorem dX8_typeNumbered_12 : decode cX8_typeNumbered 12 = .ok (.getfield 11, 3) := dz_180 (b_3 (a := 0) (b := 11) bX8_typeNumbered (by decide +kernel))
theorem dX8_typeNumbered_15 : decode cX8_typeNumbered 15 = .ok (.iload_n 1, 1) := dz_27 (b_1 bX8_typeNumbered (by decide +kernel))
theorem dX8_typeNumbered_16 : decode cX8_typeNumbered 16 = .ok (.aaload, 1) := dz_50 (b_1 bX8_typeNumbered (by decide +kernel))
theorem dX8_typeNumbered_17 : decode cX8_typeNumbered 17 = .ok (.goto 4, 3) := dz_167 (b_3 (a := 0) (b := 4) bX8_typeNumbered (by decide +kernel)) (by decide +kernel)
theorem dX8_typeNumbered_20 : decode cX8_typeNumbered 20 = .ok (.aconst_null, 1) := dz_1 (b_1 bX8_typeNumbered (by decide +kernel))
theorem dX8_typeNumbered_21 : decode cX8_typeNumbered 21 = .ok (.areturn, 1) := dz_176 (b_1 bX8_typeNumbered (by decide +kernel))
noncomputable def nX8_thingNumbered : Nat := 0xb0010400a732881f1100b42a0d009c94855e00b42a1f17009b94091f
theorem bX8_thingNumbered : Bts cX8_thingNumbered nX8_thingNumbered 28 := by unfold Bts; decide +kernel
theorem dX8_thingNumbered_0 : decode cX8_thingNumbered 0 = .ok (.lload_n 1, 1) := dz_31 (b_1 bX8_thingNumbered (by decide +kernel))
theorem dX8_thingNumbered_1 : decode cX8_thingNumbered 1 = .ok (.lconst 0, 1) := dz_9 (b_1 bX8_thingNumbered (by decide +kernel))
theorem dX8_thingNumbered_2 : decode cX8_thingNumbered 2 = .ok (.lcmp, 1) := dz_148 (b_1 bX8_thingNumbered (by decide +kernel))
theorem dX8_thingNumbered_3 : decode cX8_thingNumbered 3 = .ok (.ifCond .lt 23, 3) := dz_155 (b_3 (a := 0) (b := 23) bX8_thingNumbered (by decide +kernel)) (by decide +kernel)
theorem dX8_thingNumbered_6 : decode cX8_thingNumbered 6 = .ok (.lload_n 1, 1) := dz_31 (b_1 bX8_thingNumbered (by decide +kernel))
theorem dX8_thingNumbered_7 : decode cX8_thingNumbered 7 = .ok (.aload_n 0, 1) := dz_42 (b_1 bX8_thingNumbered (by decide +kernel))
theorem dX8_thingNumbered_8 : decode cX8_thingNumbered 8 = .ok (.getfield 94, 3) := dz_180 (b_3 (a := 0) (b := 94) bX8_thingNumbered (by decide +kernel))
theorem dX8_thingNumbered_11 : decode cX8_thingNumbered 11 = .ok (.i2l, 1) := dz_133 (b_1 bX8_thingNumbered (by decide +kernel))
theorem dX8_thingNumbered_12 : decode cX8_thingNumbered 12 = .ok (.lcmp, 1) := dz_148 (b_1 bX8_thingNumbered (by decide +kernel))
theorem dX8_thingNumbered_13 : decode cX8_thingNumbered 13 = .ok (.ifCond .ge 13, 3) := dz_156 (b_3 (a := 0) (b := 13) bX8_thingNumbered (by decide +kernel)) (by decide +kernel)
theorem dX8_thingNumbered_16 : decode cX8_thingNumbered 16 = .ok (.aload_n 0, 1) := dz_42 (b_1 bX8_thingNumbered (by decide +kernel))
theorem dX8_thingNumbered_17 : decode cX8_thingNumbered 17 = .ok (.getfield 17, 3) := dz_180 (b_3 (a := 0) (b := 17) bX8_thingNumbered (by decide +kernel))
theorem dX8_thingNumbered_20 : decode cX8_thingNumbered 20 = .ok (.lload_n 1, 1) := dz_31 (b_1 bX8_thingNumbered (by decide +kernel))
theorem dX8_thingNumbered_21 : decode cX8_thingNumbered 21 = .ok (.l2i, 1) := dz_136 (b_1 bX8_thingNumbered (by decide +kernel))
theorem dX8_thingNumbered_22 : decode cX8_thingNumbered 22 = .ok (.aaload, 1) := dz_50 (b_1 bX8_thingNumbered (by decide +kernel))
theorem dX8_thingNumbered_23 : decode cX8_thingNumbered 23 = .ok (.goto 4, 3) := dz_167 (b_3 (a := 0) (b := 4) bX8_thingNumbered (by decide +kernel)) (by decide +kernel)
theorem dX8_thingNumbered_26 : decode cX8_thingNumbered 26 = .ok (.aconst_null, 1) := dz_1 (b_1 bX8_thingNumbered (by decide +kernel))
theorem dX8_thingNumbered_27 : decode cX8_thingNumbered 27 = .ok (.areturn, 1) := dz_176 (b_1 bX8_thingNumbered (by decide +kernel))
theorem gj_X8_thingWithField_0 : GpS ([.fieldLink RX8 97 "StateRecords$Thing" "type" "LStateRecords$Type;", .methodLink RX8 177 yX8_thingNumbered, .instanceMethod yX8_thingNumbered, .selects RX8 yX8_thingNumbered yX8_thingNumbered, .initialized RX8, .code yX8_thingNumbered cX8_thingNumbered 3 (some (.object "StateRecords$Thing")), .fieldLink RX8 94 "StateRecords" "thingCount" "I", .fieldLink RX8 17 "StateRecords" "things" "[LStateRecords$Thing;", .methodLink RX8 104 yX7_hasField, .instanceMethod yX7_hasField, .selects RX7 yX7_hasField yX7_hasField, .initialized RX7, .code yX7_hasField cX7_hasField 2 (some .boolean), .fieldLink RX7 36 "StateRecords$Type" "fieldCount" "I", .static yX8_isBelow, .code yX8_isBelow cX8_isBelow 2 (some .boolean)]) wsX8_thingWithField := fun w h => List.mem_cons_of_mem _ (List.mem_append_left _ (List.mem_append_left _ (List.mem_append_left _ (h))))
theorem gj_X8_thingWithField_2 : GpS (wsX80) wsX8_thingWithField := fun w h => List.mem_cons_of_mem _ (List.mem_append_left _ (List.mem_append_right _ (h)))
set_option maxRecDepth 20000 in
theorem ggX8_thingWithField_X8_thingNumbered : GoodIn wsX8_thingWithField wsX8_thingNumbered := gp_s (gp_c (gj_X8_thingWithField_0 _ (gp_4 (gp_1 gp_h))) (gp_a (gp_c (gj_X8_thingWithField_0 _ (gp_4 (gp_1 (gp_1 gp_h)))) (gp_c (gj_X8_thingWithField_0 _ (gp_4 (gp_1 (gp_1 (gp_1 gp_h))))) (gp_n))) (gj_X8_thingWithField_2))) gb_X8_thingNumbered
set_option maxRecDepth 20000 in
theorem gX8_thingWithField_X8_thingNumbered : GoodIn wsX8_thingWithField (wsV RX8 177 RX8 yX8_thingNumbered wsX8_thingNumbered) := goodIn_app (gp_s (gp_c (gj_X8_thingWithField_0 _ (gp_1 gp_h)) (gp_c (gj_X8_thingWithField_0 _ (gp_1 (gp_1 gp_h))) (gp_c (gj_X8_thingWithField_0 _ (gp_1 (gp_1 (gp_1 gp_h)))) (gp_c (gj_X8_thingWithField_0 _ (gp_4 gp_h)) (gp_n))))) (gp_v)) ggX8_thingWithField_X8_thingNumbered
theorem gj_X8_thingWithField_3 : GpS (wsX70) wsX8_thingWithField := fun w h => List.mem_cons_of_mem _ (List.mem_append_right _ (h))
set_option maxRecDepth 20000 in
theorem ggX8_thingWithField_X7_hasField : GoodIn wsX8_thingWithField wsX7_hasField := gp_s (gp_c (gj_X8_thingWithField_0 _ (gp_4 (gp_4 (gp_4 gp_h)))) (gp_a (gp_c (gj_X8_thingWithField_0 _ (gp_4 (gp_4 (gp_4 (gp_1 gp_h))))) (gp_c (gj_X8_thingWithField_0 _ (gp_4 (gp_4 (gp_4 (gp_1 (gp_1 gp_h)))))) (gp_c (gj_X8_thingWithField_0 _ (gp_4 gp_h)) (gp_c (gj_X8_thingWithField_0 _ (gp_4 (gp_4 (gp_4 (gp_1 (gp_1 (gp_1 gp_h))))))) (gp_n))))) (gj_X8_thingWithField_3))) gb_X7_hasField
set_option maxRecDepth 20000 in
theorem gX8_thingWithField_X7_hasField : GoodIn wsX8_thingWithField (wsV RX8 104 RX7 yX7_hasField wsX7_hasField) := goodIn_app (gp_s (gp_c (gj_X8_thingWithField_0 _ (gp_4 (gp_4 gp_h))) (gp_c (gj_X8_thingWithField_0 _ (gp_4 (gp_4 (gp_1 gp_h)))) (gp_c (gj_X8_thingWithField_0 _ (gp_4 (gp_4 (gp_1 (gp_1 gp_h))))) (gp_c (gj_X8_thingWithField_0 _ (gp_4 (gp_4 (gp_1 (gp_1 (gp_1 gp_h)))))) (gp_n))))) (gp_v)) ggX8_thingWithField_X7_hasField
noncomputable def nX8_thingWithField : Nat := 0xb0010400a72d0700996800b61c6100b42d1200c62d4eb100b6851b2a
theorem bX8_thingWithField : Bts cX8_thingWithField nX8_thingWithField 28 := by unfold Bts; decide +kernel
theorem dX8_thingWithField_0 : decode cX8_thingWithField 0 = .ok (.aload_n 0, 1) := dz_42 (b_1 bX8_thingWithField (by decide +kernel))
theorem dX8_thingWithField_1 : decode cX8_thingWithField 1 = .ok (.iload_n 1, 1) := dz_27 (b_1 bX8_thingWithField (by decide +kernel))
theorem dX8_thingWithField_2 : decode cX8_thingWithField 2 = .ok (.i2l, 1) := dz_133 (b_1 bX8_thingWithField (by decide +kernel))
theorem dX8_thingWithField_3 : decode cX8_thingWithField 3 = .ok (.invokevirtual 177, 3) := dz_182 (b_3 (a := 0) (b := 177) bX8_thingWithField (by decide +kernel))
theorem dX8_thingWithField_6 : decode cX8_thingWithField 6 = .ok (.astore_n 3, 1) := dz_78 (b_1 bX8_thingWithField (by decide +kernel))
theorem dX8_thingWithField_7 : decode cX8_thingWithField 7 = .ok (.aload_n 3, 1) := dz_45 (b_1 bX8_thingWithField (by decide +kernel))
theorem dX8_thingWithField_8 : decode cX8_thingWithField 8 = .ok (.ifnull 18, 3) := dz_198 (b_3 (a := 0) (b := 18) bX8_thingWithField (by decide +kernel)) (by decide +kernel)
theorem dX8_thingWithField_11 : decode cX8_thingWithField 11 = .ok (.aload_n 3, 1) := dz_45 (b_1 bX8_thingWithField (by decide +kernel))
theorem dX8_thingWithField_12 : decode cX8_thingWithField 12 = .ok (.getfield 97, 3) := dz_180 (b_3 (a := 0) (b := 97) bX8_thingWithField (by decide +kernel))
theorem dX8_thingWithField_15 : decode cX8_thingWithField 15 = .ok (.iload_n 2, 1) := dz_28 (b_1 bX8_thingWithField (by decide +kernel))
theorem dX8_thingWithField_16 : decode cX8_thingWithField 16 = .ok (.invokevirtual 104, 3) := dz_182 (b_3 (a := 0) (b := 104) bX8_thingWithField (by decide +kernel))
theorem dX8_thingWithField_19 : decode cX8_thingWithField 19 = .ok (.ifCond .eq 7, 3) := dz_153 (b_3 (a := 0) (b := 7) bX8_thingWithField (by decide +kernel)) (by decide +kernel)
theorem dX8_thingWithField_22 : decode cX8_thingWithField 22 = .ok (.aload_n 3, 1) := dz_45 (b_1 bX8_thingWithField (by decide +kernel))
theorem dX8_thingWithField_23 : decode cX8_thingWithField 23 = .ok (.goto 4, 3) := dz_167 (b_3 (a := 0) (b := 4) bX8_thingWithField (by decide +kernel)) (by decide +kernel)
theorem dX8_thingWithField_26 : decode cX8_thingWithField 26 = .ok (.aconst_null, 1) := dz_1 (b_1 bX8_thingWithField (by decide +kernel))
theorem dX8_thingWithField_27 : decode cX8_thingWithField 27 = .ok (.areturn, 1) := dz_176 (b_1 bX8_thingWithField (by decide +kernel))
noncomputable def nX8_lowestBits : Nat := 0xad1e0400a785881e0900a0071cad8591881e0800a0061c
theorem bX8_lowestBits : Bts cX8_lowestBits nX8_lowestBits 23 := by unfold Bts; decide +kernel
theorem dX8_lowestBits_0 : decode cX8_lowestBits 0 = .ok (.iload_n 2, 1) := dz_28 (b_1 bX8_lowestBits (by decide +kernel))
theorem dX8_lowestBits_1 : decode cX8_lowestBits 1 = .ok (.iconst 3, 1) := dz_6 (b_1 bX8_lowestBits (by decide +kernel))
theorem dX8_lowestBits_2 : decode cX8_lowestBits 2 = .ok (.if_icmp .ne 8, 3) := dz_160 (b_3 (a := 0) (b := 8) bX8_lowestBits (by decide +kernel)) (by decide +kernel)
theorem dX8_lowestBits_5 : decode cX8_lowestBits 5 = .ok (.lload_n 0, 1) := dz_30 (b_1 bX8_lowestBits (by decide +kernel))
theorem dX8_lowestBits_6 : decode cX8_lowestBits 6 = .ok (.l2i, 1) := dz_136 (b_1 bX8_lowestBits (by decide +kernel))
theorem dX8_lowestBits_7 : decode cX8_lowestBits 7 = .ok (.i2b, 1) := dz_145 (b_1 bX8_lowestBits (by decide +kernel))
theorem dX8_lowestBits_8 : decode cX8_lowestBits 8 = .ok (.i2l, 1) := dz_133 (b_1 bX8_lowestBits (by decide +kernel))
theorem dX8_lowestBits_9 : decode cX8_lowestBits 9 = .ok (.lreturn, 1) := dz_173 (b_1 bX8_lowestBits (by decide +kernel))
theorem dX8_lowestBits_10 : decode cX8_lowestBits 10 = .ok (.iload_n 2, 1) := dz_28 (b_1 bX8_lowestBits (by decide +kernel))
theorem dX8_lowestBits_11 : decode cX8_lowestBits 11 = .ok (.iconst 4, 1) := dz_7 (b_1 bX8_lowestBits (by decide +kernel))
theorem dX8_lowestBits_12 : decode cX8_lowestBits 12 = .ok (.if_icmp .ne 9, 3) := dz_160 (b_3 (a := 0) (b := 9) bX8_lowestBits (by decide +kernel)) (by decide +kernel)
theorem dX8_lowestBits_15 : decode cX8_lowestBits 15 = .ok (.lload_n 0, 1) := dz_30 (b_1 bX8_lowestBits (by decide +kernel))
theorem dX8_lowestBits_16 : decode cX8_lowestBits 16 = .ok (.l2i, 1) := dz_136 (b_1 bX8_lowestBits (by decide +kernel))
theorem dX8_lowestBits_17 : decode cX8_lowestBits 17 = .ok (.i2l, 1) := dz_133 (b_1 bX8_lowestBits (by decide +kernel))
theorem dX8_lowestBits_18 : decode cX8_lowestBits 18 = .ok (.goto 4, 3) := dz_167 (b_3 (a := 0) (b := 4) bX8_lowestBits (by decide +kernel)) (by decide +kernel)
theorem dX8_lowestBits_21 : decode cX8_lowestBits 21 = .ok (.lload_n 0, 1) := dz_30 (b_1 bX8_lowestBits (by decide +kernel))
theorem dX8_lowestBits_22 : decode cX8_lowestBits 22 = .ok (.lreturn, 1) := dz_173 (b_1 bX8_lowestBits (by decide +kernel))
theorem gj_X8_changeValue_0 : GpS (wsX8_changeValue_r1) wsX8_changeValue := fun w h => List.mem_cons_of_mem _ (List.mem_append_left _ (List.mem_append_left _ (List.mem_append_left _ (List.mem_append_left _ (List.mem_append_left _ (h))))))
theorem gj_X8_changeValue_4 : GpS (wsX20) wsX8_changeValue := fun w h => List.mem_cons_of_mem _ (List.mem_append_left _ (List.mem_append_right _ (h)))
set_option maxRecDepth 20000 in
theorem ggX8_changeValue_X2_isFull : GoodIn wsX8_changeValue wsX2_isFull := gp_s (gp_c (gj_X8_changeValue_0 _ (gp_4 (gp_1 (gp_1 gp_h)))) (gp_a (gp_c (gj_X8_changeValue_0 _ (gp_4 (gp_1 (gp_1 (gp_1 gp_h))))) (gp_n)) (gj_X8_changeValue_4))) gb_X2_isFull
set_option maxRecDepth 20000 in
theorem gX8_changeValue_X2_isFull : GoodIn wsX8_changeValue (wsV RX8 165 RX2 yX2_isFull wsX2_isFull) := goodIn_app (gp_s (gp_c (gj_X8_changeValue_0 _ (gp_1 (gp_1 gp_h))) (gp_c (gj_X8_changeValue_0 _ (gp_1 (gp_1 (gp_1 gp_h)))) (gp_c (gj_X8_changeValue_0 _ (gp_4 gp_h)) (gp_c (gj_X8_changeValue_0 _ (gp_4 (gp_1 gp_h))) (gp_n))))) (gp_v)) ggX8_changeValue_X2_isFull
theorem gb_X2_noteField : wsX2_noteField.all goodWord = true := by decide +kernel
theorem gj_X8_changeValue_1 : GpS (wsX8_changeValue_r2) wsX8_changeValue := fun w h => List.mem_cons_of_mem _ (List.mem_append_left _ (List.mem_append_left _ (List.mem_append_left _ (List.mem_append_left _ (List.mem_append_right _ (h))))))
theorem gj_X8_changeValue_3 : GpS (wsX60) wsX8_changeValue := fun w h => List.mem_cons_of_mem _ (List.mem_append_left _ (List.mem_append_left _ (List.mem_append_right _ (h))))
theorem gj_X8_changeValue_5 : GpS (wsX30) wsX8_changeValue := fun w h => List.mem_cons_of_mem _ (List.mem_append_right _ (h))
set_option maxRecDepth 20000 in
theorem ggX8_changeValue_X2_noteField : GoodIn wsX8_changeValue wsX2_noteField := gp_s (gp_c (gj_X8_changeValue_0 _ (gp_4 (gp_4 (gp_1 (gp_1 (gp_1 gp_h)))))) (gp_a (gp_a (gp_a (gp_c (gj_X8_changeValue_0 _ (gp_4 (gp_4 (gp_4 gp_h)))) (gp_c (gj_X8_changeValue_0 _ (gp_4 (gp_4 (gp_4 (gp_1 gp_h))))) (gp_c (gj_X8_changeValue_0 _ (gp_4 (gp_4 (gp_4 (gp_1 (gp_1 gp_h)))))) (gp_c (gj_X8_changeValue_0 _ (gp_4 (gp_4 (gp_4 (gp_1 (gp_1 (gp_1 gp_h))))))) (gp_c (gj_X8_changeValue_0 _ (gp_16 gp_h)) (gp_c (gj_X8_changeValue_0 _ (gp_4 (gp_1 gp_h))) (gp_c (gj_X8_changeValue_0 _ (gp_16 (gp_1 gp_h))) (gp_c (gj_X8_changeValue_0 _ (gp_16 (gp_1 (gp_1 gp_h)))) (gp_c (gj_X8_changeValue_0 _ (gp_16 (gp_1 (gp_1 (gp_1 gp_h))))) (gp_c (gj_X8_changeValue_0 _ (gp_4 (gp_1 (gp_1 (gp_1 gp_h))))) (gp_c (gj_X8_changeValue_0 _ (gp_16 (gp_4 gp_h))) (gp_c (gj_X8_changeValue_0 _ (gp_16 (gp_4 (gp_1 gp_h)))) (gp_c (gj_X8_changeValue_0 _ (gp_16 (gp_4 (gp_1 (gp_1 gp_h))))) (gp_c (gj_X8_changeValue_0 _ (gp_16 (gp_4 (gp_1 (gp_1 (gp_1 gp_h)))))) (gp_c (gj_X8_changeValue_1 _ (gp_h)) (gp_c (gj_X8_changeValue_0 _ (gp_1 (gp_1 (gp_1 gp_h)))) (gp_c (gj_X8_changeValue_0 _ (gp_4 gp_h)) (gp_c (gj_X8_changeValue_0 _ (gp_4 (gp_1 (gp_1 gp_h)))) (gp_n))))))))))))))))))) (gj_X8_changeValue_3)) (gj_X8_changeValue_4)) (gj_X8_changeValue_5))) gb_X2_noteField
set_option maxRecDepth 20000 in
theorem gX8_changeValue_X2_noteField : GoodIn wsX8_changeValue (wsV RX8 277 RX2 yX2_noteField wsX2_noteField) := goodIn_app (gp_s (gp_c (gj_X8_changeValue_0 _ (gp_4 (gp_4 gp_h))) (gp_c (gj_X8_changeValue_0 _ (gp_4 (gp_4 (gp_1 gp_h)))) (gp_c (gj_X8_changeValue_0 _ (gp_4 (gp_4 (gp_1 (gp_1 gp_h))))) (gp_c (gj_X8_changeValue_0 _ (gp_4 (gp_1 gp_h))) (gp_n))))) (gp_v)) ggX8_changeValue_X2_noteField
noncomputable def nX8_changeValue : Nat := 0xac0450211cc100b42b1501b61c2b3300b42aacfc10060099a500b63300b42a
theorem bX8_changeValue : Bts cX8_changeValue nX8_changeValue 31 := by unfold Bts; decide +kernel
theorem dX8_changeValue_0 : decode cX8_changeValue 0 = .ok (.aload_n 0, 1) := dz_42 (b_1 bX8_changeValue (by decide +kernel))
theorem dX8_changeValue_1 : decode cX8_changeValue 1 = .ok (.getfield 51, 3) := dz_180 (b_3 (a := 0) (b := 51) bX8_changeValue (by decide +kernel))
theorem dX8_changeValue_4 : decode cX8_changeValue 4 = .ok (.invokevirtual 165, 3) := dz_182 (b_3 (a := 0) (b := 165) bX8_changeValue (by decide +kernel))
theorem dX8_changeValue_7 : decode cX8_changeValue 7 = .ok (.ifCond .eq 6, 3) := dz_153 (b_3 (a := 0) (b := 6) bX8_changeValue (by decide +kernel)) (by decide +kernel)
theorem dX8_changeValue_10 : decode cX8_changeValue 10 = .ok (.bipush (-4), 2) := dz_16 (b_2 (a := 252) bX8_changeValue (by decide +kernel)) (by decide +kernel)
theorem dX8_changeValue_12 : decode cX8_changeValue 12 = .ok (.ireturn, 1) := dz_172 (b_1 bX8_changeValue (by decide +kernel))
theorem dX8_changeValue_13 : decode cX8_changeValue 13 = .ok (.aload_n 0, 1) := dz_42 (b_1 bX8_changeValue (by decide +kernel))
theorem dX8_changeValue_14 : decode cX8_changeValue 14 = .ok (.getfield 51, 3) := dz_180 (b_3 (a := 0) (b := 51) bX8_changeValue (by decide +kernel))
theorem dX8_changeValue_17 : decode cX8_changeValue 17 = .ok (.aload_n 1, 1) := dz_43 (b_1 bX8_changeValue (by decide +kernel))
theorem dX8_changeValue_18 : decode cX8_changeValue 18 = .ok (.iload_n 2, 1) := dz_28 (b_1 bX8_changeValue (by decide +kernel))
theorem dX8_changeValue_19 : decode cX8_changeValue 19 = .ok (.invokevirtual 277, 3) := dz_182 (b_3 (a := 1) (b := 21) bX8_changeValue (by decide +kernel))
theorem dX8_changeValue_22 : decode cX8_changeValue 22 = .ok (.aload_n 1, 1) := dz_43 (b_1 bX8_changeValue (by decide +kernel))
theorem dX8_changeValue_23 : decode cX8_changeValue 23 = .ok (.getfield 193, 3) := dz_180 (b_3 (a := 0) (b := 193) bX8_changeValue (by decide +kernel))
theorem dX8_changeValue_26 : decode cX8_changeValue 26 = .ok (.iload_n 2, 1) := dz_28 (b_1 bX8_changeValue (by decide +kernel))
theorem dX8_changeValue_27 : decode cX8_changeValue 27 = .ok (.lload_n 3, 1) := dz_33 (b_1 bX8_changeValue (by decide +kernel))
theorem dX8_changeValue_28 : decode cX8_changeValue 28 = .ok (.lastore, 1) := dz_80 (b_1 bX8_changeValue (by decide +kernel))
theorem dX8_changeValue_29 : decode cX8_changeValue 29 = .ok (.iconst 1, 1) := dz_4 (b_1 bX8_changeValue (by decide +kernel))
theorem dX8_changeValue_30 : decode cX8_changeValue 30 = .ok (.ireturn, 1) := dz_172 (b_1 bX8_changeValue (by decide +kernel))
theorem gj_X8_changeRow_0 : GpS (wsX8_changeRow_r1) wsX8_changeRow := fun w h => List.mem_cons_of_mem _ (List.mem_append_left _ (List.mem_append_left _ (List.mem_append_left _ (List.mem_append_left _ (List.mem_append_left _ (h))))))
theorem gj_X8_changeRow_4 : GpS (wsX20) wsX8_changeRow := fun w h => List.mem_cons_of_mem _ (List.mem_append_left _ (List.mem_append_right _ (h)))
set_option maxRecDepth 20000 in
theorem ggX8_changeRow_X2_isFull : GoodIn wsX8_changeRow wsX2_isFull := gp_s (gp_c (gj_X8_changeRow_0 _ (gp_4 (gp_1 (gp_1 gp_h)))) (gp_a (gp_c (gj_X8_changeRow_0 _ (gp_4 (gp_1 (gp_1 (gp_1 gp_h))))) (gp_n)) (gj_X8_changeRow_4))) gb_X2_isFull
set_option maxRecDepth 20000 in
theorem gX8_changeRow_X2_isFull : GoodIn wsX8_changeRow (wsV RX8 165 RX2 yX2_isFull wsX2_isFull) := goodIn_app (gp_s (gp_c (gj_X8_changeRow_0 _ (gp_1 (gp_1 gp_h))) (gp_c (gj_X8_changeRow_0 _ (gp_1 (gp_1 (gp_1 gp_h)))) (gp_c (gj_X8_changeRow_0 _ (gp_4 gp_h)) (gp_c (gj_X8_changeRow_0 _ (gp_4 (gp_1 gp_h))) (gp_n))))) (gp_v)) ggX8_changeRow_X2_isFull
theorem gj_X8_changeRow_1 : GpS (wsX8_changeRow_r2) wsX8_changeRow := fun w h => List.mem_cons_of_mem _ (List.mem_append_left _ (List.mem_append_left _ (List.mem_append_left _ (List.mem_append_left _ (List.mem_append_right _ (h))))))
theorem gj_X8_changeRow_3 : GpS (wsX60) wsX8_changeRow := fun w h => List.mem_cons_of_mem _ (List.mem_append_left _ (List.mem_append_left _ (List.mem_append_right _ (h))))
theorem gj_X8_changeRow_5 : GpS (wsX30) wsX8_changeRow := fun w h => List.mem_cons_of_mem _ (List.mem_append_right _ (h))
set_option maxRecDepth 20000 in
theorem ggX8_changeRow_X2_noteField : GoodIn wsX8_changeRow wsX2_noteField := gp_s (gp_c (gj_X8_changeRow_0 _ (gp_4 (gp_4 (gp_1 (gp_1 (gp_1 gp_h)))))) (gp_a (gp_a (gp_a (gp_c (gj_X8_changeRow_0 _ (gp_4 (gp_4 (gp_4 gp_h)))) (gp_c (gj_X8_changeRow_0 _ (gp_4 (gp_4 (gp_4 (gp_1 gp_h))))) (gp_c (gj_X8_changeRow_0 _ (gp_4 (gp_4 (gp_4 (gp_1 (gp_1 gp_h)))))) (gp_c (gj_X8_changeRow_0 _ (gp_4 (gp_4 (gp_4 (gp_1 (gp_1 (gp_1 gp_h))))))) (gp_c (gj_X8_changeRow_0 _ (gp_16 gp_h)) (gp_c (gj_X8_changeRow_0 _ (gp_4 (gp_1 gp_h))) (gp_c (gj_X8_changeRow_0 _ (gp_16 (gp_1 gp_h))) (gp_c (gj_X8_changeRow_0 _ (gp_16 (gp_1 (gp_1 gp_h)))) (gp_c (gj_X8_changeRow_0 _ (gp_16 (gp_1 (gp_1 (gp_1 gp_h))))) (gp_c (gj_X8_changeRow_0 _ (gp_4 (gp_1 (gp_1 (gp_1 gp_h))))) (gp_c (gj_X8_changeRow_0 _ (gp_16 (gp_4 gp_h))) (gp_c (gj_X8_changeRow_0 _ (gp_16 (gp_4 (gp_1 gp_h)))) (gp_c (gj_X8_changeRow_0 _ (gp_16 (gp_4 (gp_1 (gp_1 gp_h))))) (gp_c (gj_X8_changeRow_0 _ (gp_16 (gp_4 (gp_1 (gp_1 (gp_1 gp_h)))))) (gp_c (gj_X8_changeRow_1 _ (gp_h)) (gp_c (gj_X8_changeRow_0 _ (gp_1 (gp_1 (gp_1 gp_h)))) (gp_c (gj_X8_changeRow_0 _ (gp_4 gp_h)) (gp_c (gj_X8_changeRow_0 _ (gp_4 (gp_1 (gp_1 gp_h)))) (gp_n))))))))))))))))))) (gj_X8_changeRow_3)) (gj_X8_changeRow_4)) (gj_X8_changeRow_5))) gb_X2_noteField
set_option maxRecDepth 20000 in
theorem gX8_changeRow_X2_noteField : GoodIn wsX8_changeRow (wsV RX8 277 RX2 yX2_noteField wsX2_noteField) := goodIn_app (gp_s (gp_c (gj_X8_changeRow_0 _ (gp_4 (gp_4 gp_h))) (gp_c (gj_X8_changeRow_0 _ (gp_4 (gp_4 (gp_1 gp_h)))) (gp_c (gj_X8_changeRow_0 _ (gp_4 (gp_4 (gp_1 (gp_1 gp_h))))) (gp_c (gj_X8_changeRow_0 _ (gp_4 (gp_1 gp_h))) (gp_n))))) (gp_v)) ggX8_changeRow_X2_noteField
noncomputable def nX8_changeRow : Nat := 0xac04532d1c9e00b42b1501b61c2b3300b42aacfc10060099a500b63300b42a
theorem bX8_changeRow : Bts cX8_changeRow nX8_changeRow 31 := by unfold Bts; decide +kernel
theorem dX8_changeRow_0 : decode cX8_changeRow 0 = .ok (.aload_n 0, 1) := dz_42 (b_1 bX8_changeRow (by decide +kernel))
theorem dX8_changeRow_1 : decode cX8_changeRow 1 = .ok (.getfield 51, 3) := dz_180 (b_3 (a := 0) (b := 51) bX8_changeRow (by decide +kernel))
theorem dX8_changeRow_4 : decode cX8_changeRow 4 = .ok (.invokevirtual 165, 3) := dz_182 (b_3 (a := 0) (b := 165) bX8_changeRow (by decide +kernel))
theorem dX8_changeRow_7 : decode cX8_changeRow 7 = .ok (.ifCond .eq 6, 3) := dz_153 (b_3 (a := 0) (b := 6) bX8_changeRow (by decide +kernel)) (by decide +kernel)
theorem dX8_changeRow_10 : decode cX8_changeRow 10 = .ok (.bipush (-4), 2) := dz_16 (b_2 (a := 252) bX8_changeRow (by decide +kernel)) (by decide +kernel)
theorem dX8_changeRow_12 : decode cX8_changeRow 12 = .ok (.ireturn, 1) := dz_172 (b_1 bX8_changeRow (by decide +kernel))
theorem dX8_changeRow_13 : decode cX8_changeRow 13 = .ok (.aload_n 0, 1) := dz_42 (b_1 bX8_changeRow (by decide +kernel))
theorem dX8_changeRow_14 : decode cX8_changeRow 14 = .ok (.getfield 51, 3) := dz_180 (b_3 (a := 0) (b := 51) bX8_changeRow (by decide +kernel))
theorem dX8_changeRow_17 : decode cX8_changeRow 17 = .ok (.aload_n 1, 1) := dz_43 (b_1 bX8_changeRow (by decide +kernel))
theorem dX8_changeRow_18 : decode cX8_changeRow 18 = .ok (.iload_n 2, 1) := dz_28 (b_1 bX8_changeRow (by decide +kernel))
theorem dX8_changeRow_19 : decode cX8_changeRow 19 = .ok (.invokevirtual 277, 3) := dz_182 (b_3 (a := 1) (b := 21) bX8_changeRow (by decide +kernel))
theorem dX8_changeRow_22 : decode cX8_changeRow 22 = .ok (.aload_n 1, 1) := dz_43 (b_1 bX8_changeRow (by decide +kernel))
theorem dX8_changeRow_23 : decode cX8_changeRow 23 = .ok (.getfield 158, 3) := dz_180 (b_3 (a := 0) (b := 158) bX8_changeRow (by decide +kernel))
theorem dX8_changeRow_26 : decode cX8_changeRow 26 = .ok (.iload_n 2, 1) := dz_28 (b_1 bX8_changeRow (by decide +kernel))
theorem dX8_changeRow_27 : decode cX8_changeRow 27 = .ok (.aload_n 3, 1) := dz_45 (b_1 bX8_changeRow (by decide +kernel))
theorem dX8_changeRow_28 : decode cX8_changeRow 28 = .ok (.aastore, 1) := dz_83 (b_1 bX8_changeRow (by decide +kernel))
theorem dX8_changeRow_29 : decode cX8_changeRow 29 = .ok (.iconst 1, 1) := dz_4 (b_1 bX8_changeRow (by decide +kernel))
theorem dX8_changeRow_30 : decode cX8_changeRow 30 = .ok (.ireturn, 1) := dz_172 (b_1 bX8_changeRow (by decide +kernel))
theorem gj_X8_firstFailingCheck_0 : GpS (wsX8_firstFailingCheck_r1) wsX8_firstFailingCheck := fun w h => List.mem_cons_of_mem _ (List.mem_append_left _ (List.mem_append_left _ (List.mem_append_left _ (List.mem_append_left _ (List.mem_append_left _ (List.mem_append_left _ (h)))))))
theorem gj_X8_firstFailingCheck_1 : GpS (wsX8_firstFailingCheck_r2) wsX8_firstFailingCheck := fun w h => List.mem_cons_of_mem _ (List.mem_append_left _ (List.mem_append_left _ (List.mem_append_left _ (List.mem_append_left _ (List.mem_append_left _ (List.mem_append_right _ (List.mem_append_left _ (h))))))))
theorem gj_X8_firstFailingCheck_2 : GpS (wsX8_firstFailingCheck_r3) wsX8_firstFailingCheck := fun w h => List.mem_cons_of_mem _ (List.mem_append_left _ (List.mem_append_left _ (List.mem_append_left _ (List.mem_append_left _ (List.mem_append_left _ (List.mem_append_right _ (List.mem_append_right _ (h))))))))
theorem gj_X8_firstFailingCheck_3 : GpS (wsX60) wsX8_firstFailingCheck := fun w h => List.mem_cons_of_mem _ (List.mem_append_left _ (List.mem_append_left _ (List.mem_append_left _ (List.mem_append_left _ (List.mem_append_right _ (h))))))
theorem gj_X8_firstFailingCheck_4 : GpS (wsX70) wsX8_firstFailingCheck := fun w h => List.mem_cons_of_mem _ (List.mem_append_left _ (List.mem_append_left _ (List.mem_append_left _ (List.mem_append_right _ (h)))))
theorem gj_X8_firstFailingCheck_5 : GpS (wsX00) wsX8_firstFailingCheck := fun w h => List.mem_cons_of_mem _ (List.mem_append_left _ (List.mem_append_left _ (List.mem_append_right _ (h))))
theorem gj_X8_firstFailingCheck_6 : GpS (wsX80) wsX8_firstFailingCheck := fun w h => List.mem_cons_of_mem _ (List.mem_append_left _ (List.mem_append_right _ (h)))
theorem gj_X8_firstFailingCheck_7 : GpS (wsX50) wsX8_firstFailingCheck := fun w h => List.mem_cons_of_mem _ (List.mem_append_right _ (h))
set_option maxRecDepth 20000 in
theorem ggX8_firstFailingCheck_X8_failureOf : GoodIn wsX8_firstFailingCheck wsX8_failureOf := gp_s (gp_c (gj_X8_firstFailingCheck_0 _ (gp_4 (gp_1 (gp_1 (gp_1 gp_h))))) (gp_a (gp_a (gp_a (gp_a (gp_a (gp_a (gp_c (gj_X8_firstFailingCheck_0 _ (gp_4 (gp_4 gp_h))) (gp_c (gj_X8_firstFailingCheck_0 _ (gp_4 (gp_4 (gp_1 gp_h)))) (gp_c (gj_X8_firstFailingCheck_0 _ (gp_4 (gp_4 (gp_1 (gp_1 gp_h))))) (gp_c (gj_X8_firstFailingCheck_0 _ (gp_4 (gp_1 (gp_1 gp_h)))) (gp_c (gj_X8_firstFailingCheck_0 _ (gp_4 (gp_4 (gp_1 (gp_1 (gp_1 gp_h)))))) (gp_c (gj_X8_firstFailingCheck_0 _ (gp_h)) (gp_c (gj_X8_firstFailingCheck_0 _ (gp_4 (gp_4 (gp_4 gp_h)))) (gp_c (gj_X8_firstFailingCheck_0 _ (gp_4 (gp_4 (gp_4 (gp_1 gp_h))))) (gp_c (gj_X8_firstFailingCheck_0 _ (gp_4 (gp_4 (gp_4 (gp_1 (gp_1 gp_h)))))) (gp_c (gj_X8_firstFailingCheck_0 _ (gp_4 (gp_4 (gp_4 (gp_1 (gp_1 (gp_1 gp_h))))))) (gp_c (gj_X8_firstFailingCheck_0 _ (gp_16 gp_h)) (gp_c (gj_X8_firstFailingCheck_0 _ (gp_16 (gp_1 gp_h))) (gp_c (gj_X8_firstFailingCheck_0 _ (gp_16 (gp_1 (gp_1 gp_h)))) (gp_c (gj_X8_firstFailingCheck_0 _ (gp_16 (gp_1 (gp_1 (gp_1 gp_h))))) (gp_c (gj_X8_firstFailingCheck_0 _ (gp_16 (gp_4 gp_h))) (gp_c (gj_X8_firstFailingCheck_0 _ (gp_16 (gp_4 (gp_1 gp_h)))) (gp_c (gj_X8_firstFailingCheck_0 _ (gp_16 (gp_4 (gp_1 (gp_1 gp_h))))) (gp_c (gj_X8_firstFailingCheck_0 _ (gp_16 (gp_4 (gp_1 (gp_1 (gp_1 gp_h)))))) (gp_c (gj_X8_firstFailingCheck_1 _ (gp_h)) (gp_c (gj_X8_firstFailingCheck_1 _ (gp_1 gp_h)) (gp_c (gj_X8_firstFailingCheck_1 _ (gp_1 (gp_1 gp_h))) (gp_c (gj_X8_firstFailingCheck_1 _ (gp_1 (gp_1 (gp_1 gp_h)))) (gp_c (gj_X8_firstFailingCheck_1 _ (gp_4 gp_h)) (gp_c (gj_X8_firstFailingCheck_1 _ (gp_4 (gp_1 gp_h))) (gp_n))))))))))))))))))))))))) (gp_a (gp_c (gj_X8_firstFailingCheck_1 _ (gp_4 (gp_1 (gp_1 gp_h)))) (gp_c (gj_X8_firstFailingCheck_1 _ (gp_4 (gp_1 (gp_1 (gp_1 gp_h))))) (gp_c (gj_X8_firstFailingCheck_1 _ (gp_4 (gp_4 gp_h))) (gp_c (gj_X8_firstFailingCheck_1 _ (gp_4 (gp_4 (gp_1 gp_h)))) (gp_c (gj_X8_firstFailingCheck_1 _ (gp_4 (gp_4 (gp_1 (gp_1 gp_h))))) (gp_c (gj_X8_firstFailingCheck_1 _ (gp_4 (gp_4 (gp_1 (gp_1 (gp_1 gp_h)))))) (gp_c (gj_X8_firstFailingCheck_1 _ (gp_4 (gp_4 (gp_4 gp_h)))) (gp_c (gj_X8_firstFailingCheck_1 _ (gp_4 (gp_4 (gp_4 (gp_1 gp_h))))) (gp_c (gj_X8_firstFailingCheck_1 _ (gp_4 (gp_4 (gp_4 (gp_1 (gp_1 gp_h)))))) (gp_c (gj_X8_firstFailingCheck_1 _ (gp_4 (gp_4 (gp_4 (gp_1 (gp_1 (gp_1 gp_h))))))) (gp_c (gj_X8_firstFailingCheck_1 _ (gp_16 gp_h)) (gp_c (gj_X8_firstFailingCheck_1 _ (gp_16 (gp_1 gp_h))) (gp_c (gj_X8_firstFailingCheck_1 _ (gp_16 (gp_1 (gp_1 gp_h)))) (gp_c (gj_X8_firstFailingCheck_1 _ (gp_16 (gp_1 (gp_1 (gp_1 gp_h))))) (gp_c (gj_X8_firstFailingCheck_1 _ (gp_16 (gp_4 gp_h))) (gp_c (gj_X8_firstFailingCheck_1 _ (gp_16 (gp_4 (gp_1 gp_h)))) (gp_c (gj_X8_firstFailingCheck_1 _ (gp_16 (gp_4 (gp_1 (gp_1 gp_h))))) (gp_c (gj_X8_firstFailingCheck_1 _ (gp_16 (gp_4 (gp_1 (gp_1 (gp_1 gp_h)))))) (gp_c (gj_X8_firstFailingCheck_2 _ (gp_h)) (gp_c (gj_X8_firstFailingCheck_2 _ (gp_1 gp_h)) (gp_c (gj_X8_firstFailingCheck_2 _ (gp_1 (gp_1 gp_h))) (gp_c (gj_X8_firstFailingCheck_2 _ (gp_1 (gp_1 (gp_1 gp_h)))) (gp_c (gj_X8_firstFailingCheck_2 _ (gp_4 gp_h)) (gp_c (gj_X8_firstFailingCheck_2 _ (gp_4 (gp_1 gp_h))) (gp_n))))))))))))))))))))))))) (gp_c (gj_X8_firstFailingCheck_2 _ (gp_4 (gp_1 (gp_1 gp_h)))) (gp_c (gj_X8_firstFailingCheck_2 _ (gp_4 (gp_1 (gp_1 (gp_1 gp_h))))) (gp_c (gj_X8_firstFailingCheck_2 _ (gp_4 (gp_4 gp_h))) (gp_c (gj_X8_firstFailingCheck_2 _ (gp_4 (gp_4 (gp_1 gp_h)))) (gp_c (gj_X8_firstFailingCheck_2 _ (gp_4 (gp_4 (gp_1 (gp_1 gp_h))))) (gp_c (gj_X8_firstFailingCheck_2 _ (gp_4 (gp_4 (gp_1 (gp_1 (gp_1 gp_h)))))) (gp_c (gj_X8_firstFailingCheck_2 _ (gp_4 (gp_4 (gp_4 gp_h)))) (gp_c (gj_X8_firstFailingCheck_2 _ (gp_4 (gp_4 (gp_4 (gp_1 gp_h))))) (gp_c (gj_X8_firstFailingCheck_2 _ (gp_4 (gp_4 (gp_4 (gp_1 (gp_1 gp_h)))))) (gp_c (gj_X8_firstFailingCheck_2 _ (gp_4 (gp_4 (gp_4 (gp_1 (gp_1 (gp_1 gp_h))))))) (gp_c (gj_X8_firstFailingCheck_2 _ (gp_16 gp_h)) (gp_c (gj_X8_firstFailingCheck_2 _ (gp_16 (gp_1 gp_h))) (gp_c (gj_X8_firstFailingCheck_2 _ (gp_16 (gp_1 (gp_1 gp_h)))) (gp_c (gj_X8_firstFailingCheck_2 _ (gp_16 (gp_1 (gp_1 (gp_1 gp_h))))) (gp_n))))))))))))))))) (gj_X8_firstFailingCheck_5)) (gj_X8_firstFailingCheck_3)) (gj_X8_firstFailingCheck_4)) (gj_X8_firstFailingCheck_6)) (gj_X8_firstFailingCheck_7))) gb_X8_failureOf
set_option maxRecDepth 20000 in
theorem gX8_firstFailingCheck_X8_failureOf : GoodIn wsX8_firstFailingCheck (wsV RX8 212 RX8 yX8_failureOf wsX8_failureOf) := goodIn_app (gp_s (gp_c (gj_X8_firstFailingCheck_0 _ (gp_1 (gp_1 (gp_1 gp_h)))) (gp_c (gj_X8_firstFailingCheck_0 _ (gp_4 gp_h)) (gp_c (gj_X8_firstFailingCheck_0 _ (gp_4 (gp_1 gp_h))) (gp_c (gj_X8_firstFailingCheck_0 _ (gp_4 (gp_1 (gp_1 gp_h)))) (gp_n))))) (gp_v)) ggX8_firstFailingCheck_X8_failureOf
noncomputable def nX8_firstFailingCheck : Nat := 0xac02dfffa7010284ac1c050099d400b6321c7600b46100b42b2b2a1c00a27300b46100b42b1c3d03
theorem bX8_firstFailingCheck : Bts cX8_firstFailingCheck nX8_firstFailingCheck 40 := by unfold Bts; decide +kernel
theorem dX8_firstFailingCheck_0 : decode cX8_firstFailingCheck 0 = .ok (.iconst 0, 1) := dz_3 (b_1 bX8_firstFailingCheck (by decide +kernel))
theorem dX8_firstFailingCheck_1 : decode cX8_firstFailingCheck 1 = .ok (.istore_n 2, 1) := dz_61 (b_1 bX8_firstFailingCheck (by decide +kernel))
theorem dX8_firstFailingCheck_2 : decode cX8_firstFailingCheck 2 = .ok (.iload_n 2, 1) := dz_28 (b_1 bX8_firstFailingCheck (by decide +kernel))
theorem dX8_firstFailingCheck_3 : decode cX8_firstFailingCheck 3 = .ok (.aload_n 1, 1) := dz_43 (b_1 bX8_firstFailingCheck (by decide +kernel))
theorem dX8_firstFailingCheck_4 : decode cX8_firstFailingCheck 4 = .ok (.getfield 97, 3) := dz_180 (b_3 (a := 0) (b := 97) bX8_firstFailingCheck (by decide +kernel))
theorem dX8_firstFailingCheck_7 : decode cX8_firstFailingCheck 7 = .ok (.getfield 115, 3) := dz_180 (b_3 (a := 0) (b := 115) bX8_firstFailingCheck (by decide +kernel))
theorem dX8_firstFailingCheck_10 : decode cX8_firstFailingCheck 10 = .ok (.if_icmp .ge 28, 3) := dz_162 (b_3 (a := 0) (b := 28) bX8_firstFailingCheck (by decide +kernel)) (by decide +kernel)
theorem dX8_firstFailingCheck_13 : decode cX8_firstFailingCheck 13 = .ok (.aload_n 0, 1) := dz_42 (b_1 bX8_firstFailingCheck (by decide +kernel))
theorem dX8_firstFailingCheck_14 : decode cX8_firstFailingCheck 14 = .ok (.aload_n 1, 1) := dz_43 (b_1 bX8_firstFailingCheck (by decide +kernel))
theorem dX8_firstFailingCheck_15 : decode cX8_firstFailingCheck 15 = .ok (.aload_n 1, 1) := dz_43 (b_1 bX8_firstFailingCheck (by decide +kernel))
theorem dX8_firstFailingCheck_16 : decode cX8_firstFailingCheck 16 = .ok (.getfield 97, 3) := dz_180 (b_3 (a := 0) (b := 97) bX8_firstFailingCheck (by decide +kernel))
theorem dX8_firstFailingCheck_19 : decode cX8_firstFailingCheck 19 = .ok (.getfield 118, 3) := dz_180 (b_3 (a := 0) (b := 118) bX8_firstFailingCheck (by decide +kernel))
theorem dX8_firstFailingCheck_22 : decode cX8_firstFailingCheck 22 = .ok (.iload_n 2, 1) := dz_28 (b_1 bX8_firstFailingCheck (by decide +kernel))
theorem dX8_firstFailingCheck_23 : decode cX8_firstFailingCheck 23 = .ok (.aaload, 1) := dz_50 (b_1 bX8_firstFailingCheck (by decide +kernel))
theorem dX8_firstFailingCheck_24 : decode cX8_firstFailingCheck 24 = .ok (.invokevirtual 212, 3) := dz_182 (b_3 (a := 0) (b := 212) bX8_firstFailingCheck (by decide +kernel))
theorem dX8_firstFailingCheck_27 : decode cX8_firstFailingCheck 27 = .ok (.ifCond .eq 5, 3) := dz_153 (b_3 (a := 0) (b := 5) bX8_firstFailingCheck (by decide +kernel)) (by decide +kernel)
theorem dX8_firstFailingCheck_30 : decode cX8_firstFailingCheck 30 = .ok (.iload_n 2, 1) := dz_28 (b_1 bX8_firstFailingCheck (by decide +kernel))
theorem dX8_firstFailingCheck_31 : decode cX8_firstFailingCheck 31 = .ok (.ireturn, 1) := dz_172 (b_1 bX8_firstFailingCheck (by decide +kernel))
theorem dX8_firstFailingCheck_32 : decode cX8_firstFailingCheck 32 = .ok (.iinc 2 1, 3) := dz_132 (b_3 (a := 2) (b := 1) bX8_firstFailingCheck (by decide +kernel)) (by decide +kernel)
theorem dX8_firstFailingCheck_35 : decode cX8_firstFailingCheck 35 = .ok (.goto (-33), 3) := dz_167 (b_3 (a := 255) (b := 223) bX8_firstFailingCheck (by decide +kernel)) (by decide +kernel)
theorem dX8_firstFailingCheck_38 : decode cX8_firstFailingCheck 38 = .ok (.iconst (-1), 1) := dz_2 (b_1 bX8_firstFailingCheck (by decide +kernel))
theorem dX8_firstFailingCheck_39 : decode cX8_firstFailingCheck 39 = .ok (.ireturn, 1) := dz_172 (b_1 bX8_firstFailingCheck (by decide +kernel))
theorem gb_X8_failureOfDivides : wsX8_failureOfDivides.all goodWord = true := by decide +kernel
theorem gj_X8_failureOf_0 : GpS (wsX8_failureOf_r1) wsX8_failureOf := fun w h => List.mem_cons_of_mem _ (List.mem_append_left _ (List.mem_append_left _ (List.mem_append_left _ (List.mem_append_left _ (List.mem_append_left _ (List.mem_append_left _ (h)))))))
theorem gj_X8_failureOf_3 : GpS (wsX00) wsX8_failureOf := fun w h => List.mem_cons_of_mem _ (List.mem_append_left _ (List.mem_append_left _ (List.mem_append_left _ (List.mem_append_left _ (List.mem_append_right _ (h))))))
theorem gj_X8_failureOf_4 : GpS (wsX60) wsX8_failureOf := fun w h => List.mem_cons_of_mem _ (List.mem_append_left _ (List.mem_append_left _ (List.mem_append_left _ (List.mem_append_right _ (h)))))
theorem gj_X8_failureOf_5 : GpS (wsX70) wsX8_failureOf := fun w h => List.mem_cons_of_mem _ (List.mem_append_left _ (List.mem_append_left _ (List.mem_append_right _ (h))))
set_option maxRecDepth 20000 in
theorem ggX8_failureOf_X8_failureOfDivides : GoodIn wsX8_failureOf wsX8_failureOfDivides := gp_s (gp_c (gj_X8_failureOf_0 _ (gp_4 gp_h)) (gp_a (gp_a (gp_a (gp_c (gj_X8_failureOf_0 _ (gp_4 (gp_1 gp_h))) (gp_c (gj_X8_failureOf_0 _ (gp_4 (gp_1 (gp_1 gp_h)))) (gp_c (gj_X8_failureOf_0 _ (gp_4 (gp_1 (gp_1 (gp_1 gp_h))))) (gp_c (gj_X8_failureOf_0 _ (gp_4 (gp_4 gp_h))) (gp_c (gj_X8_failureOf_0 _ (gp_4 (gp_4 (gp_1 gp_h)))) (gp_c (gj_X8_failureOf_0 _ (gp_4 (gp_4 (gp_1 (gp_1 gp_h))))) (gp_c (gj_X8_failureOf_0 _ (gp_4 (gp_4 (gp_1 (gp_1 (gp_1 gp_h)))))) (gp_c (gj_X8_failureOf_0 _ (gp_4 (gp_4 (gp_4 gp_h)))) (gp_c (gj_X8_failureOf_0 _ (gp_4 (gp_4 (gp_4 (gp_1 gp_h))))) (gp_c (gj_X8_failureOf_0 _ (gp_4 (gp_4 (gp_4 (gp_1 (gp_1 gp_h)))))) (gp_c (gj_X8_failureOf_0 _ (gp_4 (gp_4 (gp_4 (gp_1 (gp_1 (gp_1 gp_h))))))) (gp_c (gj_X8_failureOf_0 _ (gp_16 gp_h)) (gp_c (gj_X8_failureOf_0 _ (gp_16 (gp_1 gp_h))) (gp_c (gj_X8_failureOf_0 _ (gp_16 (gp_1 (gp_1 gp_h)))) (gp_c (gj_X8_failureOf_0 _ (gp_16 (gp_1 (gp_1 (gp_1 gp_h))))) (gp_c (gj_X8_failureOf_0 _ (gp_16 (gp_4 gp_h))) (gp_c (gj_X8_failureOf_0 _ (gp_1 (gp_1 (gp_1 gp_h)))) (gp_c (gj_X8_failureOf_0 _ (gp_16 (gp_4 (gp_1 gp_h)))) (gp_n))))))))))))))))))) (gj_X8_failureOf_4)) (gj_X8_failureOf_3)) (gj_X8_failureOf_5))) gb_X8_failureOfDivides
set_option maxRecDepth 20000 in
theorem gX8_failureOf_X8_failureOfDivides : GoodIn wsX8_failureOf (va_wsS RX8 284 yX8_failureOfDivides wsX8_failureOfDivides) := goodIn_app (gp_s (gp_c (gj_X8_failureOf_0 _ (gp_1 gp_h)) (gp_c (gj_X8_failureOf_0 _ (gp_1 (gp_1 gp_h))) (gp_c (gj_X8_failureOf_0 _ (gp_1 (gp_1 (gp_1 gp_h)))) (gp_n)))) (gp_t)) ggX8_failureOf_X8_failureOfDivides
theorem gb_X8_failureOfMeets : wsX8_failureOfMeets.all goodWord = true := by decide +kernel
theorem gj_X8_failureOf_1 : GpS (wsX8_failureOf_r2) wsX8_failureOf := fun w h => List.mem_cons_of_mem _ (List.mem_append_left _ (List.mem_append_left _ (List.mem_append_left _ (List.mem_append_left _ (List.mem_append_left _ (List.mem_append_right _ (List.mem_append_left _ (h))))))))
theorem gj_X8_failureOf_6 : GpS (wsX80) wsX8_failureOf := fun w h => List.mem_cons_of_mem _ (List.mem_append_left _ (List.mem_append_right _ (h)))
set_option maxRecDepth 20000 in
theorem ggX8_failureOf_X8_failureOfMeets : GoodIn wsX8_failureOf wsX8_failureOfMeets := gp_s (gp_c (gj_X8_failureOf_1 _ (gp_1 gp_h)) (gp_a (gp_a (gp_a (gp_a (gp_a (gp_c (gj_X8_failureOf_0 _ (gp_4 (gp_1 gp_h))) (gp_c (gj_X8_failureOf_0 _ (gp_4 (gp_1 (gp_1 gp_h)))) (gp_c (gj_X8_failureOf_0 _ (gp_4 (gp_4 gp_h))) (gp_c (gj_X8_failureOf_1 _ (gp_1 (gp_1 gp_h))) (gp_c (gj_X8_failureOf_1 _ (gp_1 (gp_1 (gp_1 gp_h)))) (gp_c (gj_X8_failureOf_0 _ (gp_4 (gp_4 (gp_1 gp_h)))) (gp_c (gj_X8_failureOf_0 _ (gp_4 (gp_4 (gp_1 (gp_1 gp_h))))) (gp_c (gj_X8_failureOf_0 _ (gp_4 (gp_4 (gp_1 (gp_1 (gp_1 gp_h)))))) (gp_c (gj_X8_failureOf_0 _ (gp_4 (gp_4 (gp_4 gp_h)))) (gp_c (gj_X8_failureOf_0 _ (gp_4 (gp_4 (gp_4 (gp_1 gp_h))))) (gp_c (gj_X8_failureOf_0 _ (gp_4 (gp_4 (gp_4 (gp_1 (gp_1 gp_h)))))) (gp_c (gj_X8_failureOf_0 _ (gp_4 (gp_4 (gp_4 (gp_1 (gp_1 (gp_1 gp_h))))))) (gp_c (gj_X8_failureOf_0 _ (gp_16 gp_h)) (gp_c (gj_X8_failureOf_0 _ (gp_16 (gp_1 gp_h))) (gp_c (gj_X8_failureOf_0 _ (gp_16 (gp_1 (gp_1 gp_h)))) (gp_c (gj_X8_failureOf_0 _ (gp_16 (gp_1 (gp_1 (gp_1 gp_h))))) (gp_c (gj_X8_failureOf_0 _ (gp_16 (gp_4 gp_h))) (gp_c (gj_X8_failureOf_0 _ (gp_1 (gp_1 (gp_1 gp_h)))) (gp_c (gj_X8_failureOf_0 _ (gp_16 (gp_4 (gp_1 gp_h)))) (gp_c (gj_X8_failureOf_1 _ (gp_4 gp_h)) (gp_c (gj_X8_failureOf_1 _ (gp_4 (gp_1 gp_h))) (gp_c (gj_X8_failureOf_1 _ (gp_4 (gp_1 (gp_1 gp_h)))) (gp_c (gj_X8_failureOf_1 _ (gp_4 (gp_1 (gp_1 (gp_1 gp_h))))) (gp_c (gj_X8_failureOf_1 _ (gp_4 (gp_4 gp_h))) (gp_n))))))))))))))))))))))))) (gp_c (gj_X8_failureOf_1 _ (gp_4 (gp_4 (gp_1 gp_h)))) (gp_n))) (gj_X8_failureOf_4)) (gj_X8_failureOf_3)) (gj_X8_failureOf_5)) (gj_X8_failureOf_6))) gb_X8_failureOfMeets
set_option maxRecDepth 20000 in
theorem gX8_failureOf_X8_failureOfMeets : GoodIn wsX8_failureOf (wsV RX8 287 RX8 yX8_failureOfMeets wsX8_failureOfMeets) := goodIn_app (gp_s (gp_c (gj_X8_failureOf_0 _ (gp_16 (gp_4 (gp_1 (gp_1 gp_h))))) (gp_c (gj_X8_failureOf_0 _ (gp_16 (gp_4 (gp_1 (gp_1 (gp_1 gp_h)))))) (gp_c (gj_X8_failureOf_1 _ (gp_h)) (gp_c (gj_X8_failureOf_0 _ (gp_1 (gp_1 (gp_1 gp_h)))) (gp_n))))) (gp_v)) ggX8_failureOf_X8_failureOfMeets
theorem gb_X8_failureOfHas : wsX8_failureOfHas.all goodWord = true := by decide +kernel
theorem gj_X8_failureOf_7 : GpS (wsX50) wsX8_failureOf := fun w h => List.mem_cons_of_mem _ (List.mem_append_right _ (h))
set_option maxRecDepth 20000 in
theorem ggX8_failureOf_X8_failureOfHas : GoodIn wsX8_failureOf wsX8_failureOfHas := gp_s (gp_c (gj_X8_failureOf_1 _ (gp_4 (gp_4 (gp_4 gp_h)))) (gp_a (gp_a (gp_a (gp_a (gp_a (gp_c (gj_X8_failureOf_0 _ (gp_4 (gp_1 gp_h))) (gp_c (gj_X8_failureOf_0 _ (gp_4 (gp_1 (gp_1 gp_h)))) (gp_c (gj_X8_failureOf_0 _ (gp_4 (gp_1 (gp_1 (gp_1 gp_h))))) (gp_c (gj_X8_failureOf_1 _ (gp_4 (gp_4 (gp_4 (gp_1 gp_h))))) (gp_c (gj_X8_failureOf_0 _ (gp_4 (gp_4 gp_h))) (gp_c (gj_X8_failureOf_1 _ (gp_4 (gp_4 (gp_4 (gp_1 (gp_1 gp_h)))))) (gp_c (gj_X8_failureOf_1 _ (gp_1 (gp_1 (gp_1 gp_h)))) (gp_c (gj_X8_failureOf_1 _ (gp_4 (gp_4 (gp_4 (gp_1 (gp_1 (gp_1 gp_h))))))) (gp_c (gj_X8_failureOf_1 _ (gp_16 gp_h)) (gp_c (gj_X8_failureOf_1 _ (gp_16 (gp_1 gp_h))) (gp_c (gj_X8_failureOf_0 _ (gp_4 (gp_4 (gp_4 gp_h)))) (gp_c (gj_X8_failureOf_1 _ (gp_16 (gp_1 (gp_1 gp_h)))) (gp_c (gj_X8_failureOf_0 _ (gp_4 (gp_4 (gp_4 (gp_1 (gp_1 gp_h)))))) (gp_c (gj_X8_failureOf_0 _ (gp_4 (gp_4 (gp_4 (gp_1 (gp_1 (gp_1 gp_h))))))) (gp_c (gj_X8_failureOf_0 _ (gp_16 gp_h)) (gp_c (gj_X8_failureOf_0 _ (gp_16 (gp_1 gp_h))) (gp_c (gj_X8_failureOf_0 _ (gp_16 (gp_1 (gp_1 gp_h)))) (gp_c (gj_X8_failureOf_0 _ (gp_16 (gp_1 (gp_1 (gp_1 gp_h))))) (gp_c (gj_X8_failureOf_0 _ (gp_16 (gp_4 gp_h))) (gp_c (gj_X8_failureOf_0 _ (gp_1 (gp_1 (gp_1 gp_h)))) (gp_c (gj_X8_failureOf_0 _ (gp_16 (gp_4 (gp_1 gp_h)))) (gp_c (gj_X8_failureOf_1 _ (gp_16 (gp_1 (gp_1 (gp_1 gp_h))))) (gp_c (gj_X8_failureOf_1 _ (gp_16 (gp_4 gp_h))) (gp_c (gj_X8_failureOf_0 _ (gp_4 (gp_4 (gp_1 gp_h)))) (gp_n))))))))))))))))))))))))) (gp_c (gj_X8_failureOf_0 _ (gp_4 (gp_4 (gp_1 (gp_1 gp_h))))) (gp_c (gj_X8_failureOf_0 _ (gp_4 (gp_4 (gp_1 (gp_1 (gp_1 gp_h)))))) (gp_c (gj_X8_failureOf_0 _ (gp_4 (gp_4 (gp_4 (gp_1 gp_h))))) (gp_n))))) (gj_X8_failureOf_4)) (gj_X8_failureOf_3)) (gj_X8_failureOf_7)) (gj_X8_failureOf_5))) gb_X8_failureOfHas
set_option maxRecDepth 20000 in
theorem gX8_failureOf_X8_failureOfHas : GoodIn wsX8_failureOf (va_wsS RX8 290 yX8_failureOfHas wsX8_failureOfHas) := goodIn_app (gp_s (gp_c (gj_X8_failureOf_1 _ (gp_4 (gp_4 (gp_1 (gp_1 gp_h))))) (gp_c (gj_X8_failureOf_1 _ (gp_4 (gp_4 (gp_1 (gp_1 (gp_1 gp_h)))))) (gp_c (gj_X8_failureOf_0 _ (gp_1 (gp_1 (gp_1 gp_h)))) (gp_n)))) (gp_t)) ggX8_failureOf_X8_failureOfHas
theorem gb_X8_failureOfHolds : wsX8_failureOfHolds.all goodWord = true := by decide +kernel
theorem gj_X8_failureOf_2 : GpS (wsX8_failureOf_r3) wsX8_failureOf := fun w h => List.mem_cons_of_mem _ (List.mem_append_left _ (List.mem_append_left _ (List.mem_append_left _ (List.mem_append_left _ (List.mem_append_left _ (List.mem_append_right _ (List.mem_append_right _ (h))))))))
set_option maxRecDepth 20000 in
theorem ggX8_failureOf_X8_failureOfHolds : GoodIn wsX8_failureOf wsX8_failureOfHolds := gp_s (gp_c (gj_X8_failureOf_1 _ (gp_16 (gp_4 (gp_1 (gp_1 (gp_1 gp_h)))))) (gp_a (gp_a (gp_a (gp_c (gj_X8_failureOf_0 _ (gp_4 (gp_1 gp_h))) (gp_c (gj_X8_failureOf_0 _ (gp_4 (gp_1 (gp_1 gp_h)))) (gp_c (gj_X8_failureOf_0 _ (gp_4 (gp_4 gp_h))) (gp_c (gj_X8_failureOf_2 _ (gp_h)) (gp_c (gj_X8_failureOf_0 _ (gp_4 (gp_4 (gp_1 gp_h)))) (gp_c (gj_X8_failureOf_0 _ (gp_4 (gp_4 (gp_1 (gp_1 gp_h))))) (gp_c (gj_X8_failureOf_0 _ (gp_4 (gp_4 (gp_1 (gp_1 (gp_1 gp_h)))))) (gp_c (gj_X8_failureOf_0 _ (gp_4 (gp_4 (gp_4 gp_h)))) (gp_c (gj_X8_failureOf_0 _ (gp_4 (gp_4 (gp_4 (gp_1 gp_h))))) (gp_c (gj_X8_failureOf_0 _ (gp_4 (gp_4 (gp_4 (gp_1 (gp_1 gp_h)))))) (gp_c (gj_X8_failureOf_0 _ (gp_4 (gp_4 (gp_4 (gp_1 (gp_1 (gp_1 gp_h))))))) (gp_c (gj_X8_failureOf_0 _ (gp_16 gp_h)) (gp_c (gj_X8_failureOf_0 _ (gp_16 (gp_1 gp_h))) (gp_c (gj_X8_failureOf_0 _ (gp_16 (gp_1 (gp_1 gp_h)))) (gp_c (gj_X8_failureOf_0 _ (gp_16 (gp_1 (gp_1 (gp_1 gp_h))))) (gp_c (gj_X8_failureOf_0 _ (gp_16 (gp_4 gp_h))) (gp_c (gj_X8_failureOf_0 _ (gp_1 (gp_1 (gp_1 gp_h)))) (gp_c (gj_X8_failureOf_0 _ (gp_16 (gp_4 (gp_1 gp_h)))) (gp_n))))))))))))))))))) (gj_X8_failureOf_4)) (gj_X8_failureOf_3)) (gj_X8_failureOf_5))) gb_X8_failureOfHolds
set_option maxRecDepth 20000 in
theorem gX8_failureOf_X8_failureOfHolds : GoodIn wsX8_failureOf (va_wsS RX8 293 yX8_failureOfHolds wsX8_failureOfHolds) := goodIn_app (gp_s (gp_c (gj_X8_failureOf_1 _ (gp_16 (gp_4 (gp_1 gp_h)))) (gp_c (gj_X8_failureOf_1 _ (gp_16 (gp_4 (gp_1 (gp_1 gp_h))))) (gp_c (gj_X8_failureOf_0 _ (gp_1 (gp_1 (gp_1 gp_h)))) (gp_n)))) (gp_t)) ggX8_failureOf_X8_failureOfHolds
theorem gb_X8_failureOfLeast : wsX8_failureOfLeast.all goodWord = true := by decide +kernel
set_option maxRecDepth 20000 in
theorem ggX8_failureOf_X8_failureOfLeast : GoodIn wsX8_failureOf wsX8_failureOfLeast := gp_s (gp_c (gj_X8_failureOf_2 _ (gp_1 (gp_1 (gp_1 gp_h)))) (gp_a (gp_a (gp_a (gp_c (gj_X8_failureOf_0 _ (gp_4 (gp_1 gp_h))) (gp_c (gj_X8_failureOf_0 _ (gp_4 (gp_1 (gp_1 gp_h)))) (gp_c (gj_X8_failureOf_0 _ (gp_4 (gp_4 gp_h))) (gp_c (gj_X8_failureOf_1 _ (gp_1 (gp_1 (gp_1 gp_h)))) (gp_c (gj_X8_failureOf_0 _ (gp_4 (gp_4 (gp_1 gp_h)))) (gp_c (gj_X8_failureOf_0 _ (gp_4 (gp_4 (gp_1 (gp_1 gp_h))))) (gp_c (gj_X8_failureOf_0 _ (gp_4 (gp_4 (gp_1 (gp_1 (gp_1 gp_h)))))) (gp_c (gj_X8_failureOf_0 _ (gp_4 (gp_4 (gp_4 gp_h)))) (gp_c (gj_X8_failureOf_0 _ (gp_4 (gp_4 (gp_4 (gp_1 gp_h))))) (gp_c (gj_X8_failureOf_0 _ (gp_4 (gp_4 (gp_4 (gp_1 (gp_1 gp_h)))))) (gp_c (gj_X8_failureOf_0 _ (gp_4 (gp_4 (gp_4 (gp_1 (gp_1 (gp_1 gp_h))))))) (gp_c (gj_X8_failureOf_0 _ (gp_16 gp_h)) (gp_c (gj_X8_failureOf_0 _ (gp_16 (gp_1 gp_h))) (gp_c (gj_X8_failureOf_0 _ (gp_16 (gp_1 (gp_1 gp_h)))) (gp_c (gj_X8_failureOf_0 _ (gp_16 (gp_1 (gp_1 (gp_1 gp_h))))) (gp_c (gj_X8_failureOf_0 _ (gp_16 (gp_4 gp_h))) (gp_c (gj_X8_failureOf_0 _ (gp_1 (gp_1 (gp_1 gp_h)))) (gp_c (gj_X8_failureOf_0 _ (gp_16 (gp_4 (gp_1 gp_h)))) (gp_n))))))))))))))))))) (gj_X8_failureOf_4)) (gj_X8_failureOf_3)) (gj_X8_failureOf_5))) gb_X8_failureOfLeast
set_option maxRecDepth 20000 in
theorem gX8_failureOf_X8_failureOfLeast : GoodIn wsX8_failureOf (va_wsS RX8 296 yX8_failureOfLeast wsX8_failureOfLeast) := goodIn_app (gp_s (gp_c (gj_X8_failureOf_2 _ (gp_1 gp_h)) (gp_c (gj_X8_failureOf_2 _ (gp_1 (gp_1 gp_h))) (gp_c (gj_X8_failureOf_0 _ (gp_1 (gp_1 (gp_1 gp_h)))) (gp_n)))) (gp_t)) ggX8_failureOf_X8_failureOfLeast
theorem gb_X8_failureOfLeads : wsX8_failureOfLeads.all goodWord = true := by decide +kernel
set_option maxRecDepth 20000 in
theorem ggX8_failureOf_X8_failureOfLeads : GoodIn wsX8_failureOf wsX8_failureOfLeads := gp_s (gp_c (gj_X8_failureOf_2 _ (gp_4 (gp_1 (gp_1 (gp_1 gp_h))))) (gp_a (gp_a (gp_a (gp_a (gp_a (gp_c (gj_X8_failureOf_0 _ (gp_4 (gp_1 gp_h))) (gp_c (gj_X8_failureOf_0 _ (gp_4 (gp_1 (gp_1 gp_h)))) (gp_c (gj_X8_failureOf_0 _ (gp_4 (gp_4 gp_h))) (gp_c (gj_X8_failureOf_2 _ (gp_4 (gp_4 gp_h))) (gp_c (gj_X8_failureOf_0 _ (gp_4 (gp_4 (gp_1 gp_h)))) (gp_c (gj_X8_failureOf_0 _ (gp_4 (gp_4 (gp_1 (gp_1 gp_h))))) (gp_c (gj_X8_failureOf_0 _ (gp_4 (gp_4 (gp_1 (gp_1 (gp_1 gp_h)))))) (gp_c (gj_X8_failureOf_0 _ (gp_4 (gp_4 (gp_4 gp_h)))) (gp_c (gj_X8_failureOf_0 _ (gp_4 (gp_4 (gp_4 (gp_1 gp_h))))) (gp_c (gj_X8_failureOf_0 _ (gp_4 (gp_4 (gp_4 (gp_1 (gp_1 gp_h)))))) (gp_c (gj_X8_failureOf_0 _ (gp_4 (gp_4 (gp_4 (gp_1 (gp_1 (gp_1 gp_h))))))) (gp_c (gj_X8_failureOf_0 _ (gp_16 gp_h)) (gp_c (gj_X8_failureOf_0 _ (gp_16 (gp_1 gp_h))) (gp_c (gj_X8_failureOf_0 _ (gp_16 (gp_1 (gp_1 gp_h)))) (gp_c (gj_X8_failureOf_0 _ (gp_16 (gp_1 (gp_1 (gp_1 gp_h))))) (gp_c (gj_X8_failureOf_0 _ (gp_16 (gp_4 gp_h))) (gp_c (gj_X8_failureOf_0 _ (gp_1 (gp_1 (gp_1 gp_h)))) (gp_c (gj_X8_failureOf_0 _ (gp_16 (gp_4 (gp_1 gp_h)))) (gp_c (gj_X8_failureOf_1 _ (gp_4 gp_h)) (gp_c (gj_X8_failureOf_1 _ (gp_4 (gp_1 gp_h))) (gp_c (gj_X8_failureOf_1 _ (gp_4 (gp_1 (gp_1 gp_h)))) (gp_c (gj_X8_failureOf_1 _ (gp_4 (gp_1 (gp_1 (gp_1 gp_h))))) (gp_c (gj_X8_failureOf_1 _ (gp_4 (gp_4 gp_h))) (gp_c (gj_X8_failureOf_1 _ (gp_4 (gp_4 (gp_1 gp_h)))) (gp_n))))))))))))))))))))))))) (gp_c (gj_X8_failureOf_2 _ (gp_4 (gp_4 (gp_1 gp_h)))) (gp_c (gj_X8_failureOf_2 _ (gp_4 (gp_4 (gp_1 (gp_1 gp_h))))) (gp_c (gj_X8_failureOf_2 _ (gp_4 (gp_4 (gp_1 (gp_1 (gp_1 gp_h)))))) (gp_c (gj_X8_failureOf_2 _ (gp_4 (gp_4 (gp_4 gp_h)))) (gp_c (gj_X8_failureOf_2 _ (gp_4 (gp_4 (gp_4 (gp_1 gp_h))))) (gp_n))))))) (gj_X8_failureOf_4)) (gj_X8_failureOf_3)) (gj_X8_failureOf_5)) (gj_X8_failureOf_6))) gb_X8_failureOfLeads
set_option maxRecDepth 20000 in
theorem gX8_failureOf_X8_failureOfLeads : GoodIn wsX8_failureOf (wsV RX8 299 RX8 yX8_failureOfLeads wsX8_failureOfLeads) := goodIn_app (gp_s (gp_c (gj_X8_failureOf_2 _ (gp_4 gp_h)) (gp_c (gj_X8_failureOf_2 _ (gp_4 (gp_1 gp_h))) (gp_c (gj_X8_failureOf_2 _ (gp_4 (gp_1 (gp_1 gp_h)))) (gp_c (gj_X8_failureOf_0 _ (gp_1 (gp_1 (gp_1 gp_h)))) (gp_n))))) (gp_v)) ggX8_failureOf_X8_failureOfLeads
noncomputable def nX8_failureOf : Nat := 0xac2b01b62c2b2aac2801b82c2bac2501b82c2bac2201b82c2bac1f01b62c2b2aac1c01b82c2b3d00000037000000310000002a00000024000000040000000000000043000000000000aa1901b42c
theorem bX8_failureOf : Bts cX8_failureOf nX8_failureOf 78 := by unfold Bts; decide +kernel
theorem dX8_failureOf_0 : decode cX8_failureOf 0 = .ok (.aload_n 2, 1) := dz_44 (b_1 bX8_failureOf (by decide +kernel))
theorem dX8_failureOf_1 : decode cX8_failureOf 1 = .ok (.getfield 281, 3) := dz_180 (b_3 (a := 1) (b := 25) bX8_failureOf (by decide +kernel))
theorem dX8_failureOf_4 : decode cX8_failureOf 4 = .ok (.tableswitch 67 0 4 #[36, 42, 49, 55, 61], 36) := by decide +kernel
theorem dX8_failureOf_40 : decode cX8_failureOf 40 = .ok (.aload_n 1, 1) := dz_43 (b_1 bX8_failureOf (by decide +kernel))
theorem dX8_failureOf_41 : decode cX8_failureOf 41 = .ok (.aload_n 2, 1) := dz_44 (b_1 bX8_failureOf (by decide +kernel))
theorem dX8_failureOf_42 : decode cX8_failureOf 42 = .ok (.invokestatic 284, 3) := dz_184 (b_3 (a := 1) (b := 28) bX8_failureOf (by decide +kernel))
theorem dX8_failureOf_45 : decode cX8_failureOf 45 = .ok (.ireturn, 1) := dz_172 (b_1 bX8_failureOf (by decide +kernel))
theorem dX8_failureOf_46 : decode cX8_failureOf 46 = .ok (.aload_n 0, 1) := dz_42 (b_1 bX8_failureOf (by decide +kernel))
theorem dX8_failureOf_47 : decode cX8_failureOf 47 = .ok (.aload_n 1, 1) := dz_43 (b_1 bX8_failureOf (by decide +kernel))
theorem dX8_failureOf_48 : decode cX8_failureOf 48 = .ok (.aload_n 2, 1) := dz_44 (b_1 bX8_failureOf (by decide +kernel))
theorem dX8_failureOf_49 : decode cX8_failureOf 49 = .ok (.invokevirtual 287, 3) := dz_182 (b_3 (a := 1) (b := 31) bX8_failureOf (by decide +kernel))
theorem dX8_failureOf_52 : decode cX8_failureOf 52 = .ok (.ireturn, 1) := dz_172 (b_1 bX8_failureOf (by decide +kernel))
theorem dX8_failureOf_53 : decode cX8_failureOf 53 = .ok (.aload_n 1, 1) := dz_43 (b_1 bX8_failureOf (by decide +kernel))
theorem dX8_failureOf_54 : decode cX8_failureOf 54 = .ok (.aload_n 2, 1) := dz_44 (b_1 bX8_failureOf (by decide +kernel))
theorem dX8_failureOf_55 : decode cX8_failureOf 55 = .ok (.invokestatic 290, 3) := dz_184 (b_3 (a := 1) (b := 34) bX8_failureOf (by decide +kernel))
theorem dX8_failureOf_58 : decode cX8_failureOf 58 = .ok (.ireturn, 1) := dz_172 (b_1 bX8_failureOf (by decide +kernel))
theorem dX8_failureOf_59 : decode cX8_failureOf 59 = .ok (.aload_n 1, 1) := dz_43 (b_1 bX8_failureOf (by decide +kernel))
theorem dX8_failureOf_60 : decode cX8_failureOf 60 = .ok (.aload_n 2, 1) := dz_44 (b_1 bX8_failureOf (by decide +kernel))
theorem dX8_failureOf_61 : decode cX8_failureOf 61 = .ok (.invokestatic 293, 3) := dz_184 (b_3 (a := 1) (b := 37) bX8_failureOf (by decide +kernel))
theorem dX8_failureOf_64 : decode cX8_failureOf 64 = .ok (.ireturn, 1) := dz_172 (b_1 bX8_failureOf (by decide +kernel))
theorem dX8_failureOf_65 : decode cX8_failureOf 65 = .ok (.aload_n 1, 1) := dz_43 (b_1 bX8_failureOf (by decide +kernel))
theorem dX8_failureOf_66 : decode cX8_failureOf 66 = .ok (.aload_n 2, 1) := dz_44 (b_1 bX8_failureOf (by decide +kernel))
theorem dX8_failureOf_67 : decode cX8_failureOf 67 = .ok (.invokestatic 296, 3) := dz_184 (b_3 (a := 1) (b := 40) bX8_failureOf (by decide +kernel))
theorem dX8_failureOf_70 : decode cX8_failureOf 70 = .ok (.ireturn, 1) := dz_172 (b_1 bX8_failureOf (by decide +kernel))
theorem dX8_failureOf_71 : decode cX8_failureOf 71 = .ok (.aload_n 0, 1) := dz_42 (b_1 bX8_failureOf (by decide +kernel))
theorem dX8_failureOf_72 : decode cX8_failureOf 72 = .ok (.aload_n 1, 1) := dz_43 (b_1 bX8_failureOf (by decide +kernel))
theorem dX8_failureOf_73 : decode cX8_failureOf 73 = .ok (.aload_n 2, 1) := dz_44 (b_1 bX8_failureOf (by decide +kernel))
theorem dX8_failureOf_74 : decode cX8_failureOf 74 = .ok (.invokevirtual 299, 3) := dz_182 (b_3 (a := 1) (b := 43) bX8_failureOf (by decide +kernel))
theorem dX8_failureOf_77 : decode cX8_failureOf 77 = .ok (.ireturn, 1) := dz_172 (b_1 bX8_failureOf (by decide +kernel))
theorem gb_X7_hasLane : wsX7_hasLane.all goodWord = true := by decide +kernel
theorem gj_X8_failureOfDivides_0 : GpS ([.fieldLink RX8 97 "StateRecords$Thing" "type" "LStateRecords$Type;", .fieldLink RX8 302 "StateRecords$Check" "a" "I", .fieldLink RX8 308 "StateRecords$Check" "b" "I", .fieldLink RX8 193 "StateRecords$Thing" "values" "[J", .methodLink RX8 305 yX7_hasLane, .instanceMethod yX7_hasLane, .selects RX7 yX7_hasLane yX7_hasLane, .initialized RX7, .code yX7_hasLane cX7_hasLane 3 (some .boolean), .fieldLink RX7 15 "StateRecords$Type" "lanes" "[I", .methodLink RX7 43 yX7_hasField, .instanceMethod yX7_hasField, .selects RX7 yX7_hasField yX7_hasField, .code yX7_hasField cX7_hasField 2 (some .boolean), .fieldLink RX7 36 "StateRecords$Type" "fieldCount" "I", .static yX8_isBelow, .initialized RX8, .code yX8_isBelow cX8_isBelow 2 (some .boolean)]) wsX8_failureOfDivides := fun w h => List.mem_cons_of_mem _ (List.mem_append_left _ (List.mem_append_left _ (List.mem_append_left _ (h))))
theorem gj_X8_failureOfDivides_3 : GpS (wsX70) wsX8_failureOfDivides := fun w h => List.mem_cons_of_mem _ (List.mem_append_right _ (h))
set_option maxRecDepth 20000 in
theorem ggX8_failureOfDivides_X7_hasLane : GoodIn wsX8_failureOfDivides wsX7_hasLane := gp_s (gp_c (gj_X8_failureOfDivides_0 _ (gp_4 (gp_4 gp_h))) (gp_a (gp_c (gj_X8_failureOfDivides_0 _ (gp_4 (gp_4 (gp_1 gp_h)))) (gp_c (gj_X8_failureOfDivides_0 _ (gp_4 (gp_4 (gp_1 (gp_1 gp_h))))) (gp_c (gj_X8_failureOfDivides_0 _ (gp_4 (gp_4 (gp_1 (gp_1 (gp_1 gp_h)))))) (gp_c (gj_X8_failureOfDivides_0 _ (gp_4 (gp_4 (gp_4 gp_h)))) (gp_c (gj_X8_failureOfDivides_0 _ (gp_4 (gp_1 (gp_1 (gp_1 gp_h))))) (gp_c (gj_X8_failureOfDivides_0 _ (gp_4 (gp_4 (gp_4 (gp_1 gp_h))))) (gp_c (gj_X8_failureOfDivides_0 _ (gp_4 (gp_4 (gp_4 (gp_1 (gp_1 gp_h)))))) (gp_c (gj_X8_failureOfDivides_0 _ (gp_4 (gp_4 (gp_4 (gp_1 (gp_1 (gp_1 gp_h))))))) (gp_c (gj_X8_failureOfDivides_0 _ (gp_16 gp_h)) (gp_c (gj_X8_failureOfDivides_0 _ (gp_16 (gp_1 gp_h))) (gp_n))))))))))) (gj_X8_failureOfDivides_3))) gb_X7_hasLane
set_option maxRecDepth 20000 in
theorem gX8_failureOfDivides_X7_hasLane : GoodIn wsX8_failureOfDivides (wsV RX8 305 RX7 yX7_hasLane wsX7_hasLane) := goodIn_app (gp_s (gp_c (gj_X8_failureOfDivides_0 _ (gp_4 gp_h)) (gp_c (gj_X8_failureOfDivides_0 _ (gp_4 (gp_1 gp_h))) (gp_c (gj_X8_failureOfDivides_0 _ (gp_4 (gp_1 (gp_1 gp_h)))) (gp_c (gj_X8_failureOfDivides_0 _ (gp_4 (gp_1 (gp_1 (gp_1 gp_h))))) (gp_n))))) (gp_v)) ggX8_failureOfDivides_X7_hasLane
noncomputable def nX8_failureOfDivides : Nat := 0xac030400a70807009a94092f3401b42bc100b42aac0705009a3101b6033401b42b6100b42a1200993101b6032e01b42b6100b42a
theorem bX8_failureOfDivides : Bts cX8_failureOfDivides nX8_failureOfDivides 52 := by unfold Bts; decide +kernel
theorem dX8_failureOfDivides_0 : decode cX8_failureOfDivides 0 = .ok (.aload_n 0, 1) := dz_42 (b_1 bX8_failureOfDivides (by decide +kernel))
theorem dX8_failureOfDivides_1 : decode cX8_failureOfDivides 1 = .ok (.getfield 97, 3) := dz_180 (b_3 (a := 0) (b := 97) bX8_failureOfDivides (by decide +kernel))
theorem dX8_failureOfDivides_4 : decode cX8_failureOfDivides 4 = .ok (.aload_n 1, 1) := dz_43 (b_1 bX8_failureOfDivides (by decide +kernel))
theorem dX8_failureOfDivides_5 : decode cX8_failureOfDivides 5 = .ok (.getfield 302, 3) := dz_180 (b_3 (a := 1) (b := 46) bX8_failureOfDivides (by decide +kernel))
theorem dX8_failureOfDivides_8 : decode cX8_failureOfDivides 8 = .ok (.iconst 0, 1) := dz_3 (b_1 bX8_failureOfDivides (by decide +kernel))
theorem dX8_failureOfDivides_9 : decode cX8_failureOfDivides 9 = .ok (.invokevirtual 305, 3) := dz_182 (b_3 (a := 1) (b := 49) bX8_failureOfDivides (by decide +kernel))
theorem dX8_failureOfDivides_12 : decode cX8_failureOfDivides 12 = .ok (.ifCond .eq 18, 3) := dz_153 (b_3 (a := 0) (b := 18) bX8_failureOfDivides (by decide +kernel)) (by decide +kernel)
theorem dX8_failureOfDivides_15 : decode cX8_failureOfDivides 15 = .ok (.aload_n 0, 1) := dz_42 (b_1 bX8_failureOfDivides (by decide +kernel))
theorem dX8_failureOfDivides_16 : decode cX8_failureOfDivides 16 = .ok (.getfield 97, 3) := dz_180 (b_3 (a := 0) (b := 97) bX8_failureOfDivides (by decide +kernel))
theorem dX8_failureOfDivides_19 : decode cX8_failureOfDivides 19 = .ok (.aload_n 1, 1) := dz_43 (b_1 bX8_failureOfDivides (by decide +kernel))
theorem dX8_failureOfDivides_20 : decode cX8_failureOfDivides 20 = .ok (.getfield 308, 3) := dz_180 (b_3 (a := 1) (b := 52) bX8_failureOfDivides (by decide +kernel))
theorem dX8_failureOfDivides_23 : decode cX8_failureOfDivides 23 = .ok (.iconst 0, 1) := dz_3 (b_1 bX8_failureOfDivides (by decide +kernel))
theorem dX8_failureOfDivides_24 : decode cX8_failureOfDivides 24 = .ok (.invokevirtual 305, 3) := dz_182 (b_3 (a := 1) (b := 49) bX8_failureOfDivides (by decide +kernel))
theorem dX8_failureOfDivides_27 : decode cX8_failureOfDivides 27 = .ok (.ifCond .ne 5, 3) := dz_154 (b_3 (a := 0) (b := 5) bX8_failureOfDivides (by decide +kernel)) (by decide +kernel)
theorem dX8_failureOfDivides_30 : decode cX8_failureOfDivides 30 = .ok (.iconst 4, 1) := dz_7 (b_1 bX8_failureOfDivides (by decide +kernel))
theorem dX8_failureOfDivides_31 : decode cX8_failureOfDivides 31 = .ok (.ireturn, 1) := dz_172 (b_1 bX8_failureOfDivides (by decide +kernel))
theorem dX8_failureOfDivides_32 : decode cX8_failureOfDivides 32 = .ok (.aload_n 0, 1) := dz_42 (b_1 bX8_failureOfDivides (by decide +kernel))
theorem dX8_failureOfDivides_33 : decode cX8_failureOfDivides 33 = .ok (.getfield 193, 3) := dz_180 (b_3 (a := 0) (b := 193) bX8_failureOfDivides (by decide +kernel))
theorem dX8_failureOfDivides_36 : decode cX8_failureOfDivides 36 = .ok (.aload_n 1, 1) := dz_43 (b_1 bX8_failureOfDivides (by decide +kernel))
theorem dX8_failureOfDivides_37 : decode cX8_failureOfDivides 37 = .ok (.getfield 308, 3) := dz_180 (b_3 (a := 1) (b := 52) bX8_failureOfDivides (by decide +kernel))
theorem dX8_failureOfDivides_40 : decode cX8_failureOfDivides 40 = .ok (.laload, 1) := dz_47 (b_1 bX8_failureOfDivides (by decide +kernel))
theorem dX8_failureOfDivides_41 : decode cX8_failureOfDivides 41 = .ok (.lconst 0, 1) := dz_9 (b_1 bX8_failureOfDivides (by decide +kernel))
theorem dX8_failureOfDivides_42 : decode cX8_failureOfDivides 42 = .ok (.lcmp, 1) := dz_148 (b_1 bX8_failureOfDivides (by decide +kernel))
theorem dX8_failureOfDivides_43 : decode cX8_failureOfDivides 43 = .ok (.ifCond .ne 7, 3) := dz_154 (b_3 (a := 0) (b := 7) bX8_failureOfDivides (by decide +kernel)) (by decide +kernel)
theorem dX8_failureOfDivides_46 : decode cX8_failureOfDivides 46 = .ok (.iconst 5, 1) := dz_8 (b_1 bX8_failureOfDivides (by decide +kernel))
theorem dX8_failureOfDivides_47 : decode cX8_failureOfDivides 47 = .ok (.goto 4, 3) := dz_167 (b_3 (a := 0) (b := 4) bX8_failureOfDivides (by decide +kernel)) (by decide +kernel)
theorem dX8_failureOfDivides_50 : decode cX8_failureOfDivides 50 = .ok (.iconst 0, 1) := dz_3 (b_1 bX8_failureOfDivides (by decide +kernel))
theorem dX8_failureOfDivides_51 : decode cX8_failureOfDivides 51 = .ok (.ireturn, 1) := dz_172 (b_1 bX8_failureOfDivides (by decide +kernel))
theorem gj_X8_failureOfMeets_0 : GpS (wsX8_failureOfMeets_r1) wsX8_failureOfMeets := fun w h => List.mem_cons_of_mem _ (List.mem_append_left _ (List.mem_append_left _ (List.mem_append_left _ (List.mem_append_left _ (List.mem_append_left _ (h))))))
theorem gj_X8_failureOfMeets_4 : GpS (wsX70) wsX8_failureOfMeets := fun w h => List.mem_cons_of_mem _ (List.mem_append_left _ (List.mem_append_right _ (h)))
set_option maxRecDepth 20000 in
theorem ggX8_failureOfMeets_X7_hasLane : GoodIn wsX8_failureOfMeets wsX7_hasLane := gp_s (gp_c (gj_X8_failureOfMeets_0 _ (gp_4 (gp_4 (gp_1 gp_h)))) (gp_a (gp_c (gj_X8_failureOfMeets_0 _ (gp_4 (gp_4 (gp_1 (gp_1 gp_h))))) (gp_c (gj_X8_failureOfMeets_0 _ (gp_4 (gp_4 (gp_1 (gp_1 (gp_1 gp_h)))))) (gp_c (gj_X8_failureOfMeets_0 _ (gp_4 (gp_4 (gp_4 gp_h)))) (gp_c (gj_X8_failureOfMeets_0 _ (gp_4 (gp_4 (gp_4 (gp_1 gp_h))))) (gp_c (gj_X8_failureOfMeets_0 _ (gp_4 (gp_4 gp_h))) (gp_c (gj_X8_failureOfMeets_0 _ (gp_4 (gp_4 (gp_4 (gp_1 (gp_1 gp_h)))))) (gp_c (gj_X8_failureOfMeets_0 _ (gp_4 (gp_4 (gp_4 (gp_1 (gp_1 (gp_1 gp_h))))))) (gp_c (gj_X8_failureOfMeets_0 _ (gp_16 gp_h)) (gp_c (gj_X8_failureOfMeets_0 _ (gp_16 (gp_1 gp_h))) (gp_c (gj_X8_failureOfMeets_0 _ (gp_16 (gp_1 (gp_1 gp_h)))) (gp_n))))))))))) (gj_X8_failureOfMeets_4))) gb_X7_hasLane
set_option maxRecDepth 20000 in
theorem gX8_failureOfMeets_X7_hasLane : GoodIn wsX8_failureOfMeets (wsV RX8 305 RX7 yX7_hasLane wsX7_hasLane) := goodIn_app (gp_s (gp_c (gj_X8_failureOfMeets_0 _ (gp_4 (gp_1 gp_h))) (gp_c (gj_X8_failureOfMeets_0 _ (gp_4 (gp_1 (gp_1 gp_h)))) (gp_c (gj_X8_failureOfMeets_0 _ (gp_4 (gp_1 (gp_1 (gp_1 gp_h))))) (gp_c (gj_X8_failureOfMeets_0 _ (gp_4 (gp_4 gp_h))) (gp_n))))) (gp_v)) ggX8_failureOfMeets_X7_hasLane
theorem gj_X8_failureOfMeets_1 : GpS (wsX8_failureOfMeets_r2) wsX8_failureOfMeets := fun w h => List.mem_cons_of_mem _ (List.mem_append_left _ (List.mem_append_left _ (List.mem_append_left _ (List.mem_append_left _ (List.mem_append_right _ (h))))))
theorem gj_X8_failureOfMeets_5 : GpS (wsX80) wsX8_failureOfMeets := fun w h => List.mem_cons_of_mem _ (List.mem_append_right _ (h))
set_option maxRecDepth 20000 in
theorem ggX8_failureOfMeets_X8_thingNumbered : GoodIn wsX8_failureOfMeets wsX8_thingNumbered := gp_s (gp_c (gj_X8_failureOfMeets_0 _ (gp_16 (gp_4 (gp_1 (gp_1 gp_h))))) (gp_a (gp_c (gj_X8_failureOfMeets_0 _ (gp_16 (gp_4 (gp_1 (gp_1 (gp_1 gp_h)))))) (gp_c (gj_X8_failureOfMeets_1 _ (gp_h)) (gp_n))) (gj_X8_failureOfMeets_5))) gb_X8_thingNumbered
set_option maxRecDepth 20000 in
theorem gX8_failureOfMeets_X8_thingNumbered : GoodIn wsX8_failureOfMeets (wsV RX8 177 RX8 yX8_thingNumbered wsX8_thingNumbered) := goodIn_app (gp_s (gp_c (gj_X8_failureOfMeets_0 _ (gp_16 (gp_1 (gp_1 (gp_1 gp_h))))) (gp_c (gj_X8_failureOfMeets_0 _ (gp_16 (gp_4 gp_h))) (gp_c (gj_X8_failureOfMeets_0 _ (gp_16 (gp_4 (gp_1 gp_h)))) (gp_c (gj_X8_failureOfMeets_0 _ (gp_16 (gp_1 gp_h))) (gp_n))))) (gp_v)) ggX8_failureOfMeets_X8_thingNumbered
noncomputable def nX8_failureOfMeets : Nat := 0xac070400a70307009a943701b42c85cd00b46100b42dac040500c72d4eb100b62f2e01b42cc100b42b2aac0705009a3101b6052e01b42c6100b42b
theorem bX8_failureOfMeets : Bts cX8_failureOfMeets nX8_failureOfMeets 59 := by unfold Bts; decide +kernel
theorem dX8_failureOfMeets_0 : decode cX8_failureOfMeets 0 = .ok (.aload_n 1, 1) := dz_43 (b_1 bX8_failureOfMeets (by decide +kernel))
theorem dX8_failureOfMeets_1 : decode cX8_failureOfMeets 1 = .ok (.getfield 97, 3) := dz_180 (b_3 (a := 0) (b := 97) bX8_failureOfMeets (by decide +kernel))
theorem dX8_failureOfMeets_4 : decode cX8_failureOfMeets 4 = .ok (.aload_n 2, 1) := dz_44 (b_1 bX8_failureOfMeets (by decide +kernel))
theorem dX8_failureOfMeets_5 : decode cX8_failureOfMeets 5 = .ok (.getfield 302, 3) := dz_180 (b_3 (a := 1) (b := 46) bX8_failureOfMeets (by decide +kernel))
theorem dX8_failureOfMeets_8 : decode cX8_failureOfMeets 8 = .ok (.iconst 2, 1) := dz_5 (b_1 bX8_failureOfMeets (by decide +kernel))
theorem dX8_failureOfMeets_9 : decode cX8_failureOfMeets 9 = .ok (.invokevirtual 305, 3) := dz_182 (b_3 (a := 1) (b := 49) bX8_failureOfMeets (by decide +kernel))
theorem dX8_failureOfMeets_12 : decode cX8_failureOfMeets 12 = .ok (.ifCond .ne 5, 3) := dz_154 (b_3 (a := 0) (b := 5) bX8_failureOfMeets (by decide +kernel)) (by decide +kernel)
theorem dX8_failureOfMeets_15 : decode cX8_failureOfMeets 15 = .ok (.iconst 4, 1) := dz_7 (b_1 bX8_failureOfMeets (by decide +kernel))
theorem dX8_failureOfMeets_16 : decode cX8_failureOfMeets 16 = .ok (.ireturn, 1) := dz_172 (b_1 bX8_failureOfMeets (by decide +kernel))
theorem dX8_failureOfMeets_17 : decode cX8_failureOfMeets 17 = .ok (.aload_n 0, 1) := dz_42 (b_1 bX8_failureOfMeets (by decide +kernel))
theorem dX8_failureOfMeets_18 : decode cX8_failureOfMeets 18 = .ok (.aload_n 1, 1) := dz_43 (b_1 bX8_failureOfMeets (by decide +kernel))
theorem dX8_failureOfMeets_19 : decode cX8_failureOfMeets 19 = .ok (.getfield 193, 3) := dz_180 (b_3 (a := 0) (b := 193) bX8_failureOfMeets (by decide +kernel))
theorem dX8_failureOfMeets_22 : decode cX8_failureOfMeets 22 = .ok (.aload_n 2, 1) := dz_44 (b_1 bX8_failureOfMeets (by decide +kernel))
theorem dX8_failureOfMeets_23 : decode cX8_failureOfMeets 23 = .ok (.getfield 302, 3) := dz_180 (b_3 (a := 1) (b := 46) bX8_failureOfMeets (by decide +kernel))
theorem dX8_failureOfMeets_26 : decode cX8_failureOfMeets 26 = .ok (.laload, 1) := dz_47 (b_1 bX8_failureOfMeets (by decide +kernel))
theorem dX8_failureOfMeets_27 : decode cX8_failureOfMeets 27 = .ok (.invokevirtual 177, 3) := dz_182 (b_3 (a := 0) (b := 177) bX8_failureOfMeets (by decide +kernel))
theorem dX8_failureOfMeets_30 : decode cX8_failureOfMeets 30 = .ok (.astore_n 3, 1) := dz_78 (b_1 bX8_failureOfMeets (by decide +kernel))
theorem dX8_failureOfMeets_31 : decode cX8_failureOfMeets 31 = .ok (.aload_n 3, 1) := dz_45 (b_1 bX8_failureOfMeets (by decide +kernel))
theorem dX8_failureOfMeets_32 : decode cX8_failureOfMeets 32 = .ok (.ifnonnull 5, 3) := dz_199 (b_3 (a := 0) (b := 5) bX8_failureOfMeets (by decide +kernel)) (by decide +kernel)
theorem dX8_failureOfMeets_35 : decode cX8_failureOfMeets 35 = .ok (.iconst 1, 1) := dz_4 (b_1 bX8_failureOfMeets (by decide +kernel))
theorem dX8_failureOfMeets_36 : decode cX8_failureOfMeets 36 = .ok (.ireturn, 1) := dz_172 (b_1 bX8_failureOfMeets (by decide +kernel))
theorem dX8_failureOfMeets_37 : decode cX8_failureOfMeets 37 = .ok (.aload_n 3, 1) := dz_45 (b_1 bX8_failureOfMeets (by decide +kernel))
theorem dX8_failureOfMeets_38 : decode cX8_failureOfMeets 38 = .ok (.getfield 97, 3) := dz_180 (b_3 (a := 0) (b := 97) bX8_failureOfMeets (by decide +kernel))
theorem dX8_failureOfMeets_41 : decode cX8_failureOfMeets 41 = .ok (.getfield 205, 3) := dz_180 (b_3 (a := 0) (b := 205) bX8_failureOfMeets (by decide +kernel))
theorem dX8_failureOfMeets_44 : decode cX8_failureOfMeets 44 = .ok (.i2l, 1) := dz_133 (b_1 bX8_failureOfMeets (by decide +kernel))
theorem dX8_failureOfMeets_45 : decode cX8_failureOfMeets 45 = .ok (.aload_n 2, 1) := dz_44 (b_1 bX8_failureOfMeets (by decide +kernel))
theorem dX8_failureOfMeets_46 : decode cX8_failureOfMeets 46 = .ok (.getfield 311, 3) := dz_180 (b_3 (a := 1) (b := 55) bX8_failureOfMeets (by decide +kernel))
theorem dX8_failureOfMeets_49 : decode cX8_failureOfMeets 49 = .ok (.lcmp, 1) := dz_148 (b_1 bX8_failureOfMeets (by decide +kernel))
theorem dX8_failureOfMeets_50 : decode cX8_failureOfMeets 50 = .ok (.ifCond .ne 7, 3) := dz_154 (b_3 (a := 0) (b := 7) bX8_failureOfMeets (by decide +kernel)) (by decide +kernel)
theorem dX8_failureOfMeets_53 : decode cX8_failureOfMeets 53 = .ok (.iconst 0, 1) := dz_3 (b_1 bX8_failureOfMeets (by decide +kernel))
theorem dX8_failureOfMeets_54 : decode cX8_failureOfMeets 54 = .ok (.goto 4, 3) := dz_167 (b_3 (a := 0) (b := 4) bX8_failureOfMeets (by decide +kernel)) (by decide +kernel)
theorem dX8_failureOfMeets_57 : decode cX8_failureOfMeets 57 = .ok (.iconst 4, 1) := dz_7 (b_1 bX8_failureOfMeets (by decide +kernel))
theorem dX8_failureOfMeets_58 : decode cX8_failureOfMeets 58 = .ok (.ireturn, 1) := dz_172 (b_1 bX8_failureOfMeets (by decide +kernel))
theorem gb_X7_hasRowLane : wsX7_hasRowLane.all goodWord = true := by decide +kernel
theorem gj_X8_failureOfHas_0 : GpS (wsX8_failureOfHas_r1) wsX8_failureOfHas := fun w h => List.mem_cons_of_mem _ (List.mem_append_left _ (List.mem_append_left _ (List.mem_append_left _ (List.mem_append_left _ (List.mem_append_left _ (h))))))
theorem gj_X8_failureOfHas_5 : GpS (wsX70) wsX8_failureOfHas := fun w h => List.mem_cons_of_mem _ (List.mem_append_right _ (h))
set_option maxRecDepth 20000 in
theorem ggX8_failureOfHas_X7_hasRowLane : GoodIn wsX8_failureOfHas wsX7_hasRowLane := gp_s (gp_c (gj_X8_failureOfHas_0 _ (gp_4 (gp_4 (gp_1 (gp_1 (gp_1 gp_h)))))) (gp_a (gp_c (gj_X8_failureOfHas_0 _ (gp_4 (gp_4 (gp_4 gp_h)))) (gp_c (gj_X8_failureOfHas_0 _ (gp_4 (gp_4 (gp_4 (gp_1 gp_h))))) (gp_c (gj_X8_failureOfHas_0 _ (gp_4 (gp_4 (gp_4 (gp_1 (gp_1 gp_h)))))) (gp_c (gj_X8_failureOfHas_0 _ (gp_4 (gp_4 (gp_4 (gp_1 (gp_1 (gp_1 gp_h))))))) (gp_c (gj_X8_failureOfHas_0 _ (gp_4 (gp_4 (gp_1 (gp_1 gp_h))))) (gp_c (gj_X8_failureOfHas_0 _ (gp_16 gp_h)) (gp_c (gj_X8_failureOfHas_0 _ (gp_16 (gp_1 gp_h))) (gp_c (gj_X8_failureOfHas_0 _ (gp_16 (gp_1 (gp_1 gp_h)))) (gp_c (gj_X8_failureOfHas_0 _ (gp_16 (gp_1 (gp_1 (gp_1 gp_h))))) (gp_c (gj_X8_failureOfHas_0 _ (gp_16 (gp_4 gp_h))) (gp_c (gj_X8_failureOfHas_0 _ (gp_16 (gp_4 (gp_1 gp_h)))) (gp_c (gj_X8_failureOfHas_0 _ (gp_16 (gp_4 (gp_1 (gp_1 gp_h))))) (gp_n))))))))))))) (gj_X8_failureOfHas_5))) gb_X7_hasRowLane
set_option maxRecDepth 20000 in
theorem gX8_failureOfHas_X7_hasRowLane : GoodIn wsX8_failureOfHas (wsV RX8 315 RX7 yX7_hasRowLane wsX7_hasRowLane) := goodIn_app (gp_s (gp_c (gj_X8_failureOfHas_0 _ (gp_4 (gp_1 (gp_1 (gp_1 gp_h))))) (gp_c (gj_X8_failureOfHas_0 _ (gp_4 (gp_4 gp_h))) (gp_c (gj_X8_failureOfHas_0 _ (gp_4 (gp_4 (gp_1 gp_h)))) (gp_c (gj_X8_failureOfHas_0 _ (gp_4 (gp_4 (gp_1 (gp_1 gp_h))))) (gp_n))))) (gp_v)) ggX8_failureOfHas_X7_hasRowLane
theorem gj_X8_failureOfHas_1 : GpS (wsX8_failureOfHas_r2) wsX8_failureOfHas := fun w h => List.mem_cons_of_mem _ (List.mem_append_left _ (List.mem_append_left _ (List.mem_append_left _ (List.mem_append_left _ (List.mem_append_right _ (h))))))
set_option maxRecDepth 20000 in
theorem ggX8_failureOfHas_X7_hasLane : GoodIn wsX8_failureOfHas wsX7_hasLane := gp_s (gp_c (gj_X8_failureOfHas_1 _ (gp_1 (gp_1 gp_h))) (gp_a (gp_c (gj_X8_failureOfHas_0 _ (gp_4 (gp_4 (gp_4 gp_h)))) (gp_c (gj_X8_failureOfHas_0 _ (gp_4 (gp_4 (gp_4 (gp_1 gp_h))))) (gp_c (gj_X8_failureOfHas_0 _ (gp_4 (gp_4 (gp_4 (gp_1 (gp_1 gp_h)))))) (gp_c (gj_X8_failureOfHas_0 _ (gp_4 (gp_4 (gp_4 (gp_1 (gp_1 (gp_1 gp_h))))))) (gp_c (gj_X8_failureOfHas_0 _ (gp_4 (gp_4 (gp_1 (gp_1 gp_h))))) (gp_c (gj_X8_failureOfHas_0 _ (gp_16 gp_h)) (gp_c (gj_X8_failureOfHas_0 _ (gp_16 (gp_1 gp_h))) (gp_c (gj_X8_failureOfHas_0 _ (gp_16 (gp_1 (gp_1 gp_h)))) (gp_c (gj_X8_failureOfHas_0 _ (gp_16 (gp_1 (gp_1 (gp_1 gp_h))))) (gp_c (gj_X8_failureOfHas_0 _ (gp_16 (gp_4 gp_h))) (gp_n))))))))))) (gj_X8_failureOfHas_5))) gb_X7_hasLane
set_option maxRecDepth 20000 in
theorem gX8_failureOfHas_X7_hasLane : GoodIn wsX8_failureOfHas (wsV RX8 305 RX7 yX7_hasLane wsX7_hasLane) := goodIn_app (gp_s (gp_c (gj_X8_failureOfHas_0 _ (gp_16 (gp_4 (gp_1 (gp_1 (gp_1 gp_h)))))) (gp_c (gj_X8_failureOfHas_1 _ (gp_h)) (gp_c (gj_X8_failureOfHas_1 _ (gp_1 gp_h)) (gp_c (gj_X8_failureOfHas_0 _ (gp_4 (gp_4 (gp_1 (gp_1 gp_h))))) (gp_n))))) (gp_v)) ggX8_failureOfHas_X7_hasLane
noncomputable def nX8_failureOfHas : Nat := 0xac06100500a70307009e943701b42b2f8821a100b42cac0505009b9485bea100b42c210e009b940921422f3401b42bc100b42aac040500c72c4d322e01b42b9e00b42aac0705009a3101b6033401b42b6100b42a1200993b01b62e01b42b6100b42a
theorem bX8_failureOfHas : Bts cX8_failureOfHas nX8_failureOfHas 98 := by unfold Bts; decide +kernel
theorem dX8_failureOfHas_0 : decode cX8_failureOfHas 0 = .ok (.aload_n 0, 1) := dz_42 (b_1 bX8_failureOfHas (by decide +kernel))
theorem dX8_failureOfHas_1 : decode cX8_failureOfHas 1 = .ok (.getfield 97, 3) := dz_180 (b_3 (a := 0) (b := 97) bX8_failureOfHas (by decide +kernel))
theorem dX8_failureOfHas_4 : decode cX8_failureOfHas 4 = .ok (.aload_n 1, 1) := dz_43 (b_1 bX8_failureOfHas (by decide +kernel))
theorem dX8_failureOfHas_5 : decode cX8_failureOfHas 5 = .ok (.getfield 302, 3) := dz_180 (b_3 (a := 1) (b := 46) bX8_failureOfHas (by decide +kernel))
theorem dX8_failureOfHas_8 : decode cX8_failureOfHas 8 = .ok (.invokevirtual 315, 3) := dz_182 (b_3 (a := 1) (b := 59) bX8_failureOfHas (by decide +kernel))
theorem dX8_failureOfHas_11 : decode cX8_failureOfHas 11 = .ok (.ifCond .eq 18, 3) := dz_153 (b_3 (a := 0) (b := 18) bX8_failureOfHas (by decide +kernel)) (by decide +kernel)
theorem dX8_failureOfHas_14 : decode cX8_failureOfHas 14 = .ok (.aload_n 0, 1) := dz_42 (b_1 bX8_failureOfHas (by decide +kernel))
theorem dX8_failureOfHas_15 : decode cX8_failureOfHas 15 = .ok (.getfield 97, 3) := dz_180 (b_3 (a := 0) (b := 97) bX8_failureOfHas (by decide +kernel))
theorem dX8_failureOfHas_18 : decode cX8_failureOfHas 18 = .ok (.aload_n 1, 1) := dz_43 (b_1 bX8_failureOfHas (by decide +kernel))
theorem dX8_failureOfHas_19 : decode cX8_failureOfHas 19 = .ok (.getfield 308, 3) := dz_180 (b_3 (a := 1) (b := 52) bX8_failureOfHas (by decide +kernel))
theorem dX8_failureOfHas_22 : decode cX8_failureOfHas 22 = .ok (.iconst 0, 1) := dz_3 (b_1 bX8_failureOfHas (by decide +kernel))
theorem dX8_failureOfHas_23 : decode cX8_failureOfHas 23 = .ok (.invokevirtual 305, 3) := dz_182 (b_3 (a := 1) (b := 49) bX8_failureOfHas (by decide +kernel))
theorem dX8_failureOfHas_26 : decode cX8_failureOfHas 26 = .ok (.ifCond .ne 5, 3) := dz_154 (b_3 (a := 0) (b := 5) bX8_failureOfHas (by decide +kernel)) (by decide +kernel)
theorem dX8_failureOfHas_29 : decode cX8_failureOfHas 29 = .ok (.iconst 4, 1) := dz_7 (b_1 bX8_failureOfHas (by decide +kernel))
theorem dX8_failureOfHas_30 : decode cX8_failureOfHas 30 = .ok (.ireturn, 1) := dz_172 (b_1 bX8_failureOfHas (by decide +kernel))
theorem dX8_failureOfHas_31 : decode cX8_failureOfHas 31 = .ok (.aload_n 0, 1) := dz_42 (b_1 bX8_failureOfHas (by decide +kernel))
theorem dX8_failureOfHas_32 : decode cX8_failureOfHas 32 = .ok (.getfield 158, 3) := dz_180 (b_3 (a := 0) (b := 158) bX8_failureOfHas (by decide +kernel))
theorem dX8_failureOfHas_35 : decode cX8_failureOfHas 35 = .ok (.aload_n 1, 1) := dz_43 (b_1 bX8_failureOfHas (by decide +kernel))
theorem dX8_failureOfHas_36 : decode cX8_failureOfHas 36 = .ok (.getfield 302, 3) := dz_180 (b_3 (a := 1) (b := 46) bX8_failureOfHas (by decide +kernel))
theorem dX8_failureOfHas_39 : decode cX8_failureOfHas 39 = .ok (.aaload, 1) := dz_50 (b_1 bX8_failureOfHas (by decide +kernel))
theorem dX8_failureOfHas_40 : decode cX8_failureOfHas 40 = .ok (.astore_n 2, 1) := dz_77 (b_1 bX8_failureOfHas (by decide +kernel))
theorem dX8_failureOfHas_41 : decode cX8_failureOfHas 41 = .ok (.aload_n 2, 1) := dz_44 (b_1 bX8_failureOfHas (by decide +kernel))
theorem dX8_failureOfHas_42 : decode cX8_failureOfHas 42 = .ok (.ifnonnull 5, 3) := dz_199 (b_3 (a := 0) (b := 5) bX8_failureOfHas (by decide +kernel)) (by decide +kernel)
theorem dX8_failureOfHas_45 : decode cX8_failureOfHas 45 = .ok (.iconst 1, 1) := dz_4 (b_1 bX8_failureOfHas (by decide +kernel))
theorem dX8_failureOfHas_46 : decode cX8_failureOfHas 46 = .ok (.ireturn, 1) := dz_172 (b_1 bX8_failureOfHas (by decide +kernel))
theorem dX8_failureOfHas_47 : decode cX8_failureOfHas 47 = .ok (.aload_n 0, 1) := dz_42 (b_1 bX8_failureOfHas (by decide +kernel))
theorem dX8_failureOfHas_48 : decode cX8_failureOfHas 48 = .ok (.getfield 193, 3) := dz_180 (b_3 (a := 0) (b := 193) bX8_failureOfHas (by decide +kernel))
theorem dX8_failureOfHas_51 : decode cX8_failureOfHas 51 = .ok (.aload_n 1, 1) := dz_43 (b_1 bX8_failureOfHas (by decide +kernel))
theorem dX8_failureOfHas_52 : decode cX8_failureOfHas 52 = .ok (.getfield 308, 3) := dz_180 (b_3 (a := 1) (b := 52) bX8_failureOfHas (by decide +kernel))
theorem dX8_failureOfHas_55 : decode cX8_failureOfHas 55 = .ok (.laload, 1) := dz_47 (b_1 bX8_failureOfHas (by decide +kernel))
theorem dX8_failureOfHas_56 : decode cX8_failureOfHas 56 = .ok (.lstore_n 3, 1) := dz_66 (b_1 bX8_failureOfHas (by decide +kernel))
theorem dX8_failureOfHas_57 : decode cX8_failureOfHas 57 = .ok (.lload_n 3, 1) := dz_33 (b_1 bX8_failureOfHas (by decide +kernel))
theorem dX8_failureOfHas_58 : decode cX8_failureOfHas 58 = .ok (.lconst 0, 1) := dz_9 (b_1 bX8_failureOfHas (by decide +kernel))
theorem dX8_failureOfHas_59 : decode cX8_failureOfHas 59 = .ok (.lcmp, 1) := dz_148 (b_1 bX8_failureOfHas (by decide +kernel))
theorem dX8_failureOfHas_60 : decode cX8_failureOfHas 60 = .ok (.ifCond .lt 14, 3) := dz_155 (b_3 (a := 0) (b := 14) bX8_failureOfHas (by decide +kernel)) (by decide +kernel)
theorem dX8_failureOfHas_63 : decode cX8_failureOfHas 63 = .ok (.lload_n 3, 1) := dz_33 (b_1 bX8_failureOfHas (by decide +kernel))
theorem dX8_failureOfHas_64 : decode cX8_failureOfHas 64 = .ok (.aload_n 2, 1) := dz_44 (b_1 bX8_failureOfHas (by decide +kernel))
theorem dX8_failureOfHas_65 : decode cX8_failureOfHas 65 = .ok (.getfield 161, 3) := dz_180 (b_3 (a := 0) (b := 161) bX8_failureOfHas (by decide +kernel))
theorem dX8_failureOfHas_68 : decode cX8_failureOfHas 68 = .ok (.arraylength, 1) := dz_190 (b_1 bX8_failureOfHas (by decide +kernel))
theorem dX8_failureOfHas_69 : decode cX8_failureOfHas 69 = .ok (.i2l, 1) := dz_133 (b_1 bX8_failureOfHas (by decide +kernel))
theorem dX8_failureOfHas_70 : decode cX8_failureOfHas 70 = .ok (.lcmp, 1) := dz_148 (b_1 bX8_failureOfHas (by decide +kernel))
theorem dX8_failureOfHas_71 : decode cX8_failureOfHas 71 = .ok (.ifCond .lt 5, 3) := dz_155 (b_3 (a := 0) (b := 5) bX8_failureOfHas (by decide +kernel)) (by decide +kernel)
theorem dX8_failureOfHas_74 : decode cX8_failureOfHas 74 = .ok (.iconst 2, 1) := dz_5 (b_1 bX8_failureOfHas (by decide +kernel))
theorem dX8_failureOfHas_75 : decode cX8_failureOfHas 75 = .ok (.ireturn, 1) := dz_172 (b_1 bX8_failureOfHas (by decide +kernel))
theorem dX8_failureOfHas_76 : decode cX8_failureOfHas 76 = .ok (.aload_n 2, 1) := dz_44 (b_1 bX8_failureOfHas (by decide +kernel))
theorem dX8_failureOfHas_77 : decode cX8_failureOfHas 77 = .ok (.getfield 161, 3) := dz_180 (b_3 (a := 0) (b := 161) bX8_failureOfHas (by decide +kernel))
theorem dX8_failureOfHas_80 : decode cX8_failureOfHas 80 = .ok (.lload_n 3, 1) := dz_33 (b_1 bX8_failureOfHas (by decide +kernel))
theorem dX8_failureOfHas_81 : decode cX8_failureOfHas 81 = .ok (.l2i, 1) := dz_136 (b_1 bX8_failureOfHas (by decide +kernel))
theorem dX8_failureOfHas_82 : decode cX8_failureOfHas 82 = .ok (.laload, 1) := dz_47 (b_1 bX8_failureOfHas (by decide +kernel))
theorem dX8_failureOfHas_83 : decode cX8_failureOfHas 83 = .ok (.aload_n 1, 1) := dz_43 (b_1 bX8_failureOfHas (by decide +kernel))
theorem dX8_failureOfHas_84 : decode cX8_failureOfHas 84 = .ok (.getfield 311, 3) := dz_180 (b_3 (a := 1) (b := 55) bX8_failureOfHas (by decide +kernel))
theorem dX8_failureOfHas_87 : decode cX8_failureOfHas 87 = .ok (.lcmp, 1) := dz_148 (b_1 bX8_failureOfHas (by decide +kernel))
theorem dX8_failureOfHas_88 : decode cX8_failureOfHas 88 = .ok (.ifCond .le 7, 3) := dz_158 (b_3 (a := 0) (b := 7) bX8_failureOfHas (by decide +kernel)) (by decide +kernel)
theorem dX8_failureOfHas_91 : decode cX8_failureOfHas 91 = .ok (.iconst 0, 1) := dz_3 (b_1 bX8_failureOfHas (by decide +kernel))
theorem dX8_failureOfHas_92 : decode cX8_failureOfHas 92 = .ok (.goto 5, 3) := dz_167 (b_3 (a := 0) (b := 5) bX8_failureOfHas (by decide +kernel)) (by decide +kernel)
theorem dX8_failureOfHas_95 : decode cX8_failureOfHas 95 = .ok (.bipush 6, 2) := dz_16 (b_2 (a := 6) bX8_failureOfHas (by decide +kernel)) (by decide +kernel)
theorem dX8_failureOfHas_97 : decode cX8_failureOfHas 97 = .ok (.ireturn, 1) := dz_172 (b_1 bX8_failureOfHas (by decide +kernel))
theorem gj_X8_failureOfHolds_0 : GpS ([.fieldLink RX8 97 "StateRecords$Thing" "type" "LStateRecords$Type;", .fieldLink RX8 302 "StateRecords$Check" "a" "I", .fieldLink RX8 193 "StateRecords$Thing" "values" "[J", .constantLong RX8 318 (12), .methodLink RX8 305 yX7_hasLane, .instanceMethod yX7_hasLane, .selects RX7 yX7_hasLane yX7_hasLane, .initialized RX7, .code yX7_hasLane cX7_hasLane 3 (some .boolean), .fieldLink RX7 15 "StateRecords$Type" "lanes" "[I", .methodLink RX7 43 yX7_hasField, .instanceMethod yX7_hasField, .selects RX7 yX7_hasField yX7_hasField, .code yX7_hasField cX7_hasField 2 (some .boolean), .fieldLink RX7 36 "StateRecords$Type" "fieldCount" "I", .static yX8_isBelow, .initialized RX8, .code yX8_isBelow cX8_isBelow 2 (some .boolean)]) wsX8_failureOfHolds := fun w h => List.mem_cons_of_mem _ (List.mem_append_left _ (List.mem_append_left _ (List.mem_append_left _ (h))))
theorem gj_X8_failureOfHolds_3 : GpS (wsX70) wsX8_failureOfHolds := fun w h => List.mem_cons_of_mem _ (List.mem_append_right _ (h))
set_option maxRecDepth 20000 in
theorem ggX8_failureOfHolds_X7_hasLane : GoodIn wsX8_failureOfHolds wsX7_hasLane := gp_s (gp_c (gj_X8_failureOfHolds_0 _ (gp_4 (gp_4 gp_h))) (gp_a (gp_c (gj_X8_failureOfHolds_0 _ (gp_4 (gp_4 (gp_1 gp_h)))) (gp_c (gj_X8_failureOfHolds_0 _ (gp_4 (gp_4 (gp_1 (gp_1 gp_h))))) (gp_c (gj_X8_failureOfHolds_0 _ (gp_4 (gp_4 (gp_1 (gp_1 (gp_1 gp_h)))))) (gp_c (gj_X8_failureOfHolds_0 _ (gp_4 (gp_4 (gp_4 gp_h)))) (gp_c (gj_X8_failureOfHolds_0 _ (gp_4 (gp_1 (gp_1 (gp_1 gp_h))))) (gp_c (gj_X8_failureOfHolds_0 _ (gp_4 (gp_4 (gp_4 (gp_1 gp_h))))) (gp_c (gj_X8_failureOfHolds_0 _ (gp_4 (gp_4 (gp_4 (gp_1 (gp_1 gp_h)))))) (gp_c (gj_X8_failureOfHolds_0 _ (gp_4 (gp_4 (gp_4 (gp_1 (gp_1 (gp_1 gp_h))))))) (gp_c (gj_X8_failureOfHolds_0 _ (gp_16 gp_h)) (gp_c (gj_X8_failureOfHolds_0 _ (gp_16 (gp_1 gp_h))) (gp_n))))))))))) (gj_X8_failureOfHolds_3))) gb_X7_hasLane
set_option maxRecDepth 20000 in
theorem gX8_failureOfHolds_X7_hasLane : GoodIn wsX8_failureOfHolds (wsV RX8 305 RX7 yX7_hasLane wsX7_hasLane) := goodIn_app (gp_s (gp_c (gj_X8_failureOfHolds_0 _ (gp_4 gp_h)) (gp_c (gj_X8_failureOfHolds_0 _ (gp_4 (gp_1 gp_h))) (gp_c (gj_X8_failureOfHolds_0 _ (gp_4 (gp_1 (gp_1 gp_h)))) (gp_c (gj_X8_failureOfHolds_0 _ (gp_4 (gp_1 (gp_1 (gp_1 gp_h))))) (gp_n))))) (gp_v)) ggX8_failureOfHolds_X7_hasLane
noncomputable def nX8_failureOfHolds : Nat := 0xac030400a70607009c940920ac061006009e943e011420412f2e01b42bc100b42aac0705009a3101b6032e01b42b6100b42a
theorem bX8_failureOfHolds : Bts cX8_failureOfHolds nX8_failureOfHolds 50 := by unfold Bts; decide +kernel
theorem dX8_failureOfHolds_0 : decode cX8_failureOfHolds 0 = .ok (.aload_n 0, 1) := dz_42 (b_1 bX8_failureOfHolds (by decide +kernel))
theorem dX8_failureOfHolds_1 : decode cX8_failureOfHolds 1 = .ok (.getfield 97, 3) := dz_180 (b_3 (a := 0) (b := 97) bX8_failureOfHolds (by decide +kernel))
theorem dX8_failureOfHolds_4 : decode cX8_failureOfHolds 4 = .ok (.aload_n 1, 1) := dz_43 (b_1 bX8_failureOfHolds (by decide +kernel))
theorem dX8_failureOfHolds_5 : decode cX8_failureOfHolds 5 = .ok (.getfield 302, 3) := dz_180 (b_3 (a := 1) (b := 46) bX8_failureOfHolds (by decide +kernel))
theorem dX8_failureOfHolds_8 : decode cX8_failureOfHolds 8 = .ok (.iconst 0, 1) := dz_3 (b_1 bX8_failureOfHolds (by decide +kernel))
theorem dX8_failureOfHolds_9 : decode cX8_failureOfHolds 9 = .ok (.invokevirtual 305, 3) := dz_182 (b_3 (a := 1) (b := 49) bX8_failureOfHolds (by decide +kernel))
theorem dX8_failureOfHolds_12 : decode cX8_failureOfHolds 12 = .ok (.ifCond .ne 5, 3) := dz_154 (b_3 (a := 0) (b := 5) bX8_failureOfHolds (by decide +kernel)) (by decide +kernel)
theorem dX8_failureOfHolds_15 : decode cX8_failureOfHolds 15 = .ok (.iconst 4, 1) := dz_7 (b_1 bX8_failureOfHolds (by decide +kernel))
theorem dX8_failureOfHolds_16 : decode cX8_failureOfHolds 16 = .ok (.ireturn, 1) := dz_172 (b_1 bX8_failureOfHolds (by decide +kernel))
theorem dX8_failureOfHolds_17 : decode cX8_failureOfHolds 17 = .ok (.aload_n 0, 1) := dz_42 (b_1 bX8_failureOfHolds (by decide +kernel))
theorem dX8_failureOfHolds_18 : decode cX8_failureOfHolds 18 = .ok (.getfield 193, 3) := dz_180 (b_3 (a := 0) (b := 193) bX8_failureOfHolds (by decide +kernel))
theorem dX8_failureOfHolds_21 : decode cX8_failureOfHolds 21 = .ok (.aload_n 1, 1) := dz_43 (b_1 bX8_failureOfHolds (by decide +kernel))
theorem dX8_failureOfHolds_22 : decode cX8_failureOfHolds 22 = .ok (.getfield 302, 3) := dz_180 (b_3 (a := 1) (b := 46) bX8_failureOfHolds (by decide +kernel))
theorem dX8_failureOfHolds_25 : decode cX8_failureOfHolds 25 = .ok (.laload, 1) := dz_47 (b_1 bX8_failureOfHolds (by decide +kernel))
theorem dX8_failureOfHolds_26 : decode cX8_failureOfHolds 26 = .ok (.lstore_n 2, 1) := dz_65 (b_1 bX8_failureOfHolds (by decide +kernel))
theorem dX8_failureOfHolds_27 : decode cX8_failureOfHolds 27 = .ok (.lload_n 2, 1) := dz_32 (b_1 bX8_failureOfHolds (by decide +kernel))
theorem dX8_failureOfHolds_28 : decode cX8_failureOfHolds 28 = .ok (.ldc2_w 318, 3) := dz_20 (b_3 (a := 1) (b := 62) bX8_failureOfHolds (by decide +kernel))
theorem dX8_failureOfHolds_31 : decode cX8_failureOfHolds 31 = .ok (.lcmp, 1) := dz_148 (b_1 bX8_failureOfHolds (by decide +kernel))
theorem dX8_failureOfHolds_32 : decode cX8_failureOfHolds 32 = .ok (.ifCond .le 6, 3) := dz_158 (b_3 (a := 0) (b := 6) bX8_failureOfHolds (by decide +kernel)) (by decide +kernel)
theorem dX8_failureOfHolds_35 : decode cX8_failureOfHolds 35 = .ok (.bipush 6, 2) := dz_16 (b_2 (a := 6) bX8_failureOfHolds (by decide +kernel)) (by decide +kernel)
theorem dX8_failureOfHolds_37 : decode cX8_failureOfHolds 37 = .ok (.ireturn, 1) := dz_172 (b_1 bX8_failureOfHolds (by decide +kernel))
theorem dX8_failureOfHolds_38 : decode cX8_failureOfHolds 38 = .ok (.lload_n 2, 1) := dz_32 (b_1 bX8_failureOfHolds (by decide +kernel))
theorem dX8_failureOfHolds_39 : decode cX8_failureOfHolds 39 = .ok (.lconst 0, 1) := dz_9 (b_1 bX8_failureOfHolds (by decide +kernel))
theorem dX8_failureOfHolds_40 : decode cX8_failureOfHolds 40 = .ok (.lcmp, 1) := dz_148 (b_1 bX8_failureOfHolds (by decide +kernel))
theorem dX8_failureOfHolds_41 : decode cX8_failureOfHolds 41 = .ok (.ifCond .ge 7, 3) := dz_156 (b_3 (a := 0) (b := 7) bX8_failureOfHolds (by decide +kernel)) (by decide +kernel)
theorem dX8_failureOfHolds_44 : decode cX8_failureOfHolds 44 = .ok (.iconst 3, 1) := dz_6 (b_1 bX8_failureOfHolds (by decide +kernel))
theorem dX8_failureOfHolds_45 : decode cX8_failureOfHolds 45 = .ok (.goto 4, 3) := dz_167 (b_3 (a := 0) (b := 4) bX8_failureOfHolds (by decide +kernel)) (by decide +kernel)
theorem dX8_failureOfHolds_48 : decode cX8_failureOfHolds 48 = .ok (.iconst 0, 1) := dz_3 (b_1 bX8_failureOfHolds (by decide +kernel))
theorem dX8_failureOfHolds_49 : decode cX8_failureOfHolds 49 = .ok (.ireturn, 1) := dz_172 (b_1 bX8_failureOfHolds (by decide +kernel))
theorem gj_X8_failureOfLeast_0 : GpS ([.fieldLink RX8 97 "StateRecords$Thing" "type" "LStateRecords$Type;", .fieldLink RX8 302 "StateRecords$Check" "a" "I", .fieldLink RX8 193 "StateRecords$Thing" "values" "[J", .fieldLink RX8 311 "StateRecords$Check" "v" "J", .methodLink RX8 305 yX7_hasLane, .instanceMethod yX7_hasLane, .selects RX7 yX7_hasLane yX7_hasLane, .initialized RX7, .code yX7_hasLane cX7_hasLane 3 (some .boolean), .fieldLink RX7 15 "StateRecords$Type" "lanes" "[I", .methodLink RX7 43 yX7_hasField, .instanceMethod yX7_hasField, .selects RX7 yX7_hasField yX7_hasField, .code yX7_hasField cX7_hasField 2 (some .boolean), .fieldLink RX7 36 "StateRecords$Type" "fieldCount" "I", .static yX8_isBelow, .initialized RX8, .code yX8_isBelow cX8_isBelow 2 (some .boolean)]) wsX8_failureOfLeast := fun w h => List.mem_cons_of_mem _ (List.mem_append_left _ (List.mem_append_left _ (List.mem_append_left _ (h))))
theorem gj_X8_failureOfLeast_3 : GpS (wsX70) wsX8_failureOfLeast := fun w h => List.mem_cons_of_mem _ (List.mem_append_right _ (h))
set_option maxRecDepth 20000 in
theorem ggX8_failureOfLeast_X7_hasLane : GoodIn wsX8_failureOfLeast wsX7_hasLane := gp_s (gp_c (gj_X8_failureOfLeast_0 _ (gp_4 (gp_4 gp_h))) (gp_a (gp_c (gj_X8_failureOfLeast_0 _ (gp_4 (gp_4 (gp_1 gp_h)))) (gp_c (gj_X8_failureOfLeast_0 _ (gp_4 (gp_4 (gp_1 (gp_1 gp_h))))) (gp_c (gj_X8_failureOfLeast_0 _ (gp_4 (gp_4 (gp_1 (gp_1 (gp_1 gp_h)))))) (gp_c (gj_X8_failureOfLeast_0 _ (gp_4 (gp_4 (gp_4 gp_h)))) (gp_c (gj_X8_failureOfLeast_0 _ (gp_4 (gp_1 (gp_1 (gp_1 gp_h))))) (gp_c (gj_X8_failureOfLeast_0 _ (gp_4 (gp_4 (gp_4 (gp_1 gp_h))))) (gp_c (gj_X8_failureOfLeast_0 _ (gp_4 (gp_4 (gp_4 (gp_1 (gp_1 gp_h)))))) (gp_c (gj_X8_failureOfLeast_0 _ (gp_4 (gp_4 (gp_4 (gp_1 (gp_1 (gp_1 gp_h))))))) (gp_c (gj_X8_failureOfLeast_0 _ (gp_16 gp_h)) (gp_c (gj_X8_failureOfLeast_0 _ (gp_16 (gp_1 gp_h))) (gp_n))))))))))) (gj_X8_failureOfLeast_3))) gb_X7_hasLane
set_option maxRecDepth 20000 in
theorem gX8_failureOfLeast_X7_hasLane : GoodIn wsX8_failureOfLeast (wsV RX8 305 RX7 yX7_hasLane wsX7_hasLane) := goodIn_app (gp_s (gp_c (gj_X8_failureOfLeast_0 _ (gp_4 gp_h)) (gp_c (gj_X8_failureOfLeast_0 _ (gp_4 (gp_1 gp_h))) (gp_c (gj_X8_failureOfLeast_0 _ (gp_4 (gp_1 (gp_1 gp_h)))) (gp_c (gj_X8_failureOfLeast_0 _ (gp_4 (gp_1 (gp_1 (gp_1 gp_h))))) (gp_n))))) (gp_v)) ggX8_failureOfLeast_X7_hasLane
noncomputable def nX8_failureOfLeast : Nat := 0xac030400a7061008009c943701b42b2f2e01b42bc100b42aac0705009a3101b6032e01b42b6100b42a
theorem bX8_failureOfLeast : Bts cX8_failureOfLeast nX8_failureOfLeast 41 := by unfold Bts; decide +kernel
theorem dX8_failureOfLeast_0 : decode cX8_failureOfLeast 0 = .ok (.aload_n 0, 1) := dz_42 (b_1 bX8_failureOfLeast (by decide +kernel))
theorem dX8_failureOfLeast_1 : decode cX8_failureOfLeast 1 = .ok (.getfield 97, 3) := dz_180 (b_3 (a := 0) (b := 97) bX8_failureOfLeast (by decide +kernel))
theorem dX8_failureOfLeast_4 : decode cX8_failureOfLeast 4 = .ok (.aload_n 1, 1) := dz_43 (b_1 bX8_failureOfLeast (by decide +kernel))
theorem dX8_failureOfLeast_5 : decode cX8_failureOfLeast 5 = .ok (.getfield 302, 3) := dz_180 (b_3 (a := 1) (b := 46) bX8_failureOfLeast (by decide +kernel))
theorem dX8_failureOfLeast_8 : decode cX8_failureOfLeast 8 = .ok (.iconst 0, 1) := dz_3 (b_1 bX8_failureOfLeast (by decide +kernel))
theorem dX8_failureOfLeast_9 : decode cX8_failureOfLeast 9 = .ok (.invokevirtual 305, 3) := dz_182 (b_3 (a := 1) (b := 49) bX8_failureOfLeast (by decide +kernel))
theorem dX8_failureOfLeast_12 : decode cX8_failureOfLeast 12 = .ok (.ifCond .ne 5, 3) := dz_154 (b_3 (a := 0) (b := 5) bX8_failureOfLeast (by decide +kernel)) (by decide +kernel)
theorem dX8_failureOfLeast_15 : decode cX8_failureOfLeast 15 = .ok (.iconst 4, 1) := dz_7 (b_1 bX8_failureOfLeast (by decide +kernel))
theorem dX8_failureOfLeast_16 : decode cX8_failureOfLeast 16 = .ok (.ireturn, 1) := dz_172 (b_1 bX8_failureOfLeast (by decide +kernel))
theorem dX8_failureOfLeast_17 : decode cX8_failureOfLeast 17 = .ok (.aload_n 0, 1) := dz_42 (b_1 bX8_failureOfLeast (by decide +kernel))
theorem dX8_failureOfLeast_18 : decode cX8_failureOfLeast 18 = .ok (.getfield 193, 3) := dz_180 (b_3 (a := 0) (b := 193) bX8_failureOfLeast (by decide +kernel))
theorem dX8_failureOfLeast_21 : decode cX8_failureOfLeast 21 = .ok (.aload_n 1, 1) := dz_43 (b_1 bX8_failureOfLeast (by decide +kernel))
theorem dX8_failureOfLeast_22 : decode cX8_failureOfLeast 22 = .ok (.getfield 302, 3) := dz_180 (b_3 (a := 1) (b := 46) bX8_failureOfLeast (by decide +kernel))
theorem dX8_failureOfLeast_25 : decode cX8_failureOfLeast 25 = .ok (.laload, 1) := dz_47 (b_1 bX8_failureOfLeast (by decide +kernel))
theorem dX8_failureOfLeast_26 : decode cX8_failureOfLeast 26 = .ok (.aload_n 1, 1) := dz_43 (b_1 bX8_failureOfLeast (by decide +kernel))
theorem dX8_failureOfLeast_27 : decode cX8_failureOfLeast 27 = .ok (.getfield 311, 3) := dz_180 (b_3 (a := 1) (b := 55) bX8_failureOfLeast (by decide +kernel))
theorem dX8_failureOfLeast_30 : decode cX8_failureOfLeast 30 = .ok (.lcmp, 1) := dz_148 (b_1 bX8_failureOfLeast (by decide +kernel))
theorem dX8_failureOfLeast_31 : decode cX8_failureOfLeast 31 = .ok (.ifCond .ge 8, 3) := dz_156 (b_3 (a := 0) (b := 8) bX8_failureOfLeast (by decide +kernel)) (by decide +kernel)
theorem dX8_failureOfLeast_34 : decode cX8_failureOfLeast 34 = .ok (.bipush 6, 2) := dz_16 (b_2 (a := 6) bX8_failureOfLeast (by decide +kernel)) (by decide +kernel)
theorem dX8_failureOfLeast_36 : decode cX8_failureOfLeast 36 = .ok (.goto 4, 3) := dz_167 (b_3 (a := 0) (b := 4) bX8_failureOfLeast (by decide +kernel)) (by decide +kernel)
theorem dX8_failureOfLeast_39 : decode cX8_failureOfLeast 39 = .ok (.iconst 0, 1) := dz_3 (b_1 bX8_failureOfLeast (by decide +kernel))
theorem dX8_failureOfLeast_40 : decode cX8_failureOfLeast 40 = .ok (.ireturn, 1) := dz_172 (b_1 bX8_failureOfLeast (by decide +kernel))
theorem gj_X8_failureOfLeads_0 : GpS (wsX8_failureOfLeads_r1) wsX8_failureOfLeads := fun w h => List.mem_cons_of_mem _ (List.mem_append_left _ (List.mem_append_left _ (List.mem_append_left _ (List.mem_append_left _ (List.mem_append_left _ (h))))))
theorem gj_X8_failureOfLeads_4 : GpS (wsX70) wsX8_failureOfLeads := fun w h => List.mem_cons_of_mem _ (List.mem_append_left _ (List.mem_append_right _ (h)))
set_option maxRecDepth 20000 in
theorem ggX8_failureOfLeads_X7_hasLane : GoodIn wsX8_failureOfLeads wsX7_hasLane := gp_s (gp_c (gj_X8_failureOfLeads_0 _ (gp_4 (gp_4 gp_h))) (gp_a (gp_c (gj_X8_failureOfLeads_0 _ (gp_4 (gp_4 (gp_1 gp_h)))) (gp_c (gj_X8_failureOfLeads_0 _ (gp_4 (gp_4 (gp_1 (gp_1 gp_h))))) (gp_c (gj_X8_failureOfLeads_0 _ (gp_4 (gp_4 (gp_1 (gp_1 (gp_1 gp_h)))))) (gp_c (gj_X8_failureOfLeads_0 _ (gp_4 (gp_4 (gp_4 gp_h)))) (gp_c (gj_X8_failureOfLeads_0 _ (gp_4 (gp_1 (gp_1 (gp_1 gp_h))))) (gp_c (gj_X8_failureOfLeads_0 _ (gp_4 (gp_4 (gp_4 (gp_1 gp_h))))) (gp_c (gj_X8_failureOfLeads_0 _ (gp_4 (gp_4 (gp_4 (gp_1 (gp_1 gp_h)))))) (gp_c (gj_X8_failureOfLeads_0 _ (gp_4 (gp_4 (gp_4 (gp_1 (gp_1 (gp_1 gp_h))))))) (gp_c (gj_X8_failureOfLeads_0 _ (gp_16 gp_h)) (gp_c (gj_X8_failureOfLeads_0 _ (gp_16 (gp_1 gp_h))) (gp_n))))))))))) (gj_X8_failureOfLeads_4))) gb_X7_hasLane
set_option maxRecDepth 20000 in
theorem gX8_failureOfLeads_X7_hasLane : GoodIn wsX8_failureOfLeads (wsV RX8 305 RX7 yX7_hasLane wsX7_hasLane) := goodIn_app (gp_s (gp_c (gj_X8_failureOfLeads_0 _ (gp_4 gp_h)) (gp_c (gj_X8_failureOfLeads_0 _ (gp_4 (gp_1 gp_h))) (gp_c (gj_X8_failureOfLeads_0 _ (gp_4 (gp_1 (gp_1 gp_h)))) (gp_c (gj_X8_failureOfLeads_0 _ (gp_4 (gp_1 (gp_1 (gp_1 gp_h))))) (gp_n))))) (gp_v)) ggX8_failureOfLeads_X7_hasLane
theorem gj_X8_failureOfLeads_5 : GpS (wsX80) wsX8_failureOfLeads := fun w h => List.mem_cons_of_mem _ (List.mem_append_right _ (h))
set_option maxRecDepth 20000 in
theorem ggX8_failureOfLeads_X8_thingNumbered : GoodIn wsX8_failureOfLeads wsX8_thingNumbered := gp_s (gp_c (gj_X8_failureOfLeads_0 _ (gp_16 (gp_4 (gp_1 gp_h)))) (gp_a (gp_c (gj_X8_failureOfLeads_0 _ (gp_16 (gp_4 (gp_1 (gp_1 gp_h))))) (gp_c (gj_X8_failureOfLeads_0 _ (gp_16 (gp_4 (gp_1 (gp_1 (gp_1 gp_h)))))) (gp_n))) (gj_X8_failureOfLeads_5))) gb_X8_thingNumbered
set_option maxRecDepth 20000 in
theorem gX8_failureOfLeads_X8_thingNumbered : GoodIn wsX8_failureOfLeads (wsV RX8 177 RX8 yX8_thingNumbered wsX8_thingNumbered) := goodIn_app (gp_s (gp_c (gj_X8_failureOfLeads_0 _ (gp_16 (gp_1 (gp_1 gp_h)))) (gp_c (gj_X8_failureOfLeads_0 _ (gp_16 (gp_1 (gp_1 (gp_1 gp_h))))) (gp_c (gj_X8_failureOfLeads_0 _ (gp_16 (gp_4 gp_h))) (gp_c (gj_X8_failureOfLeads_0 _ (gp_16 gp_h)) (gp_n))))) (gp_v)) ggX8_failureOfLeads_X8_thingNumbered
theorem gj_X8_failureOfLeads_1 : GpS (wsX8_failureOfLeads_r2) wsX8_failureOfLeads := fun w h => List.mem_cons_of_mem _ (List.mem_append_left _ (List.mem_append_left _ (List.mem_append_left _ (List.mem_append_left _ (List.mem_append_right _ (h))))))
set_option maxRecDepth 20000 in
theorem ggX8_failureOfLeads_X7_fieldNamed : GoodIn wsX8_failureOfLeads wsX7_fieldNamed := gp_s (gp_c (gj_X8_failureOfLeads_1 _ (gp_1 (gp_1 (gp_1 gp_h)))) (gp_a (gp_c (gj_X8_failureOfLeads_0 _ (gp_4 (gp_4 (gp_4 (gp_1 (gp_1 gp_h)))))) (gp_c (gj_X8_failureOfLeads_1 _ (gp_4 gp_h)) (gp_n))) (gj_X8_failureOfLeads_4))) gb_X7_fieldNamed
set_option maxRecDepth 20000 in
theorem gX8_failureOfLeads_X7_fieldNamed : GoodIn wsX8_failureOfLeads (wsV RX8 78 RX7 yX7_fieldNamed wsX7_fieldNamed) := goodIn_app (gp_s (gp_c (gj_X8_failureOfLeads_1 _ (gp_h)) (gp_c (gj_X8_failureOfLeads_1 _ (gp_1 gp_h)) (gp_c (gj_X8_failureOfLeads_1 _ (gp_1 (gp_1 gp_h))) (gp_c (gj_X8_failureOfLeads_0 _ (gp_4 (gp_1 (gp_1 (gp_1 gp_h))))) (gp_n))))) (gp_v)) ggX8_failureOfLeads_X7_fieldNamed
noncomputable def nX8_failureOfLeads : Nat := 0xac030400a7040700c7b100b62f0415c100b42d2aac0705009a3101b60504156100b42d04364e00b62e2e01b42c4001b46100b42b6100b42dac040500c72d4eb100b62f2e01b42cc100b42b2aac0705009a3101b6052e01b42c6100b42b
theorem bX8_failureOfLeads : Bts cX8_failureOfLeads nX8_failureOfLeads 93 := by unfold Bts; decide +kernel
theorem dX8_failureOfLeads_0 : decode cX8_failureOfLeads 0 = .ok (.aload_n 1, 1) := dz_43 (b_1 bX8_failureOfLeads (by decide +kernel))
theorem dX8_failureOfLeads_1 : decode cX8_failureOfLeads 1 = .ok (.getfield 97, 3) := dz_180 (b_3 (a := 0) (b := 97) bX8_failureOfLeads (by decide +kernel))
theorem dX8_failureOfLeads_4 : decode cX8_failureOfLeads 4 = .ok (.aload_n 2, 1) := dz_44 (b_1 bX8_failureOfLeads (by decide +kernel))
theorem dX8_failureOfLeads_5 : decode cX8_failureOfLeads 5 = .ok (.getfield 302, 3) := dz_180 (b_3 (a := 1) (b := 46) bX8_failureOfLeads (by decide +kernel))
theorem dX8_failureOfLeads_8 : decode cX8_failureOfLeads 8 = .ok (.iconst 2, 1) := dz_5 (b_1 bX8_failureOfLeads (by decide +kernel))
theorem dX8_failureOfLeads_9 : decode cX8_failureOfLeads 9 = .ok (.invokevirtual 305, 3) := dz_182 (b_3 (a := 1) (b := 49) bX8_failureOfLeads (by decide +kernel))
theorem dX8_failureOfLeads_12 : decode cX8_failureOfLeads 12 = .ok (.ifCond .ne 5, 3) := dz_154 (b_3 (a := 0) (b := 5) bX8_failureOfLeads (by decide +kernel)) (by decide +kernel)
theorem dX8_failureOfLeads_15 : decode cX8_failureOfLeads 15 = .ok (.iconst 4, 1) := dz_7 (b_1 bX8_failureOfLeads (by decide +kernel))
theorem dX8_failureOfLeads_16 : decode cX8_failureOfLeads 16 = .ok (.ireturn, 1) := dz_172 (b_1 bX8_failureOfLeads (by decide +kernel))
theorem dX8_failureOfLeads_17 : decode cX8_failureOfLeads 17 = .ok (.aload_n 0, 1) := dz_42 (b_1 bX8_failureOfLeads (by decide +kernel))
theorem dX8_failureOfLeads_18 : decode cX8_failureOfLeads 18 = .ok (.aload_n 1, 1) := dz_43 (b_1 bX8_failureOfLeads (by decide +kernel))
theorem dX8_failureOfLeads_19 : decode cX8_failureOfLeads 19 = .ok (.getfield 193, 3) := dz_180 (b_3 (a := 0) (b := 193) bX8_failureOfLeads (by decide +kernel))
theorem dX8_failureOfLeads_22 : decode cX8_failureOfLeads 22 = .ok (.aload_n 2, 1) := dz_44 (b_1 bX8_failureOfLeads (by decide +kernel))
theorem dX8_failureOfLeads_23 : decode cX8_failureOfLeads 23 = .ok (.getfield 302, 3) := dz_180 (b_3 (a := 1) (b := 46) bX8_failureOfLeads (by decide +kernel))
theorem dX8_failureOfLeads_26 : decode cX8_failureOfLeads 26 = .ok (.laload, 1) := dz_47 (b_1 bX8_failureOfLeads (by decide +kernel))
theorem dX8_failureOfLeads_27 : decode cX8_failureOfLeads 27 = .ok (.invokevirtual 177, 3) := dz_182 (b_3 (a := 0) (b := 177) bX8_failureOfLeads (by decide +kernel))
theorem dX8_failureOfLeads_30 : decode cX8_failureOfLeads 30 = .ok (.astore_n 3, 1) := dz_78 (b_1 bX8_failureOfLeads (by decide +kernel))
theorem dX8_failureOfLeads_31 : decode cX8_failureOfLeads 31 = .ok (.aload_n 3, 1) := dz_45 (b_1 bX8_failureOfLeads (by decide +kernel))
theorem dX8_failureOfLeads_32 : decode cX8_failureOfLeads 32 = .ok (.ifnonnull 5, 3) := dz_199 (b_3 (a := 0) (b := 5) bX8_failureOfLeads (by decide +kernel)) (by decide +kernel)
theorem dX8_failureOfLeads_35 : decode cX8_failureOfLeads 35 = .ok (.iconst 1, 1) := dz_4 (b_1 bX8_failureOfLeads (by decide +kernel))
theorem dX8_failureOfLeads_36 : decode cX8_failureOfLeads 36 = .ok (.ireturn, 1) := dz_172 (b_1 bX8_failureOfLeads (by decide +kernel))
theorem dX8_failureOfLeads_37 : decode cX8_failureOfLeads 37 = .ok (.aload_n 3, 1) := dz_45 (b_1 bX8_failureOfLeads (by decide +kernel))
theorem dX8_failureOfLeads_38 : decode cX8_failureOfLeads 38 = .ok (.getfield 97, 3) := dz_180 (b_3 (a := 0) (b := 97) bX8_failureOfLeads (by decide +kernel))
theorem dX8_failureOfLeads_41 : decode cX8_failureOfLeads 41 = .ok (.aload_n 1, 1) := dz_43 (b_1 bX8_failureOfLeads (by decide +kernel))
theorem dX8_failureOfLeads_42 : decode cX8_failureOfLeads 42 = .ok (.getfield 97, 3) := dz_180 (b_3 (a := 0) (b := 97) bX8_failureOfLeads (by decide +kernel))
theorem dX8_failureOfLeads_45 : decode cX8_failureOfLeads 45 = .ok (.getfield 320, 3) := dz_180 (b_3 (a := 1) (b := 64) bX8_failureOfLeads (by decide +kernel))
theorem dX8_failureOfLeads_48 : decode cX8_failureOfLeads 48 = .ok (.aload_n 2, 1) := dz_44 (b_1 bX8_failureOfLeads (by decide +kernel))
theorem dX8_failureOfLeads_49 : decode cX8_failureOfLeads 49 = .ok (.getfield 302, 3) := dz_180 (b_3 (a := 1) (b := 46) bX8_failureOfLeads (by decide +kernel))
theorem dX8_failureOfLeads_52 : decode cX8_failureOfLeads 52 = .ok (.iaload, 1) := dz_46 (b_1 bX8_failureOfLeads (by decide +kernel))
theorem dX8_failureOfLeads_53 : decode cX8_failureOfLeads 53 = .ok (.invokevirtual 78, 3) := dz_182 (b_3 (a := 0) (b := 78) bX8_failureOfLeads (by decide +kernel))
theorem dX8_failureOfLeads_56 : decode cX8_failureOfLeads 56 = .ok (.istore 4, 2) := dz_54 (b_2 (a := 4) bX8_failureOfLeads (by decide +kernel))
theorem dX8_failureOfLeads_58 : decode cX8_failureOfLeads 58 = .ok (.aload_n 3, 1) := dz_45 (b_1 bX8_failureOfLeads (by decide +kernel))
theorem dX8_failureOfLeads_59 : decode cX8_failureOfLeads 59 = .ok (.getfield 97, 3) := dz_180 (b_3 (a := 0) (b := 97) bX8_failureOfLeads (by decide +kernel))
theorem dX8_failureOfLeads_62 : decode cX8_failureOfLeads 62 = .ok (.iload 4, 2) := dz_21 (b_2 (a := 4) bX8_failureOfLeads (by decide +kernel))
theorem dX8_failureOfLeads_64 : decode cX8_failureOfLeads 64 = .ok (.iconst 2, 1) := dz_5 (b_1 bX8_failureOfLeads (by decide +kernel))
theorem dX8_failureOfLeads_65 : decode cX8_failureOfLeads 65 = .ok (.invokevirtual 305, 3) := dz_182 (b_3 (a := 1) (b := 49) bX8_failureOfLeads (by decide +kernel))
theorem dX8_failureOfLeads_68 : decode cX8_failureOfLeads 68 = .ok (.ifCond .ne 5, 3) := dz_154 (b_3 (a := 0) (b := 5) bX8_failureOfLeads (by decide +kernel)) (by decide +kernel)
theorem dX8_failureOfLeads_71 : decode cX8_failureOfLeads 71 = .ok (.iconst 4, 1) := dz_7 (b_1 bX8_failureOfLeads (by decide +kernel))
theorem dX8_failureOfLeads_72 : decode cX8_failureOfLeads 72 = .ok (.ireturn, 1) := dz_172 (b_1 bX8_failureOfLeads (by decide +kernel))
theorem dX8_failureOfLeads_73 : decode cX8_failureOfLeads 73 = .ok (.aload_n 0, 1) := dz_42 (b_1 bX8_failureOfLeads (by decide +kernel))
theorem dX8_failureOfLeads_74 : decode cX8_failureOfLeads 74 = .ok (.aload_n 3, 1) := dz_45 (b_1 bX8_failureOfLeads (by decide +kernel))
theorem dX8_failureOfLeads_75 : decode cX8_failureOfLeads 75 = .ok (.getfield 193, 3) := dz_180 (b_3 (a := 0) (b := 193) bX8_failureOfLeads (by decide +kernel))
theorem dX8_failureOfLeads_78 : decode cX8_failureOfLeads 78 = .ok (.iload 4, 2) := dz_21 (b_2 (a := 4) bX8_failureOfLeads (by decide +kernel))
theorem dX8_failureOfLeads_80 : decode cX8_failureOfLeads 80 = .ok (.laload, 1) := dz_47 (b_1 bX8_failureOfLeads (by decide +kernel))
theorem dX8_failureOfLeads_81 : decode cX8_failureOfLeads 81 = .ok (.invokevirtual 177, 3) := dz_182 (b_3 (a := 0) (b := 177) bX8_failureOfLeads (by decide +kernel))
theorem dX8_failureOfLeads_84 : decode cX8_failureOfLeads 84 = .ok (.ifnonnull 7, 3) := dz_199 (b_3 (a := 0) (b := 7) bX8_failureOfLeads (by decide +kernel)) (by decide +kernel)
theorem dX8_failureOfLeads_87 : decode cX8_failureOfLeads 87 = .ok (.iconst 1, 1) := dz_4 (b_1 bX8_failureOfLeads (by decide +kernel))
theorem dX8_failureOfLeads_88 : decode cX8_failureOfLeads 88 = .ok (.goto 4, 3) := dz_167 (b_3 (a := 0) (b := 4) bX8_failureOfLeads (by decide +kernel)) (by decide +kernel)
theorem dX8_failureOfLeads_91 : decode cX8_failureOfLeads 91 = .ok (.iconst 0, 1) := dz_3 (b_1 bX8_failureOfLeads (by decide +kernel))
theorem dX8_failureOfLeads_92 : decode cX8_failureOfLeads 92 = .ok (.ireturn, 1) := dz_172 (b_1 bX8_failureOfLeads (by decide +kernel))
theorem gb_X8_forgetNumbers : wsX8_forgetNumbers.all goodWord = true := by decide +kernel
theorem gj_X8_recordFrom_0 : GpS (wsX8_recordFrom_r1) wsX8_recordFrom := fun w h => List.mem_cons_of_mem _ (List.mem_append_left _ (List.mem_append_left _ (List.mem_append_left _ (List.mem_append_left _ (List.mem_append_left _ (List.mem_append_left _ (h)))))))
theorem gj_X8_recordFrom_4 : GpS (wsX80) wsX8_recordFrom := fun w h => List.mem_cons_of_mem _ (List.mem_append_left _ (List.mem_append_left _ (List.mem_append_left _ (List.mem_append_right _ (h)))))
theorem gj_X8_recordFrom_5 : GpS (wsX60) wsX8_recordFrom := fun w h => List.mem_cons_of_mem _ (List.mem_append_left _ (List.mem_append_left _ (List.mem_append_right _ (h))))
theorem gj_X8_recordFrom_6 : GpS (wsX70) wsX8_recordFrom := fun w h => List.mem_cons_of_mem _ (List.mem_append_left _ (List.mem_append_right _ (h)))
theorem gj_X8_recordFrom_7 : GpS (wsX50) wsX8_recordFrom := fun w h => List.mem_cons_of_mem _ (List.mem_append_right _ (h))
set_option maxRecDepth 20000 in
theorem ggX8_recordFrom_X8_forgetNumbers : GoodIn wsX8_recordFrom wsX8_forgetNumbers := gp_s (gp_c (gj_X8_recordFrom_0 _ (gp_4 (gp_1 (gp_1 (gp_1 gp_h))))) (gp_a (gp_a (gp_a (gp_a (gp_c (gj_X8_recordFrom_0 _ (gp_4 (gp_4 gp_h))) (gp_c (gj_X8_recordFrom_0 _ (gp_4 (gp_4 (gp_1 gp_h)))) (gp_c (gj_X8_recordFrom_0 _ (gp_4 (gp_4 (gp_1 (gp_1 gp_h))))) (gp_c (gj_X8_recordFrom_0 _ (gp_4 (gp_4 (gp_1 (gp_1 (gp_1 gp_h)))))) (gp_c (gj_X8_recordFrom_0 _ (gp_4 (gp_4 (gp_4 gp_h)))) (gp_c (gj_X8_recordFrom_0 _ (gp_4 (gp_4 (gp_4 (gp_1 gp_h))))) (gp_c (gj_X8_recordFrom_0 _ (gp_4 (gp_4 (gp_4 (gp_1 (gp_1 gp_h)))))) (gp_c (gj_X8_recordFrom_0 _ (gp_4 (gp_4 (gp_4 (gp_1 (gp_1 (gp_1 gp_h))))))) (gp_c (gj_X8_recordFrom_0 _ (gp_16 gp_h)) (gp_c (gj_X8_recordFrom_0 _ (gp_16 (gp_1 gp_h))) (gp_c (gj_X8_recordFrom_0 _ (gp_16 (gp_1 (gp_1 gp_h)))) (gp_c (gj_X8_recordFrom_0 _ (gp_16 (gp_1 (gp_1 (gp_1 gp_h))))) (gp_n))))))))))))) (gj_X8_recordFrom_4)) (gj_X8_recordFrom_5)) (gj_X8_recordFrom_6)) (gj_X8_recordFrom_7))) gb_X8_forgetNumbers
set_option maxRecDepth 20000 in
theorem gX8_recordFrom_X8_forgetNumbers : GoodIn wsX8_recordFrom (wsV RX8 321 RX8 yX8_forgetNumbers wsX8_forgetNumbers) := goodIn_app (gp_s (gp_c (gj_X8_recordFrom_0 _ (gp_1 (gp_1 (gp_1 gp_h)))) (gp_c (gj_X8_recordFrom_0 _ (gp_4 gp_h)) (gp_c (gj_X8_recordFrom_0 _ (gp_4 (gp_1 gp_h))) (gp_c (gj_X8_recordFrom_0 _ (gp_4 (gp_1 (gp_1 gp_h)))) (gp_n))))) (gp_v)) ggX8_recordFrom_X8_forgetNumbers
theorem gb_X8_recordNumberOf : wsX8_recordNumberOf.all goodWord = true := by decide +kernel
theorem gj_X8_recordFrom_1 : GpS (wsX8_recordFrom_r2) wsX8_recordFrom := fun w h => List.mem_cons_of_mem _ (List.mem_append_left _ (List.mem_append_left _ (List.mem_append_left _ (List.mem_append_left _ (List.mem_append_left _ (List.mem_append_right _ (List.mem_append_left _ (h))))))))
theorem gj_X8_recordFrom_3 : GpS (wsX40) wsX8_recordFrom := fun w h => List.mem_cons_of_mem _ (List.mem_append_left _ (List.mem_append_left _ (List.mem_append_left _ (List.mem_append_left _ (List.mem_append_right _ (h))))))
set_option maxRecDepth 20000 in
theorem ggX8_recordFrom_X8_recordNumberOf : GoodIn wsX8_recordFrom wsX8_recordNumberOf := gp_s (gp_c (gj_X8_recordFrom_0 _ (gp_16 (gp_4 (gp_1 (gp_1 (gp_1 gp_h)))))) (gp_a (gp_a (gp_a (gp_a (gp_c (gj_X8_recordFrom_1 _ (gp_h)) (gp_c (gj_X8_recordFrom_0 _ (gp_h)) (gp_c (gj_X8_recordFrom_0 _ (gp_1 (gp_1 gp_h))) (gp_c (gj_X8_recordFrom_1 _ (gp_1 gp_h)) (gp_c (gj_X8_recordFrom_1 _ (gp_1 (gp_1 gp_h))) (gp_c (gj_X8_recordFrom_1 _ (gp_1 (gp_1 (gp_1 gp_h)))) (gp_c (gj_X8_recordFrom_1 _ (gp_4 gp_h)) (gp_c (gj_X8_recordFrom_1 _ (gp_4 (gp_1 gp_h))) (gp_n))))))))) (gj_X8_recordFrom_5)) (gj_X8_recordFrom_3)) (gj_X8_recordFrom_4)) (gj_X8_recordFrom_6))) gb_X8_recordNumberOf
set_option maxRecDepth 20000 in
theorem gX8_recordFrom_X8_recordNumberOf : GoodIn wsX8_recordFrom (wsV RX8 324 RX8 yX8_recordNumberOf wsX8_recordNumberOf) := goodIn_app (gp_s (gp_c (gj_X8_recordFrom_0 _ (gp_16 (gp_4 gp_h))) (gp_c (gj_X8_recordFrom_0 _ (gp_16 (gp_4 (gp_1 gp_h)))) (gp_c (gj_X8_recordFrom_0 _ (gp_16 (gp_4 (gp_1 (gp_1 gp_h))))) (gp_c (gj_X8_recordFrom_0 _ (gp_4 (gp_1 (gp_1 gp_h)))) (gp_n))))) (gp_v)) ggX8_recordFrom_X8_recordNumberOf
theorem gb_X8_recordFields : wsX8_recordFields.all goodWord = true := by decide +kernel
theorem gj_X8_recordFrom_2 : GpS (wsX8_recordFrom_r3) wsX8_recordFrom := fun w h => List.mem_cons_of_mem _ (List.mem_append_left _ (List.mem_append_left _ (List.mem_append_left _ (List.mem_append_left _ (List.mem_append_left _ (List.mem_append_right _ (List.mem_append_right _ (h))))))))
set_option maxRecDepth 20000 in
theorem ggX8_recordFrom_X8_recordFields : GoodIn wsX8_recordFrom wsX8_recordFields := gp_s (gp_c (gj_X8_recordFrom_1 _ (gp_4 (gp_4 (gp_1 gp_h)))) (gp_a (gp_a (gp_a (gp_a (gp_a (gp_a (gp_c (gj_X8_recordFrom_1 _ (gp_1 (gp_1 gp_h))) (gp_c (gj_X8_recordFrom_1 _ (gp_4 (gp_1 gp_h))) (gp_c (gj_X8_recordFrom_1 _ (gp_4 (gp_4 (gp_1 (gp_1 gp_h))))) (gp_c (gj_X8_recordFrom_1 _ (gp_4 (gp_4 (gp_1 (gp_1 (gp_1 gp_h)))))) (gp_c (gj_X8_recordFrom_1 _ (gp_4 (gp_4 (gp_4 gp_h)))) (gp_c (gj_X8_recordFrom_1 _ (gp_4 (gp_4 (gp_4 (gp_1 gp_h))))) (gp_c (gj_X8_recordFrom_1 _ (gp_4 (gp_4 (gp_4 (gp_1 (gp_1 gp_h)))))) (gp_c (gj_X8_recordFrom_1 _ (gp_4 (gp_4 (gp_4 (gp_1 (gp_1 (gp_1 gp_h))))))) (gp_c (gj_X8_recordFrom_1 _ (gp_16 gp_h)) (gp_c (gj_X8_recordFrom_1 _ (gp_16 (gp_1 gp_h))) (gp_c (gj_X8_recordFrom_0 _ (gp_4 (gp_1 (gp_1 gp_h)))) (gp_c (gj_X8_recordFrom_1 _ (gp_16 (gp_1 (gp_1 gp_h)))) (gp_c (gj_X8_recordFrom_1 _ (gp_16 (gp_1 (gp_1 (gp_1 gp_h))))) (gp_c (gj_X8_recordFrom_1 _ (gp_16 (gp_4 gp_h))) (gp_c (gj_X8_recordFrom_1 _ (gp_16 (gp_4 (gp_1 gp_h)))) (gp_c (gj_X8_recordFrom_1 _ (gp_16 (gp_4 (gp_1 (gp_1 gp_h))))) (gp_c (gj_X8_recordFrom_1 _ (gp_16 (gp_4 (gp_1 (gp_1 (gp_1 gp_h)))))) (gp_c (gj_X8_recordFrom_2 _ (gp_h)) (gp_c (gj_X8_recordFrom_2 _ (gp_1 gp_h)) (gp_c (gj_X8_recordFrom_2 _ (gp_1 (gp_1 gp_h))) (gp_c (gj_X8_recordFrom_2 _ (gp_1 (gp_1 (gp_1 gp_h)))) (gp_c (gj_X8_recordFrom_2 _ (gp_4 gp_h)) (gp_c (gj_X8_recordFrom_2 _ (gp_4 (gp_1 gp_h))) (gp_c (gj_X8_recordFrom_2 _ (gp_4 (gp_1 (gp_1 gp_h)))) (gp_n))))))))))))))))))))))))) (gp_c (gj_X8_recordFrom_2 _ (gp_4 (gp_1 (gp_1 (gp_1 gp_h))))) (gp_c (gj_X8_recordFrom_2 _ (gp_4 (gp_4 gp_h))) (gp_c (gj_X8_recordFrom_2 _ (gp_4 (gp_4 (gp_1 gp_h)))) (gp_c (gj_X8_recordFrom_2 _ (gp_4 (gp_4 (gp_1 (gp_1 gp_h))))) (gp_c (gj_X8_recordFrom_2 _ (gp_4 (gp_4 (gp_1 (gp_1 (gp_1 gp_h)))))) (gp_c (gj_X8_recordFrom_2 _ (gp_4 (gp_4 (gp_4 gp_h)))) (gp_c (gj_X8_recordFrom_2 _ (gp_4 (gp_4 (gp_4 (gp_1 gp_h))))) (gp_c (gj_X8_recordFrom_2 _ (gp_4 (gp_4 (gp_4 (gp_1 (gp_1 gp_h)))))) (gp_c (gj_X8_recordFrom_0 _ (gp_4 (gp_4 gp_h))) (gp_c (gj_X8_recordFrom_0 _ (gp_4 (gp_4 (gp_1 gp_h)))) (gp_c (gj_X8_recordFrom_0 _ (gp_16 (gp_4 gp_h))) (gp_c (gj_X8_recordFrom_0 _ (gp_16 (gp_4 (gp_1 gp_h)))) (gp_c (gj_X8_recordFrom_0 _ (gp_16 (gp_4 (gp_1 (gp_1 gp_h))))) (gp_c (gj_X8_recordFrom_0 _ (gp_16 (gp_4 (gp_1 (gp_1 (gp_1 gp_h)))))) (gp_c (gj_X8_recordFrom_1 _ (gp_h)) (gp_c (gj_X8_recordFrom_0 _ (gp_h)) (gp_c (gj_X8_recordFrom_0 _ (gp_1 (gp_1 gp_h))) (gp_c (gj_X8_recordFrom_1 _ (gp_1 gp_h)) (gp_c (gj_X8_recordFrom_1 _ (gp_1 (gp_1 (gp_1 gp_h)))) (gp_c (gj_X8_recordFrom_1 _ (gp_4 gp_h)) (gp_n)))))))))))))))))))))) (gj_X8_recordFrom_5)) (gj_X8_recordFrom_6)) (gj_X8_recordFrom_3)) (gj_X8_recordFrom_7)) (gj_X8_recordFrom_4))) gb_X8_recordFields
set_option maxRecDepth 20000 in
theorem gX8_recordFrom_X8_recordFields : GoodIn wsX8_recordFrom (wsV RX8 328 RX8 yX8_recordFields wsX8_recordFields) := goodIn_app (gp_s (gp_c (gj_X8_recordFrom_1 _ (gp_4 (gp_1 (gp_1 gp_h)))) (gp_c (gj_X8_recordFrom_1 _ (gp_4 (gp_1 (gp_1 (gp_1 gp_h))))) (gp_c (gj_X8_recordFrom_1 _ (gp_4 (gp_4 gp_h))) (gp_c (gj_X8_recordFrom_0 _ (gp_4 (gp_1 (gp_1 gp_h)))) (gp_n))))) (gp_v)) ggX8_recordFrom_X8_recordFields
noncomputable def nX8_recordFrom : Nat := 0xb1e3ffa70103844801b62c1d321d2700b42a2a1500a2e700b42c1d1d00a21e101d3e03574401b62c2b2aea00b5032ce700b5032c4101b62a
theorem bX8_recordFrom : Bts cX8_recordFrom nX8_recordFrom 56 := by unfold Bts; decide +kernel
theorem dX8_recordFrom_0 : decode cX8_recordFrom 0 = .ok (.aload_n 0, 1) := dz_42 (b_1 bX8_recordFrom (by decide +kernel))
theorem dX8_recordFrom_1 : decode cX8_recordFrom 1 = .ok (.invokevirtual 321, 3) := dz_182 (b_3 (a := 1) (b := 65) bX8_recordFrom (by decide +kernel))
theorem dX8_recordFrom_4 : decode cX8_recordFrom 4 = .ok (.aload_n 2, 1) := dz_44 (b_1 bX8_recordFrom (by decide +kernel))
theorem dX8_recordFrom_5 : decode cX8_recordFrom 5 = .ok (.iconst 0, 1) := dz_3 (b_1 bX8_recordFrom (by decide +kernel))
theorem dX8_recordFrom_6 : decode cX8_recordFrom 6 = .ok (.putfield 231, 3) := dz_181 (b_3 (a := 0) (b := 231) bX8_recordFrom (by decide +kernel))
theorem dX8_recordFrom_9 : decode cX8_recordFrom 9 = .ok (.aload_n 2, 1) := dz_44 (b_1 bX8_recordFrom (by decide +kernel))
theorem dX8_recordFrom_10 : decode cX8_recordFrom 10 = .ok (.iconst 0, 1) := dz_3 (b_1 bX8_recordFrom (by decide +kernel))
theorem dX8_recordFrom_11 : decode cX8_recordFrom 11 = .ok (.putfield 234, 3) := dz_181 (b_3 (a := 0) (b := 234) bX8_recordFrom (by decide +kernel))
theorem dX8_recordFrom_14 : decode cX8_recordFrom 14 = .ok (.aload_n 0, 1) := dz_42 (b_1 bX8_recordFrom (by decide +kernel))
theorem dX8_recordFrom_15 : decode cX8_recordFrom 15 = .ok (.aload_n 1, 1) := dz_43 (b_1 bX8_recordFrom (by decide +kernel))
theorem dX8_recordFrom_16 : decode cX8_recordFrom 16 = .ok (.aload_n 2, 1) := dz_44 (b_1 bX8_recordFrom (by decide +kernel))
theorem dX8_recordFrom_17 : decode cX8_recordFrom 17 = .ok (.invokevirtual 324, 3) := dz_182 (b_3 (a := 1) (b := 68) bX8_recordFrom (by decide +kernel))
theorem dX8_recordFrom_20 : decode cX8_recordFrom 20 = .ok (.pop, 1) := dz_87 (b_1 bX8_recordFrom (by decide +kernel))
theorem dX8_recordFrom_21 : decode cX8_recordFrom 21 = .ok (.iconst 0, 1) := dz_3 (b_1 bX8_recordFrom (by decide +kernel))
theorem dX8_recordFrom_22 : decode cX8_recordFrom 22 = .ok (.istore_n 3, 1) := dz_62 (b_1 bX8_recordFrom (by decide +kernel))
theorem dX8_recordFrom_23 : decode cX8_recordFrom 23 = .ok (.iload_n 3, 1) := dz_29 (b_1 bX8_recordFrom (by decide +kernel))
theorem dX8_recordFrom_24 : decode cX8_recordFrom 24 = .ok (.bipush 30, 2) := dz_16 (b_2 (a := 30) bX8_recordFrom (by decide +kernel)) (by decide +kernel)
theorem dX8_recordFrom_26 : decode cX8_recordFrom 26 = .ok (.if_icmp .ge 29, 3) := dz_162 (b_3 (a := 0) (b := 29) bX8_recordFrom (by decide +kernel)) (by decide +kernel)
theorem dX8_recordFrom_29 : decode cX8_recordFrom 29 = .ok (.iload_n 3, 1) := dz_29 (b_1 bX8_recordFrom (by decide +kernel))
theorem dX8_recordFrom_30 : decode cX8_recordFrom 30 = .ok (.aload_n 2, 1) := dz_44 (b_1 bX8_recordFrom (by decide +kernel))
theorem dX8_recordFrom_31 : decode cX8_recordFrom 31 = .ok (.getfield 231, 3) := dz_180 (b_3 (a := 0) (b := 231) bX8_recordFrom (by decide +kernel))
theorem dX8_recordFrom_34 : decode cX8_recordFrom 34 = .ok (.if_icmp .ge 21, 3) := dz_162 (b_3 (a := 0) (b := 21) bX8_recordFrom (by decide +kernel)) (by decide +kernel)
theorem dX8_recordFrom_37 : decode cX8_recordFrom 37 = .ok (.aload_n 0, 1) := dz_42 (b_1 bX8_recordFrom (by decide +kernel))
theorem dX8_recordFrom_38 : decode cX8_recordFrom 38 = .ok (.aload_n 0, 1) := dz_42 (b_1 bX8_recordFrom (by decide +kernel))
theorem dX8_recordFrom_39 : decode cX8_recordFrom 39 = .ok (.getfield 39, 3) := dz_180 (b_3 (a := 0) (b := 39) bX8_recordFrom (by decide +kernel))
theorem dX8_recordFrom_42 : decode cX8_recordFrom 42 = .ok (.iload_n 3, 1) := dz_29 (b_1 bX8_recordFrom (by decide +kernel))
theorem dX8_recordFrom_43 : decode cX8_recordFrom 43 = .ok (.aaload, 1) := dz_50 (b_1 bX8_recordFrom (by decide +kernel))
theorem dX8_recordFrom_44 : decode cX8_recordFrom 44 = .ok (.iload_n 3, 1) := dz_29 (b_1 bX8_recordFrom (by decide +kernel))
theorem dX8_recordFrom_45 : decode cX8_recordFrom 45 = .ok (.aload_n 2, 1) := dz_44 (b_1 bX8_recordFrom (by decide +kernel))
theorem dX8_recordFrom_46 : decode cX8_recordFrom 46 = .ok (.invokevirtual 328, 3) := dz_182 (b_3 (a := 1) (b := 72) bX8_recordFrom (by decide +kernel))
theorem dX8_recordFrom_49 : decode cX8_recordFrom 49 = .ok (.iinc 3 1, 3) := dz_132 (b_3 (a := 3) (b := 1) bX8_recordFrom (by decide +kernel)) (by decide +kernel)
theorem dX8_recordFrom_52 : decode cX8_recordFrom 52 = .ok (.goto (-29), 3) := dz_167 (b_3 (a := 255) (b := 227) bX8_recordFrom (by decide +kernel)) (by decide +kernel)
theorem dX8_recordFrom_55 : decode cX8_recordFrom 55 = .ok (.return_, 1) := dz_177 (b_1 bX8_recordFrom (by decide +kernel))
theorem gb_X6_forgetNumbers : wsX6_forgetNumbers.all goodWord = true := by decide +kernel
theorem gj_X8_forgetNumbers_0 : GpS ([.fieldLink RX8 94 "StateRecords" "thingCount" "I", .fieldLink RX8 17 "StateRecords" "things" "[LStateRecords$Thing;", .methodLink RX8 332 yX6_forgetNumbers, .instanceMethod yX6_forgetNumbers, .selects RX6 yX6_forgetNumbers yX6_forgetNumbers, .initialized RX6, .code yX6_forgetNumbers cX6_forgetNumbers 2 none, .fieldLink RX6 38 "StateRecords$Thing" "recordNumber" "I", .fieldLink RX6 21 "StateRecords$Thing" "type" "LStateRecords$Type;", .fieldLink RX6 25 "StateRecords$Type" "fieldCount" "I", .fieldLink RX6 17 "StateRecords$Thing" "rows" "[LStateRecords$Row;", .fieldLink RX6 41 "StateRecords$Row" "number" "I"]) wsX8_forgetNumbers := fun w h => List.mem_cons_of_mem _ (List.mem_append_left _ (List.mem_append_left _ (List.mem_append_left _ (List.mem_append_left _ (h)))))
theorem gj_X8_forgetNumbers_2 : GpS (wsX60) wsX8_forgetNumbers := fun w h => List.mem_cons_of_mem _ (List.mem_append_left _ (List.mem_append_left _ (List.mem_append_right _ (h))))
theorem gj_X8_forgetNumbers_3 : GpS (wsX70) wsX8_forgetNumbers := fun w h => List.mem_cons_of_mem _ (List.mem_append_left _ (List.mem_append_right _ (h)))
theorem gj_X8_forgetNumbers_4 : GpS (wsX50) wsX8_forgetNumbers := fun w h => List.mem_cons_of_mem _ (List.mem_append_right _ (h))
set_option maxRecDepth 20000 in
theorem ggX8_forgetNumbers_X6_forgetNumbers : GoodIn wsX8_forgetNumbers wsX6_forgetNumbers := gp_s (gp_c (gj_X8_forgetNumbers_0 _ (gp_4 (gp_1 (gp_1 gp_h)))) (gp_a (gp_a (gp_a (gp_c (gj_X8_forgetNumbers_0 _ (gp_4 (gp_1 (gp_1 (gp_1 gp_h))))) (gp_c (gj_X8_forgetNumbers_0 _ (gp_4 (gp_4 gp_h))) (gp_c (gj_X8_forgetNumbers_0 _ (gp_4 (gp_4 (gp_1 gp_h)))) (gp_c (gj_X8_forgetNumbers_0 _ (gp_4 (gp_4 (gp_1 (gp_1 gp_h))))) (gp_c (gj_X8_forgetNumbers_0 _ (gp_4 (gp_4 (gp_1 (gp_1 (gp_1 gp_h)))))) (gp_n)))))) (gj_X8_forgetNumbers_2)) (gj_X8_forgetNumbers_3)) (gj_X8_forgetNumbers_4))) gb_X6_forgetNumbers
set_option maxRecDepth 20000 in
theorem gX8_forgetNumbers_X6_forgetNumbers : GoodIn wsX8_forgetNumbers (wsV RX8 332 RX6 yX6_forgetNumbers wsX6_forgetNumbers) := goodIn_app (gp_s (gp_c (gj_X8_forgetNumbers_0 _ (gp_1 (gp_1 gp_h))) (gp_c (gj_X8_forgetNumbers_0 _ (gp_1 (gp_1 (gp_1 gp_h)))) (gp_c (gj_X8_forgetNumbers_0 _ (gp_4 gp_h)) (gp_c (gj_X8_forgetNumbers_0 _ (gp_4 (gp_1 gp_h))) (gp_n))))) (gp_v)) ggX8_forgetNumbers_X6_forgetNumbers
noncomputable def nX8_forgetNumbers : Nat := 0xb1ecffa70101844c01b6321b1100b42a1200a25e00b42a1b3c03
theorem bX8_forgetNumbers : Bts cX8_forgetNumbers nX8_forgetNumbers 26 := by unfold Bts; decide +kernel
theorem dX8_forgetNumbers_0 : decode cX8_forgetNumbers 0 = .ok (.iconst 0, 1) := dz_3 (b_1 bX8_forgetNumbers (by decide +kernel))
theorem dX8_forgetNumbers_1 : decode cX8_forgetNumbers 1 = .ok (.istore_n 1, 1) := dz_60 (b_1 bX8_forgetNumbers (by decide +kernel))
theorem dX8_forgetNumbers_2 : decode cX8_forgetNumbers 2 = .ok (.iload_n 1, 1) := dz_27 (b_1 bX8_forgetNumbers (by decide +kernel))
theorem dX8_forgetNumbers_3 : decode cX8_forgetNumbers 3 = .ok (.aload_n 0, 1) := dz_42 (b_1 bX8_forgetNumbers (by decide +kernel))
theorem dX8_forgetNumbers_4 : decode cX8_forgetNumbers 4 = .ok (.getfield 94, 3) := dz_180 (b_3 (a := 0) (b := 94) bX8_forgetNumbers (by decide +kernel))
theorem dX8_forgetNumbers_7 : decode cX8_forgetNumbers 7 = .ok (.if_icmp .ge 18, 3) := dz_162 (b_3 (a := 0) (b := 18) bX8_forgetNumbers (by decide +kernel)) (by decide +kernel)
theorem dX8_forgetNumbers_10 : decode cX8_forgetNumbers 10 = .ok (.aload_n 0, 1) := dz_42 (b_1 bX8_forgetNumbers (by decide +kernel))
theorem dX8_forgetNumbers_11 : decode cX8_forgetNumbers 11 = .ok (.getfield 17, 3) := dz_180 (b_3 (a := 0) (b := 17) bX8_forgetNumbers (by decide +kernel))
theorem dX8_forgetNumbers_14 : decode cX8_forgetNumbers 14 = .ok (.iload_n 1, 1) := dz_27 (b_1 bX8_forgetNumbers (by decide +kernel))
theorem dX8_forgetNumbers_15 : decode cX8_forgetNumbers 15 = .ok (.aaload, 1) := dz_50 (b_1 bX8_forgetNumbers (by decide +kernel))
theorem dX8_forgetNumbers_16 : decode cX8_forgetNumbers 16 = .ok (.invokevirtual 332, 3) := dz_182 (b_3 (a := 1) (b := 76) bX8_forgetNumbers (by decide +kernel))
theorem dX8_forgetNumbers_19 : decode cX8_forgetNumbers 19 = .ok (.iinc 1 1, 3) := dz_132 (b_3 (a := 1) (b := 1) bX8_forgetNumbers (by decide +kernel)) (by decide +kernel)
theorem dX8_forgetNumbers_22 : decode cX8_forgetNumbers 22 = .ok (.goto (-20), 3) := dz_167 (b_3 (a := 255) (b := 236) bX8_forgetNumbers (by decide +kernel)) (by decide +kernel)
theorem dX8_forgetNumbers_25 : decode cX8_forgetNumbers 25 = .ok (.return_, 1) := dz_177 (b_1 bX8_forgetNumbers (by decide +kernel))
noncomputable def nX8_recordNumberOf : Nat := 0xac4d01b42be700b56004e700b4592c4f5500b46100b42be700b42c5201b42c4fcd00b46100b42be700b42c5001b42c532be700b42c2700b42a4d01b5e700b42c2b3f00a0024d01b42b
theorem bX8_recordNumberOf : Bts cX8_recordNumberOf nX8_recordNumberOf 73 := by unfold Bts; decide +kernel
theorem dX8_recordNumberOf_0 : decode cX8_recordNumberOf 0 = .ok (.aload_n 1, 1) := dz_43 (b_1 bX8_recordNumberOf (by decide +kernel))
theorem dX8_recordNumberOf_1 : decode cX8_recordNumberOf 1 = .ok (.getfield 333, 3) := dz_180 (b_3 (a := 1) (b := 77) bX8_recordNumberOf (by decide +kernel))
theorem dX8_recordNumberOf_4 : decode cX8_recordNumberOf 4 = .ok (.iconst (-1), 1) := dz_2 (b_1 bX8_recordNumberOf (by decide +kernel))
theorem dX8_recordNumberOf_5 : decode cX8_recordNumberOf 5 = .ok (.if_icmp .ne 63, 3) := dz_160 (b_3 (a := 0) (b := 63) bX8_recordNumberOf (by decide +kernel)) (by decide +kernel)
theorem dX8_recordNumberOf_8 : decode cX8_recordNumberOf 8 = .ok (.aload_n 1, 1) := dz_43 (b_1 bX8_recordNumberOf (by decide +kernel))
theorem dX8_recordNumberOf_9 : decode cX8_recordNumberOf 9 = .ok (.aload_n 2, 1) := dz_44 (b_1 bX8_recordNumberOf (by decide +kernel))
theorem dX8_recordNumberOf_10 : decode cX8_recordNumberOf 10 = .ok (.getfield 231, 3) := dz_180 (b_3 (a := 0) (b := 231) bX8_recordNumberOf (by decide +kernel))
theorem dX8_recordNumberOf_13 : decode cX8_recordNumberOf 13 = .ok (.putfield 333, 3) := dz_181 (b_3 (a := 1) (b := 77) bX8_recordNumberOf (by decide +kernel))
theorem dX8_recordNumberOf_16 : decode cX8_recordNumberOf 16 = .ok (.aload_n 0, 1) := dz_42 (b_1 bX8_recordNumberOf (by decide +kernel))
theorem dX8_recordNumberOf_17 : decode cX8_recordNumberOf 17 = .ok (.getfield 39, 3) := dz_180 (b_3 (a := 0) (b := 39) bX8_recordNumberOf (by decide +kernel))
theorem dX8_recordNumberOf_20 : decode cX8_recordNumberOf 20 = .ok (.aload_n 2, 1) := dz_44 (b_1 bX8_recordNumberOf (by decide +kernel))
theorem dX8_recordNumberOf_21 : decode cX8_recordNumberOf 21 = .ok (.getfield 231, 3) := dz_180 (b_3 (a := 0) (b := 231) bX8_recordNumberOf (by decide +kernel))
theorem dX8_recordNumberOf_24 : decode cX8_recordNumberOf 24 = .ok (.aload_n 1, 1) := dz_43 (b_1 bX8_recordNumberOf (by decide +kernel))
theorem dX8_recordNumberOf_25 : decode cX8_recordNumberOf 25 = .ok (.aastore, 1) := dz_83 (b_1 bX8_recordNumberOf (by decide +kernel))
theorem dX8_recordNumberOf_26 : decode cX8_recordNumberOf 26 = .ok (.aload_n 2, 1) := dz_44 (b_1 bX8_recordNumberOf (by decide +kernel))
theorem dX8_recordNumberOf_27 : decode cX8_recordNumberOf 27 = .ok (.getfield 336, 3) := dz_180 (b_3 (a := 1) (b := 80) bX8_recordNumberOf (by decide +kernel))
theorem dX8_recordNumberOf_30 : decode cX8_recordNumberOf 30 = .ok (.aload_n 2, 1) := dz_44 (b_1 bX8_recordNumberOf (by decide +kernel))
theorem dX8_recordNumberOf_31 : decode cX8_recordNumberOf 31 = .ok (.getfield 231, 3) := dz_180 (b_3 (a := 0) (b := 231) bX8_recordNumberOf (by decide +kernel))
theorem dX8_recordNumberOf_34 : decode cX8_recordNumberOf 34 = .ok (.aload_n 1, 1) := dz_43 (b_1 bX8_recordNumberOf (by decide +kernel))
theorem dX8_recordNumberOf_35 : decode cX8_recordNumberOf 35 = .ok (.getfield 97, 3) := dz_180 (b_3 (a := 0) (b := 97) bX8_recordNumberOf (by decide +kernel))
theorem dX8_recordNumberOf_38 : decode cX8_recordNumberOf 38 = .ok (.getfield 205, 3) := dz_180 (b_3 (a := 0) (b := 205) bX8_recordNumberOf (by decide +kernel))
theorem dX8_recordNumberOf_41 : decode cX8_recordNumberOf 41 = .ok (.iastore, 1) := dz_79 (b_1 bX8_recordNumberOf (by decide +kernel))
theorem dX8_recordNumberOf_42 : decode cX8_recordNumberOf 42 = .ok (.aload_n 2, 1) := dz_44 (b_1 bX8_recordNumberOf (by decide +kernel))
theorem dX8_recordNumberOf_43 : decode cX8_recordNumberOf 43 = .ok (.getfield 338, 3) := dz_180 (b_3 (a := 1) (b := 82) bX8_recordNumberOf (by decide +kernel))
theorem dX8_recordNumberOf_46 : decode cX8_recordNumberOf 46 = .ok (.aload_n 2, 1) := dz_44 (b_1 bX8_recordNumberOf (by decide +kernel))
theorem dX8_recordNumberOf_47 : decode cX8_recordNumberOf 47 = .ok (.getfield 231, 3) := dz_180 (b_3 (a := 0) (b := 231) bX8_recordNumberOf (by decide +kernel))
theorem dX8_recordNumberOf_50 : decode cX8_recordNumberOf 50 = .ok (.aload_n 1, 1) := dz_43 (b_1 bX8_recordNumberOf (by decide +kernel))
theorem dX8_recordNumberOf_51 : decode cX8_recordNumberOf 51 = .ok (.getfield 97, 3) := dz_180 (b_3 (a := 0) (b := 97) bX8_recordNumberOf (by decide +kernel))
theorem dX8_recordNumberOf_54 : decode cX8_recordNumberOf 54 = .ok (.getfield 85, 3) := dz_180 (b_3 (a := 0) (b := 85) bX8_recordNumberOf (by decide +kernel))
theorem dX8_recordNumberOf_57 : decode cX8_recordNumberOf 57 = .ok (.iastore, 1) := dz_79 (b_1 bX8_recordNumberOf (by decide +kernel))
theorem dX8_recordNumberOf_58 : decode cX8_recordNumberOf 58 = .ok (.aload_n 2, 1) := dz_44 (b_1 bX8_recordNumberOf (by decide +kernel))
theorem dX8_recordNumberOf_59 : decode cX8_recordNumberOf 59 = .ok (.dup, 1) := dz_89 (b_1 bX8_recordNumberOf (by decide +kernel))
theorem dX8_recordNumberOf_60 : decode cX8_recordNumberOf 60 = .ok (.getfield 231, 3) := dz_180 (b_3 (a := 0) (b := 231) bX8_recordNumberOf (by decide +kernel))
theorem dX8_recordNumberOf_63 : decode cX8_recordNumberOf 63 = .ok (.iconst 1, 1) := dz_4 (b_1 bX8_recordNumberOf (by decide +kernel))
theorem dX8_recordNumberOf_64 : decode cX8_recordNumberOf 64 = .ok (.iadd, 1) := dz_96 (b_1 bX8_recordNumberOf (by decide +kernel))
theorem dX8_recordNumberOf_65 : decode cX8_recordNumberOf 65 = .ok (.putfield 231, 3) := dz_181 (b_3 (a := 0) (b := 231) bX8_recordNumberOf (by decide +kernel))
theorem dX8_recordNumberOf_68 : decode cX8_recordNumberOf 68 = .ok (.aload_n 1, 1) := dz_43 (b_1 bX8_recordNumberOf (by decide +kernel))
theorem dX8_recordNumberOf_69 : decode cX8_recordNumberOf 69 = .ok (.getfield 333, 3) := dz_180 (b_3 (a := 1) (b := 77) bX8_recordNumberOf (by decide +kernel))
theorem dX8_recordNumberOf_72 : decode cX8_recordNumberOf 72 = .ok (.ireturn, 1) := dz_172 (b_1 bX8_recordNumberOf (by decide +kernel))
theorem gb_X8_recordedValue : wsX8_recordedValue.all goodWord = true := by decide +kernel
theorem gj_X8_recordFields_0 : GpS (wsX8_recordFields_r1) wsX8_recordFields := fun w h => List.mem_cons_of_mem _ (List.mem_append_left _ (List.mem_append_left _ (List.mem_append_left _ (List.mem_append_left _ (List.mem_append_left _ (List.mem_append_left _ (h)))))))
theorem gj_X8_recordFields_1 : GpS (wsX8_recordFields_r2) wsX8_recordFields := fun w h => List.mem_cons_of_mem _ (List.mem_append_left _ (List.mem_append_left _ (List.mem_append_left _ (List.mem_append_left _ (List.mem_append_left _ (List.mem_append_right _ (h)))))))
theorem gj_X8_recordFields_2 : GpS (wsX60) wsX8_recordFields := fun w h => List.mem_cons_of_mem _ (List.mem_append_left _ (List.mem_append_left _ (List.mem_append_left _ (List.mem_append_left _ (List.mem_append_right _ (h))))))
theorem gj_X8_recordFields_3 : GpS (wsX70) wsX8_recordFields := fun w h => List.mem_cons_of_mem _ (List.mem_append_left _ (List.mem_append_left _ (List.mem_append_left _ (List.mem_append_right _ (h)))))
theorem gj_X8_recordFields_4 : GpS (wsX40) wsX8_recordFields := fun w h => List.mem_cons_of_mem _ (List.mem_append_left _ (List.mem_append_left _ (List.mem_append_right _ (h))))
theorem gj_X8_recordFields_5 : GpS (wsX50) wsX8_recordFields := fun w h => List.mem_cons_of_mem _ (List.mem_append_left _ (List.mem_append_right _ (h)))
theorem gj_X8_recordFields_6 : GpS (wsX80) wsX8_recordFields := fun w h => List.mem_cons_of_mem _ (List.mem_append_right _ (h))
set_option maxRecDepth 20000 in
theorem ggX8_recordFields_X8_recordedValue : GoodIn wsX8_recordFields wsX8_recordedValue := gp_s (gp_c (gj_X8_recordFields_0 _ (gp_4 (gp_4 (gp_1 (gp_1 (gp_1 gp_h)))))) (gp_a (gp_a (gp_a (gp_a (gp_a (gp_a (gp_c (gj_X8_recordFields_0 _ (gp_h)) (gp_c (gj_X8_recordFields_0 _ (gp_4 (gp_1 gp_h))) (gp_c (gj_X8_recordFields_0 _ (gp_4 (gp_4 (gp_4 gp_h)))) (gp_c (gj_X8_recordFields_0 _ (gp_4 (gp_4 (gp_4 (gp_1 gp_h))))) (gp_c (gj_X8_recordFields_0 _ (gp_4 (gp_4 (gp_4 (gp_1 (gp_1 gp_h)))))) (gp_c (gj_X8_recordFields_0 _ (gp_4 (gp_4 (gp_4 (gp_1 (gp_1 (gp_1 gp_h))))))) (gp_c (gj_X8_recordFields_0 _ (gp_16 gp_h)) (gp_c (gj_X8_recordFields_0 _ (gp_4 (gp_4 (gp_1 (gp_1 gp_h))))) (gp_c (gj_X8_recordFields_0 _ (gp_16 (gp_1 gp_h))) (gp_c (gj_X8_recordFields_0 _ (gp_16 (gp_1 (gp_1 gp_h)))) (gp_c (gj_X8_recordFields_0 _ (gp_16 (gp_1 (gp_1 (gp_1 gp_h))))) (gp_c (gj_X8_recordFields_0 _ (gp_16 (gp_4 gp_h))) (gp_c (gj_X8_recordFields_0 _ (gp_16 (gp_4 (gp_1 gp_h)))) (gp_c (gj_X8_recordFields_0 _ (gp_16 (gp_4 (gp_1 (gp_1 gp_h))))) (gp_c (gj_X8_recordFields_0 _ (gp_16 (gp_4 (gp_1 (gp_1 (gp_1 gp_h)))))) (gp_c (gj_X8_recordFields_1 _ (gp_h)) (gp_c (gj_X8_recordFields_1 _ (gp_1 gp_h)) (gp_c (gj_X8_recordFields_1 _ (gp_1 (gp_1 gp_h))) (gp_c (gj_X8_recordFields_1 _ (gp_1 (gp_1 (gp_1 gp_h)))) (gp_c (gj_X8_recordFields_1 _ (gp_4 gp_h)) (gp_c (gj_X8_recordFields_1 _ (gp_4 (gp_1 gp_h))) (gp_c (gj_X8_recordFields_1 _ (gp_4 (gp_1 (gp_1 gp_h)))) (gp_c (gj_X8_recordFields_1 _ (gp_4 (gp_1 (gp_1 (gp_1 gp_h))))) (gp_c (gj_X8_recordFields_1 _ (gp_4 (gp_4 gp_h))) (gp_n))))))))))))))))))))))))) (gp_c (gj_X8_recordFields_1 _ (gp_4 (gp_4 (gp_1 gp_h)))) (gp_c (gj_X8_recordFields_1 _ (gp_4 (gp_4 (gp_1 (gp_1 gp_h))))) (gp_c (gj_X8_recordFields_1 _ (gp_4 (gp_4 (gp_1 (gp_1 (gp_1 gp_h)))))) (gp_c (gj_X8_recordFields_1 _ (gp_4 (gp_4 (gp_4 gp_h)))) (gp_c (gj_X8_recordFields_1 _ (gp_4 (gp_4 (gp_4 (gp_1 gp_h))))) (gp_c (gj_X8_recordFields_1 _ (gp_4 (gp_4 (gp_4 (gp_1 (gp_1 gp_h)))))) (gp_c (gj_X8_recordFields_1 _ (gp_4 (gp_4 (gp_4 (gp_1 (gp_1 (gp_1 gp_h))))))) (gp_c (gj_X8_recordFields_1 _ (gp_16 gp_h)) (gp_c (gj_X8_recordFields_1 _ (gp_16 (gp_1 gp_h))) (gp_c (gj_X8_recordFields_1 _ (gp_16 (gp_1 (gp_1 gp_h)))) (gp_c (gj_X8_recordFields_1 _ (gp_16 (gp_1 (gp_1 (gp_1 gp_h))))) (gp_c (gj_X8_recordFields_0 _ (gp_1 gp_h)) (gp_n)))))))))))))) (gj_X8_recordFields_2)) (gj_X8_recordFields_3)) (gj_X8_recordFields_5)) (gj_X8_recordFields_4)) (gj_X8_recordFields_6))) gb_X8_recordedValue
set_option maxRecDepth 20000 in
theorem gX8_recordFields_X8_recordedValue : GoodIn wsX8_recordFields (wsV RX8 343 RX8 yX8_recordedValue wsX8_recordedValue) := goodIn_app (gp_s (gp_c (gj_X8_recordFields_0 _ (gp_4 (gp_1 (gp_1 (gp_1 gp_h))))) (gp_c (gj_X8_recordFields_0 _ (gp_4 (gp_4 gp_h))) (gp_c (gj_X8_recordFields_0 _ (gp_4 (gp_4 (gp_1 gp_h)))) (gp_c (gj_X8_recordFields_0 _ (gp_4 (gp_4 (gp_1 (gp_1 gp_h))))) (gp_n))))) (gp_v)) ggX8_recordFields_X8_recordedValue
noncomputable def nX8_recordFields : Nat := 0xb1b8ffa7010484505701b62d04152b2a05155601b42d4f2e04158700b46100b42b05155501b42d4f2e04154001b46100b42b0515e000b42d053660041568081c4200a25500b46100b42b0415043603
theorem bX8_recordFields : Bts cX8_recordFields nX8_recordFields 79 := by unfold Bts; decide +kernel
theorem dX8_recordFields_0 : decode cX8_recordFields 0 = .ok (.iconst 0, 1) := dz_3 (b_1 bX8_recordFields (by decide +kernel))
theorem dX8_recordFields_1 : decode cX8_recordFields 1 = .ok (.istore 4, 2) := dz_54 (b_2 (a := 4) bX8_recordFields (by decide +kernel))
theorem dX8_recordFields_3 : decode cX8_recordFields 3 = .ok (.iload 4, 2) := dz_21 (b_2 (a := 4) bX8_recordFields (by decide +kernel))
theorem dX8_recordFields_5 : decode cX8_recordFields 5 = .ok (.aload_n 1, 1) := dz_43 (b_1 bX8_recordFields (by decide +kernel))
theorem dX8_recordFields_6 : decode cX8_recordFields 6 = .ok (.getfield 97, 3) := dz_180 (b_3 (a := 0) (b := 97) bX8_recordFields (by decide +kernel))
theorem dX8_recordFields_9 : decode cX8_recordFields 9 = .ok (.getfield 85, 3) := dz_180 (b_3 (a := 0) (b := 85) bX8_recordFields (by decide +kernel))
theorem dX8_recordFields_12 : decode cX8_recordFields 12 = .ok (.if_icmp .ge 66, 3) := dz_162 (b_3 (a := 0) (b := 66) bX8_recordFields (by decide +kernel)) (by decide +kernel)
theorem dX8_recordFields_15 : decode cX8_recordFields 15 = .ok (.iload_n 2, 1) := dz_28 (b_1 bX8_recordFields (by decide +kernel))
theorem dX8_recordFields_16 : decode cX8_recordFields 16 = .ok (.iconst 5, 1) := dz_8 (b_1 bX8_recordFields (by decide +kernel))
theorem dX8_recordFields_17 : decode cX8_recordFields 17 = .ok (.imul, 1) := dz_104 (b_1 bX8_recordFields (by decide +kernel))
theorem dX8_recordFields_18 : decode cX8_recordFields 18 = .ok (.iload 4, 2) := dz_21 (b_2 (a := 4) bX8_recordFields (by decide +kernel))
theorem dX8_recordFields_20 : decode cX8_recordFields 20 = .ok (.iadd, 1) := dz_96 (b_1 bX8_recordFields (by decide +kernel))
theorem dX8_recordFields_21 : decode cX8_recordFields 21 = .ok (.istore 5, 2) := dz_54 (b_2 (a := 5) bX8_recordFields (by decide +kernel))
theorem dX8_recordFields_23 : decode cX8_recordFields 23 = .ok (.aload_n 3, 1) := dz_45 (b_1 bX8_recordFields (by decide +kernel))
theorem dX8_recordFields_24 : decode cX8_recordFields 24 = .ok (.getfield 224, 3) := dz_180 (b_3 (a := 0) (b := 224) bX8_recordFields (by decide +kernel))
theorem dX8_recordFields_27 : decode cX8_recordFields 27 = .ok (.iload 5, 2) := dz_21 (b_2 (a := 5) bX8_recordFields (by decide +kernel))
theorem dX8_recordFields_29 : decode cX8_recordFields 29 = .ok (.aload_n 1, 1) := dz_43 (b_1 bX8_recordFields (by decide +kernel))
theorem dX8_recordFields_30 : decode cX8_recordFields 30 = .ok (.getfield 97, 3) := dz_180 (b_3 (a := 0) (b := 97) bX8_recordFields (by decide +kernel))
theorem dX8_recordFields_33 : decode cX8_recordFields 33 = .ok (.getfield 320, 3) := dz_180 (b_3 (a := 1) (b := 64) bX8_recordFields (by decide +kernel))
theorem dX8_recordFields_36 : decode cX8_recordFields 36 = .ok (.iload 4, 2) := dz_21 (b_2 (a := 4) bX8_recordFields (by decide +kernel))
theorem dX8_recordFields_38 : decode cX8_recordFields 38 = .ok (.iaload, 1) := dz_46 (b_1 bX8_recordFields (by decide +kernel))
theorem dX8_recordFields_39 : decode cX8_recordFields 39 = .ok (.iastore, 1) := dz_79 (b_1 bX8_recordFields (by decide +kernel))
theorem dX8_recordFields_40 : decode cX8_recordFields 40 = .ok (.aload_n 3, 1) := dz_45 (b_1 bX8_recordFields (by decide +kernel))
theorem dX8_recordFields_41 : decode cX8_recordFields 41 = .ok (.getfield 341, 3) := dz_180 (b_3 (a := 1) (b := 85) bX8_recordFields (by decide +kernel))
theorem dX8_recordFields_44 : decode cX8_recordFields 44 = .ok (.iload 5, 2) := dz_21 (b_2 (a := 5) bX8_recordFields (by decide +kernel))
theorem dX8_recordFields_46 : decode cX8_recordFields 46 = .ok (.aload_n 1, 1) := dz_43 (b_1 bX8_recordFields (by decide +kernel))
theorem dX8_recordFields_47 : decode cX8_recordFields 47 = .ok (.getfield 97, 3) := dz_180 (b_3 (a := 0) (b := 97) bX8_recordFields (by decide +kernel))
theorem dX8_recordFields_50 : decode cX8_recordFields 50 = .ok (.getfield 135, 3) := dz_180 (b_3 (a := 0) (b := 135) bX8_recordFields (by decide +kernel))
theorem dX8_recordFields_53 : decode cX8_recordFields 53 = .ok (.iload 4, 2) := dz_21 (b_2 (a := 4) bX8_recordFields (by decide +kernel))
theorem dX8_recordFields_55 : decode cX8_recordFields 55 = .ok (.iaload, 1) := dz_46 (b_1 bX8_recordFields (by decide +kernel))
theorem dX8_recordFields_56 : decode cX8_recordFields 56 = .ok (.iastore, 1) := dz_79 (b_1 bX8_recordFields (by decide +kernel))
theorem dX8_recordFields_57 : decode cX8_recordFields 57 = .ok (.aload_n 3, 1) := dz_45 (b_1 bX8_recordFields (by decide +kernel))
theorem dX8_recordFields_58 : decode cX8_recordFields 58 = .ok (.getfield 342, 3) := dz_180 (b_3 (a := 1) (b := 86) bX8_recordFields (by decide +kernel))
theorem dX8_recordFields_61 : decode cX8_recordFields 61 = .ok (.iload 5, 2) := dz_21 (b_2 (a := 5) bX8_recordFields (by decide +kernel))
theorem dX8_recordFields_63 : decode cX8_recordFields 63 = .ok (.aload_n 0, 1) := dz_42 (b_1 bX8_recordFields (by decide +kernel))
theorem dX8_recordFields_64 : decode cX8_recordFields 64 = .ok (.aload_n 1, 1) := dz_43 (b_1 bX8_recordFields (by decide +kernel))
theorem dX8_recordFields_65 : decode cX8_recordFields 65 = .ok (.iload 4, 2) := dz_21 (b_2 (a := 4) bX8_recordFields (by decide +kernel))
theorem dX8_recordFields_67 : decode cX8_recordFields 67 = .ok (.aload_n 3, 1) := dz_45 (b_1 bX8_recordFields (by decide +kernel))
theorem dX8_recordFields_68 : decode cX8_recordFields 68 = .ok (.invokevirtual 343, 3) := dz_182 (b_3 (a := 1) (b := 87) bX8_recordFields (by decide +kernel))
theorem dX8_recordFields_71 : decode cX8_recordFields 71 = .ok (.lastore, 1) := dz_80 (b_1 bX8_recordFields (by decide +kernel))
theorem dX8_recordFields_72 : decode cX8_recordFields 72 = .ok (.iinc 4 1, 3) := dz_132 (b_3 (a := 4) (b := 1) bX8_recordFields (by decide +kernel)) (by decide +kernel)
theorem dX8_recordFields_75 : decode cX8_recordFields 75 = .ok (.goto (-72), 3) := dz_167 (b_3 (a := 255) (b := 184) bX8_recordFields (by decide +kernel)) (by decide +kernel)
theorem dX8_recordFields_78 : decode cX8_recordFields 78 = .ok (.return_, 1) := dz_177 (b_1 bX8_recordFields (by decide +kernel))
theorem gj_X8_recordedValue_0 : GpS (wsX8_recordedValue_r1) wsX8_recordedValue := fun w h => List.mem_cons_of_mem _ (List.mem_append_left _ (List.mem_append_left _ (List.mem_append_left _ (List.mem_append_left _ (List.mem_append_left _ (List.mem_append_left _ (h)))))))
set_option maxRecDepth 20000 in
theorem ggX8_recordedValue_X8_isRowLane : GoodIn wsX8_recordedValue wsX8_isRowLane := gp_s (gp_c (gj_X8_recordedValue_0 _ (gp_4 (gp_4 gp_h))) (gp_n)) gb_X8_isRowLane
set_option maxRecDepth 20000 in
theorem gX8_recordedValue_X8_isRowLane : GoodIn wsX8_recordedValue (va_wsS RX8 150 yX8_isRowLane wsX8_isRowLane) := goodIn_app (gp_s (gp_c (gj_X8_recordedValue_0 _ (gp_4 (gp_1 gp_h))) (gp_c (gj_X8_recordedValue_0 _ (gp_4 (gp_1 (gp_1 gp_h)))) (gp_c (gj_X8_recordedValue_0 _ (gp_4 (gp_1 (gp_1 (gp_1 gp_h))))) (gp_n)))) (gp_t)) ggX8_recordedValue_X8_isRowLane
theorem gb_X4_numberOf : wsX4_numberOf.all goodWord = true := by decide +kernel
theorem gj_X8_recordedValue_4 : GpS (wsX50) wsX8_recordedValue := fun w h => List.mem_cons_of_mem _ (List.mem_append_left _ (List.mem_append_left _ (List.mem_append_right _ (h))))
theorem gj_X8_recordedValue_5 : GpS (wsX40) wsX8_recordedValue := fun w h => List.mem_cons_of_mem _ (List.mem_append_left _ (List.mem_append_right _ (h)))
set_option maxRecDepth 20000 in
theorem ggX8_recordedValue_X4_numberOf : GoodIn wsX8_recordedValue wsX4_numberOf := gp_s (gp_c (gj_X8_recordedValue_0 _ (gp_4 (gp_4 (gp_4 (gp_1 gp_h))))) (gp_a (gp_a (gp_c (gj_X8_recordedValue_0 _ (gp_4 (gp_4 (gp_4 (gp_1 (gp_1 gp_h)))))) (gp_c (gj_X8_recordedValue_0 _ (gp_4 (gp_4 (gp_4 (gp_1 (gp_1 (gp_1 gp_h))))))) (gp_c (gj_X8_recordedValue_0 _ (gp_16 gp_h)) (gp_c (gj_X8_recordedValue_0 _ (gp_16 (gp_1 gp_h))) (gp_c (gj_X8_recordedValue_0 _ (gp_16 (gp_1 (gp_1 gp_h)))) (gp_n)))))) (gj_X8_recordedValue_4)) (gj_X8_recordedValue_5))) gb_X4_numberOf
set_option maxRecDepth 20000 in
theorem gX8_recordedValue_X4_numberOf : GoodIn wsX8_recordedValue (wsV RX8 347 RX4 yX4_numberOf wsX4_numberOf) := goodIn_app (gp_s (gp_c (gj_X8_recordedValue_0 _ (gp_4 (gp_4 (gp_1 gp_h)))) (gp_c (gj_X8_recordedValue_0 _ (gp_4 (gp_4 (gp_1 (gp_1 gp_h))))) (gp_c (gj_X8_recordedValue_0 _ (gp_4 (gp_4 (gp_1 (gp_1 (gp_1 gp_h)))))) (gp_c (gj_X8_recordedValue_0 _ (gp_4 (gp_4 (gp_4 gp_h)))) (gp_n))))) (gp_v)) ggX8_recordedValue_X4_numberOf
theorem gj_X8_recordedValue_1 : GpS (wsX8_recordedValue_r2) wsX8_recordedValue := fun w h => List.mem_cons_of_mem _ (List.mem_append_left _ (List.mem_append_left _ (List.mem_append_left _ (List.mem_append_left _ (List.mem_append_left _ (List.mem_append_right _ (h)))))))
theorem gj_X8_recordedValue_6 : GpS (wsX80) wsX8_recordedValue := fun w h => List.mem_cons_of_mem _ (List.mem_append_right _ (h))
set_option maxRecDepth 20000 in
theorem ggX8_recordedValue_X8_thingNumbered : GoodIn wsX8_recordedValue wsX8_thingNumbered := gp_s (gp_c (gj_X8_recordedValue_0 _ (gp_16 (gp_4 (gp_1 (gp_1 gp_h))))) (gp_a (gp_c (gj_X8_recordedValue_0 _ (gp_16 (gp_4 (gp_1 (gp_1 (gp_1 gp_h)))))) (gp_c (gj_X8_recordedValue_1 _ (gp_h)) (gp_n))) (gj_X8_recordedValue_6))) gb_X8_thingNumbered
set_option maxRecDepth 20000 in
theorem gX8_recordedValue_X8_thingNumbered : GoodIn wsX8_recordedValue (wsV RX8 177 RX8 yX8_thingNumbered wsX8_thingNumbered) := goodIn_app (gp_s (gp_c (gj_X8_recordedValue_0 _ (gp_16 (gp_1 (gp_1 (gp_1 gp_h))))) (gp_c (gj_X8_recordedValue_0 _ (gp_16 (gp_4 gp_h))) (gp_c (gj_X8_recordedValue_0 _ (gp_16 (gp_4 (gp_1 gp_h)))) (gp_c (gj_X8_recordedValue_0 _ (gp_4 (gp_1 (gp_1 (gp_1 gp_h))))) (gp_n))))) (gp_v)) ggX8_recordedValue_X8_thingNumbered
theorem gj_X8_recordedValue_2 : GpS (wsX60) wsX8_recordedValue := fun w h => List.mem_cons_of_mem _ (List.mem_append_left _ (List.mem_append_left _ (List.mem_append_left _ (List.mem_append_left _ (List.mem_append_right _ (h))))))
theorem gj_X8_recordedValue_3 : GpS (wsX70) wsX8_recordedValue := fun w h => List.mem_cons_of_mem _ (List.mem_append_left _ (List.mem_append_left _ (List.mem_append_left _ (List.mem_append_right _ (h)))))
set_option maxRecDepth 20000 in
theorem ggX8_recordedValue_X8_recordNumberOf : GoodIn wsX8_recordedValue wsX8_recordNumberOf := gp_s (gp_c (gj_X8_recordedValue_1 _ (gp_4 gp_h)) (gp_a (gp_a (gp_a (gp_a (gp_c (gj_X8_recordedValue_1 _ (gp_4 (gp_1 gp_h))) (gp_c (gj_X8_recordedValue_1 _ (gp_4 (gp_1 (gp_1 gp_h)))) (gp_c (gj_X8_recordedValue_1 _ (gp_4 (gp_1 (gp_1 (gp_1 gp_h))))) (gp_c (gj_X8_recordedValue_1 _ (gp_4 (gp_4 gp_h))) (gp_c (gj_X8_recordedValue_0 _ (gp_h)) (gp_c (gj_X8_recordedValue_1 _ (gp_4 (gp_4 (gp_1 gp_h)))) (gp_c (gj_X8_recordedValue_1 _ (gp_4 (gp_4 (gp_1 (gp_1 gp_h))))) (gp_c (gj_X8_recordedValue_1 _ (gp_4 (gp_4 (gp_1 (gp_1 (gp_1 gp_h)))))) (gp_n))))))))) (gj_X8_recordedValue_2)) (gj_X8_recordedValue_5)) (gj_X8_recordedValue_6)) (gj_X8_recordedValue_3))) gb_X8_recordNumberOf
set_option maxRecDepth 20000 in
theorem gX8_recordedValue_X8_recordNumberOf : GoodIn wsX8_recordedValue (wsV RX8 324 RX8 yX8_recordNumberOf wsX8_recordNumberOf) := goodIn_app (gp_s (gp_c (gj_X8_recordedValue_1 _ (gp_1 gp_h)) (gp_c (gj_X8_recordedValue_1 _ (gp_1 (gp_1 gp_h))) (gp_c (gj_X8_recordedValue_1 _ (gp_1 (gp_1 (gp_1 gp_h)))) (gp_c (gj_X8_recordedValue_0 _ (gp_4 (gp_1 (gp_1 (gp_1 gp_h))))) (gp_n))))) (gp_v)) ggX8_recordedValue_X8_recordNumberOf
noncomputable def nX8_recordedValue : Nat := 0xad2f1cc100b42bad854401b62d05192a0b00a75800140900c70519053ab100b62f1cc100b42b2a2300a0050415ad855b01b6321c9e00b42b2d0e00a75800140900c7321c9e00b42b1e00999600b8041504362e1c8700b46100b42b
theorem bX8_recordedValue : Bts cX8_recordedValue nX8_recordedValue 91 := by unfold Bts; decide +kernel
theorem dX8_recordedValue_0 : decode cX8_recordedValue 0 = .ok (.aload_n 1, 1) := dz_43 (b_1 bX8_recordedValue (by decide +kernel))
theorem dX8_recordedValue_1 : decode cX8_recordedValue 1 = .ok (.getfield 97, 3) := dz_180 (b_3 (a := 0) (b := 97) bX8_recordedValue (by decide +kernel))
theorem dX8_recordedValue_4 : decode cX8_recordedValue 4 = .ok (.getfield 135, 3) := dz_180 (b_3 (a := 0) (b := 135) bX8_recordedValue (by decide +kernel))
theorem dX8_recordedValue_7 : decode cX8_recordedValue 7 = .ok (.iload_n 2, 1) := dz_28 (b_1 bX8_recordedValue (by decide +kernel))
theorem dX8_recordedValue_8 : decode cX8_recordedValue 8 = .ok (.iaload, 1) := dz_46 (b_1 bX8_recordedValue (by decide +kernel))
theorem dX8_recordedValue_9 : decode cX8_recordedValue 9 = .ok (.istore 4, 2) := dz_54 (b_2 (a := 4) bX8_recordedValue (by decide +kernel))
theorem dX8_recordedValue_11 : decode cX8_recordedValue 11 = .ok (.iload 4, 2) := dz_21 (b_2 (a := 4) bX8_recordedValue (by decide +kernel))
theorem dX8_recordedValue_13 : decode cX8_recordedValue 13 = .ok (.invokestatic 150, 3) := dz_184 (b_3 (a := 0) (b := 150) bX8_recordedValue (by decide +kernel))
theorem dX8_recordedValue_16 : decode cX8_recordedValue 16 = .ok (.ifCond .eq 30, 3) := dz_153 (b_3 (a := 0) (b := 30) bX8_recordedValue (by decide +kernel)) (by decide +kernel)
theorem dX8_recordedValue_19 : decode cX8_recordedValue 19 = .ok (.aload_n 1, 1) := dz_43 (b_1 bX8_recordedValue (by decide +kernel))
theorem dX8_recordedValue_20 : decode cX8_recordedValue 20 = .ok (.getfield 158, 3) := dz_180 (b_3 (a := 0) (b := 158) bX8_recordedValue (by decide +kernel))
theorem dX8_recordedValue_23 : decode cX8_recordedValue 23 = .ok (.iload_n 2, 1) := dz_28 (b_1 bX8_recordedValue (by decide +kernel))
theorem dX8_recordedValue_24 : decode cX8_recordedValue 24 = .ok (.aaload, 1) := dz_50 (b_1 bX8_recordedValue (by decide +kernel))
theorem dX8_recordedValue_25 : decode cX8_recordedValue 25 = .ok (.ifnonnull 9, 3) := dz_199 (b_3 (a := 0) (b := 9) bX8_recordedValue (by decide +kernel)) (by decide +kernel)
theorem dX8_recordedValue_28 : decode cX8_recordedValue 28 = .ok (.ldc2_w 88, 3) := dz_20 (b_3 (a := 0) (b := 88) bX8_recordedValue (by decide +kernel))
theorem dX8_recordedValue_31 : decode cX8_recordedValue 31 = .ok (.goto 14, 3) := dz_167 (b_3 (a := 0) (b := 14) bX8_recordedValue (by decide +kernel)) (by decide +kernel)
theorem dX8_recordedValue_34 : decode cX8_recordedValue 34 = .ok (.aload_n 3, 1) := dz_45 (b_1 bX8_recordedValue (by decide +kernel))
theorem dX8_recordedValue_35 : decode cX8_recordedValue 35 = .ok (.aload_n 1, 1) := dz_43 (b_1 bX8_recordedValue (by decide +kernel))
theorem dX8_recordedValue_36 : decode cX8_recordedValue 36 = .ok (.getfield 158, 3) := dz_180 (b_3 (a := 0) (b := 158) bX8_recordedValue (by decide +kernel))
theorem dX8_recordedValue_39 : decode cX8_recordedValue 39 = .ok (.iload_n 2, 1) := dz_28 (b_1 bX8_recordedValue (by decide +kernel))
theorem dX8_recordedValue_40 : decode cX8_recordedValue 40 = .ok (.aaload, 1) := dz_50 (b_1 bX8_recordedValue (by decide +kernel))
theorem dX8_recordedValue_41 : decode cX8_recordedValue 41 = .ok (.invokevirtual 347, 3) := dz_182 (b_3 (a := 1) (b := 91) bX8_recordedValue (by decide +kernel))
theorem dX8_recordedValue_44 : decode cX8_recordedValue 44 = .ok (.i2l, 1) := dz_133 (b_1 bX8_recordedValue (by decide +kernel))
theorem dX8_recordedValue_45 : decode cX8_recordedValue 45 = .ok (.lreturn, 1) := dz_173 (b_1 bX8_recordedValue (by decide +kernel))
theorem dX8_recordedValue_46 : decode cX8_recordedValue 46 = .ok (.iload 4, 2) := dz_21 (b_2 (a := 4) bX8_recordedValue (by decide +kernel))
theorem dX8_recordedValue_48 : decode cX8_recordedValue 48 = .ok (.iconst 2, 1) := dz_5 (b_1 bX8_recordedValue (by decide +kernel))
theorem dX8_recordedValue_49 : decode cX8_recordedValue 49 = .ok (.if_icmp .ne 35, 3) := dz_160 (b_3 (a := 0) (b := 35) bX8_recordedValue (by decide +kernel)) (by decide +kernel)
theorem dX8_recordedValue_52 : decode cX8_recordedValue 52 = .ok (.aload_n 0, 1) := dz_42 (b_1 bX8_recordedValue (by decide +kernel))
theorem dX8_recordedValue_53 : decode cX8_recordedValue 53 = .ok (.aload_n 1, 1) := dz_43 (b_1 bX8_recordedValue (by decide +kernel))
theorem dX8_recordedValue_54 : decode cX8_recordedValue 54 = .ok (.getfield 193, 3) := dz_180 (b_3 (a := 0) (b := 193) bX8_recordedValue (by decide +kernel))
theorem dX8_recordedValue_57 : decode cX8_recordedValue 57 = .ok (.iload_n 2, 1) := dz_28 (b_1 bX8_recordedValue (by decide +kernel))
theorem dX8_recordedValue_58 : decode cX8_recordedValue 58 = .ok (.laload, 1) := dz_47 (b_1 bX8_recordedValue (by decide +kernel))
theorem dX8_recordedValue_59 : decode cX8_recordedValue 59 = .ok (.invokevirtual 177, 3) := dz_182 (b_3 (a := 0) (b := 177) bX8_recordedValue (by decide +kernel))
theorem dX8_recordedValue_62 : decode cX8_recordedValue 62 = .ok (.astore 5, 2) := dz_58 (b_2 (a := 5) bX8_recordedValue (by decide +kernel))
theorem dX8_recordedValue_64 : decode cX8_recordedValue 64 = .ok (.aload 5, 2) := dz_25 (b_2 (a := 5) bX8_recordedValue (by decide +kernel))
theorem dX8_recordedValue_66 : decode cX8_recordedValue 66 = .ok (.ifnonnull 9, 3) := dz_199 (b_3 (a := 0) (b := 9) bX8_recordedValue (by decide +kernel)) (by decide +kernel)
theorem dX8_recordedValue_69 : decode cX8_recordedValue 69 = .ok (.ldc2_w 88, 3) := dz_20 (b_3 (a := 0) (b := 88) bX8_recordedValue (by decide +kernel))
theorem dX8_recordedValue_72 : decode cX8_recordedValue 72 = .ok (.goto 11, 3) := dz_167 (b_3 (a := 0) (b := 11) bX8_recordedValue (by decide +kernel)) (by decide +kernel)
theorem dX8_recordedValue_75 : decode cX8_recordedValue 75 = .ok (.aload_n 0, 1) := dz_42 (b_1 bX8_recordedValue (by decide +kernel))
theorem dX8_recordedValue_76 : decode cX8_recordedValue 76 = .ok (.aload 5, 2) := dz_25 (b_2 (a := 5) bX8_recordedValue (by decide +kernel))
theorem dX8_recordedValue_78 : decode cX8_recordedValue 78 = .ok (.aload_n 3, 1) := dz_45 (b_1 bX8_recordedValue (by decide +kernel))
theorem dX8_recordedValue_79 : decode cX8_recordedValue 79 = .ok (.invokevirtual 324, 3) := dz_182 (b_3 (a := 1) (b := 68) bX8_recordedValue (by decide +kernel))
theorem dX8_recordedValue_82 : decode cX8_recordedValue 82 = .ok (.i2l, 1) := dz_133 (b_1 bX8_recordedValue (by decide +kernel))
theorem dX8_recordedValue_83 : decode cX8_recordedValue 83 = .ok (.lreturn, 1) := dz_173 (b_1 bX8_recordedValue (by decide +kernel))
theorem dX8_recordedValue_84 : decode cX8_recordedValue 84 = .ok (.aload_n 1, 1) := dz_43 (b_1 bX8_recordedValue (by decide +kernel))
theorem dX8_recordedValue_85 : decode cX8_recordedValue 85 = .ok (.getfield 193, 3) := dz_180 (b_3 (a := 0) (b := 193) bX8_recordedValue (by decide +kernel))
theorem dX8_recordedValue_88 : decode cX8_recordedValue 88 = .ok (.iload_n 2, 1) := dz_28 (b_1 bX8_recordedValue (by decide +kernel))
theorem dX8_recordedValue_89 : decode cX8_recordedValue 89 = .ok (.laload, 1) := dz_47 (b_1 bX8_recordedValue (by decide +kernel))
theorem dX8_recordedValue_90 : decode cX8_recordedValue 90 = .ok (.lreturn, 1) := dz_173 (b_1 bX8_recordedValue (by decide +kernel))
noncomputable def nX8_firstShutSlot : Nat := 0xac02c8ffa7010284e3ffa7010484ac60041568081c0a00993304157000b42d1a00a25500b42d04150436034e6100b4321c2700b42a3600a2e700b42b1c3d03
theorem bX8_firstShutSlot : Bts cX8_firstShutSlot nX8_firstShutSlot 63 := by unfold Bts; decide +kernel
theorem dX8_firstShutSlot_0 : decode cX8_firstShutSlot 0 = .ok (.iconst 0, 1) := dz_3 (b_1 bX8_firstShutSlot (by decide +kernel))
theorem dX8_firstShutSlot_1 : decode cX8_firstShutSlot 1 = .ok (.istore_n 2, 1) := dz_61 (b_1 bX8_firstShutSlot (by decide +kernel))
theorem dX8_firstShutSlot_2 : decode cX8_firstShutSlot 2 = .ok (.iload_n 2, 1) := dz_28 (b_1 bX8_firstShutSlot (by decide +kernel))
theorem dX8_firstShutSlot_3 : decode cX8_firstShutSlot 3 = .ok (.aload_n 1, 1) := dz_43 (b_1 bX8_firstShutSlot (by decide +kernel))
theorem dX8_firstShutSlot_4 : decode cX8_firstShutSlot 4 = .ok (.getfield 231, 3) := dz_180 (b_3 (a := 0) (b := 231) bX8_firstShutSlot (by decide +kernel))
theorem dX8_firstShutSlot_7 : decode cX8_firstShutSlot 7 = .ok (.if_icmp .ge 54, 3) := dz_162 (b_3 (a := 0) (b := 54) bX8_firstShutSlot (by decide +kernel)) (by decide +kernel)
theorem dX8_firstShutSlot_10 : decode cX8_firstShutSlot 10 = .ok (.aload_n 0, 1) := dz_42 (b_1 bX8_firstShutSlot (by decide +kernel))
theorem dX8_firstShutSlot_11 : decode cX8_firstShutSlot 11 = .ok (.getfield 39, 3) := dz_180 (b_3 (a := 0) (b := 39) bX8_firstShutSlot (by decide +kernel))
theorem dX8_firstShutSlot_14 : decode cX8_firstShutSlot 14 = .ok (.iload_n 2, 1) := dz_28 (b_1 bX8_firstShutSlot (by decide +kernel))
theorem dX8_firstShutSlot_15 : decode cX8_firstShutSlot 15 = .ok (.aaload, 1) := dz_50 (b_1 bX8_firstShutSlot (by decide +kernel))
theorem dX8_firstShutSlot_16 : decode cX8_firstShutSlot 16 = .ok (.getfield 97, 3) := dz_180 (b_3 (a := 0) (b := 97) bX8_firstShutSlot (by decide +kernel))
theorem dX8_firstShutSlot_19 : decode cX8_firstShutSlot 19 = .ok (.astore_n 3, 1) := dz_78 (b_1 bX8_firstShutSlot (by decide +kernel))
theorem dX8_firstShutSlot_20 : decode cX8_firstShutSlot 20 = .ok (.iconst 0, 1) := dz_3 (b_1 bX8_firstShutSlot (by decide +kernel))
theorem dX8_firstShutSlot_21 : decode cX8_firstShutSlot 21 = .ok (.istore 4, 2) := dz_54 (b_2 (a := 4) bX8_firstShutSlot (by decide +kernel))
theorem dX8_firstShutSlot_23 : decode cX8_firstShutSlot 23 = .ok (.iload 4, 2) := dz_21 (b_2 (a := 4) bX8_firstShutSlot (by decide +kernel))
theorem dX8_firstShutSlot_25 : decode cX8_firstShutSlot 25 = .ok (.aload_n 3, 1) := dz_45 (b_1 bX8_firstShutSlot (by decide +kernel))
theorem dX8_firstShutSlot_26 : decode cX8_firstShutSlot 26 = .ok (.getfield 85, 3) := dz_180 (b_3 (a := 0) (b := 85) bX8_firstShutSlot (by decide +kernel))
theorem dX8_firstShutSlot_29 : decode cX8_firstShutSlot 29 = .ok (.if_icmp .ge 26, 3) := dz_162 (b_3 (a := 0) (b := 26) bX8_firstShutSlot (by decide +kernel)) (by decide +kernel)
theorem dX8_firstShutSlot_32 : decode cX8_firstShutSlot 32 = .ok (.aload_n 3, 1) := dz_45 (b_1 bX8_firstShutSlot (by decide +kernel))
theorem dX8_firstShutSlot_33 : decode cX8_firstShutSlot 33 = .ok (.getfield 112, 3) := dz_180 (b_3 (a := 0) (b := 112) bX8_firstShutSlot (by decide +kernel))
theorem dX8_firstShutSlot_36 : decode cX8_firstShutSlot 36 = .ok (.iload 4, 2) := dz_21 (b_2 (a := 4) bX8_firstShutSlot (by decide +kernel))
theorem dX8_firstShutSlot_38 : decode cX8_firstShutSlot 38 = .ok (.baload, 1) := dz_51 (b_1 bX8_firstShutSlot (by decide +kernel))
theorem dX8_firstShutSlot_39 : decode cX8_firstShutSlot 39 = .ok (.ifCond .eq 10, 3) := dz_153 (b_3 (a := 0) (b := 10) bX8_firstShutSlot (by decide +kernel)) (by decide +kernel)
theorem dX8_firstShutSlot_42 : decode cX8_firstShutSlot 42 = .ok (.iload_n 2, 1) := dz_28 (b_1 bX8_firstShutSlot (by decide +kernel))
theorem dX8_firstShutSlot_43 : decode cX8_firstShutSlot 43 = .ok (.iconst 5, 1) := dz_8 (b_1 bX8_firstShutSlot (by decide +kernel))
theorem dX8_firstShutSlot_44 : decode cX8_firstShutSlot 44 = .ok (.imul, 1) := dz_104 (b_1 bX8_firstShutSlot (by decide +kernel))
theorem dX8_firstShutSlot_45 : decode cX8_firstShutSlot 45 = .ok (.iload 4, 2) := dz_21 (b_2 (a := 4) bX8_firstShutSlot (by decide +kernel))
theorem dX8_firstShutSlot_47 : decode cX8_firstShutSlot 47 = .ok (.iadd, 1) := dz_96 (b_1 bX8_firstShutSlot (by decide +kernel))
theorem dX8_firstShutSlot_48 : decode cX8_firstShutSlot 48 = .ok (.ireturn, 1) := dz_172 (b_1 bX8_firstShutSlot (by decide +kernel))
theorem dX8_firstShutSlot_49 : decode cX8_firstShutSlot 49 = .ok (.iinc 4 1, 3) := dz_132 (b_3 (a := 4) (b := 1) bX8_firstShutSlot (by decide +kernel)) (by decide +kernel)
theorem dX8_firstShutSlot_52 : decode cX8_firstShutSlot 52 = .ok (.goto (-29), 3) := dz_167 (b_3 (a := 255) (b := 227) bX8_firstShutSlot (by decide +kernel)) (by decide +kernel)
theorem dX8_firstShutSlot_55 : decode cX8_firstShutSlot 55 = .ok (.iinc 2 1, 3) := dz_132 (b_3 (a := 2) (b := 1) bX8_firstShutSlot (by decide +kernel)) (by decide +kernel)
theorem dX8_firstShutSlot_58 : decode cX8_firstShutSlot 58 = .ok (.goto (-56), 3) := dz_167 (b_3 (a := 255) (b := 200) bX8_firstShutSlot (by decide +kernel)) (by decide +kernel)
theorem dX8_firstShutSlot_61 : decode cX8_firstShutSlot 61 = .ok (.iconst (-1), 1) := dz_2 (b_1 bX8_firstShutSlot (by decide +kernel))
theorem dX8_firstShutSlot_62 : decode cX8_firstShutSlot 62 = .ok (.ireturn, 1) := dz_172 (b_1 bX8_firstShutSlot (by decide +kernel))
theorem gb_X4_hasShapeOf : wsX4_hasShapeOf.all goodWord = true := by decide +kernel
theorem gj_X8_firstDifference_0 : GpS (wsX8_firstDifference_r1) wsX8_firstDifference := fun w h => List.mem_cons_of_mem _ (List.mem_append_left _ (List.mem_append_left _ (h)))
theorem gj_X8_firstDifference_2 : GpS (wsX40) wsX8_firstDifference := fun w h => List.mem_cons_of_mem _ (List.mem_append_right _ (h))
set_option maxRecDepth 20000 in
theorem ggX8_firstDifference_X4_hasShapeOf : GoodIn wsX8_firstDifference wsX4_hasShapeOf := gp_s (gp_c (gj_X8_firstDifference_0 _ (gp_4 (gp_4 (gp_1 (gp_1 (gp_1 gp_h)))))) (gp_a (gp_c (gj_X8_firstDifference_0 _ (gp_4 (gp_4 (gp_4 gp_h)))) (gp_c (gj_X8_firstDifference_0 _ (gp_4 (gp_4 (gp_4 (gp_1 gp_h))))) (gp_c (gj_X8_firstDifference_0 _ (gp_4 (gp_4 (gp_4 (gp_1 (gp_1 gp_h)))))) (gp_c (gj_X8_firstDifference_0 _ (gp_4 (gp_4 (gp_4 (gp_1 (gp_1 (gp_1 gp_h))))))) (gp_c (gj_X8_firstDifference_0 _ (gp_16 gp_h)) (gp_n)))))) (gj_X8_firstDifference_2))) gb_X4_hasShapeOf
set_option maxRecDepth 20000 in
theorem gX8_firstDifference_X4_hasShapeOf : GoodIn wsX8_firstDifference (wsV RX8 357 RX4 yX4_hasShapeOf wsX4_hasShapeOf) := goodIn_app (gp_s (gp_c (gj_X8_firstDifference_0 _ (gp_4 (gp_1 (gp_1 (gp_1 gp_h))))) (gp_c (gj_X8_firstDifference_0 _ (gp_4 (gp_4 gp_h))) (gp_c (gj_X8_firstDifference_0 _ (gp_4 (gp_4 (gp_1 gp_h)))) (gp_c (gj_X8_firstDifference_0 _ (gp_4 (gp_4 (gp_1 (gp_1 gp_h))))) (gp_n))))) (gp_v)) ggX8_firstDifference_X4_hasShapeOf
theorem gb_X4_hasValueOf : wsX4_hasValueOf.all goodWord = true := by decide +kernel
theorem gj_X8_firstDifference_1 : GpS (wsX8_firstDifference_r2) wsX8_firstDifference := fun w h => List.mem_cons_of_mem _ (List.mem_append_left _ (List.mem_append_right _ (h)))
set_option maxRecDepth 20000 in
theorem ggX8_firstDifference_X4_hasValueOf : GoodIn wsX8_firstDifference wsX4_hasValueOf := gp_s (gp_c (gj_X8_firstDifference_0 _ (gp_16 (gp_4 gp_h))) (gp_a (gp_c (gj_X8_firstDifference_0 _ (gp_16 (gp_4 (gp_1 gp_h)))) (gp_c (gj_X8_firstDifference_0 _ (gp_16 gp_h)) (gp_c (gj_X8_firstDifference_0 _ (gp_16 (gp_4 (gp_1 (gp_1 gp_h))))) (gp_c (gj_X8_firstDifference_0 _ (gp_16 (gp_4 (gp_1 (gp_1 (gp_1 gp_h)))))) (gp_c (gj_X8_firstDifference_1 _ (gp_h)) (gp_c (gj_X8_firstDifference_1 _ (gp_1 gp_h)) (gp_c (gj_X8_firstDifference_1 _ (gp_1 (gp_1 gp_h))) (gp_c (gj_X8_firstDifference_1 _ (gp_1 (gp_1 (gp_1 gp_h)))) (gp_c (gj_X8_firstDifference_1 _ (gp_4 gp_h)) (gp_c (gj_X8_firstDifference_0 _ (gp_4 (gp_4 (gp_1 (gp_1 gp_h))))) (gp_c (gj_X8_firstDifference_1 _ (gp_4 (gp_1 gp_h))) (gp_c (gj_X8_firstDifference_1 _ (gp_4 (gp_1 (gp_1 gp_h)))) (gp_c (gj_X8_firstDifference_1 _ (gp_4 (gp_1 (gp_1 (gp_1 gp_h))))) (gp_n)))))))))))))) (gj_X8_firstDifference_2))) gb_X4_hasValueOf
set_option maxRecDepth 20000 in
theorem gX8_firstDifference_X4_hasValueOf : GoodIn wsX8_firstDifference (wsV RX8 361 RX4 yX4_hasValueOf wsX4_hasValueOf) := goodIn_app (gp_s (gp_c (gj_X8_firstDifference_0 _ (gp_16 (gp_1 gp_h))) (gp_c (gj_X8_firstDifference_0 _ (gp_16 (gp_1 (gp_1 gp_h)))) (gp_c (gj_X8_firstDifference_0 _ (gp_16 (gp_1 (gp_1 (gp_1 gp_h))))) (gp_c (gj_X8_firstDifference_0 _ (gp_4 (gp_4 (gp_1 (gp_1 gp_h))))) (gp_n))))) (gp_v)) ggX8_firstDifference_X4_hasValueOf
noncomputable def nX8_firstDifference : Nat := 0xac02b4ffa7010384d3ffa7010484ac602e0515e000b42a6864101d10009a6901b605152b2a053660041568081d2800a22e1d5201b42a0415043603ac6063106864101d0b009a6501b61d2b2a4d00a21c1d3e033d5f01b8e700b42be700b42a
theorem bX8_firstDifference : Bts cX8_firstDifference nX8_firstDifference 95 := by unfold Bts; decide +kernel
theorem dX8_firstDifference_0 : decode cX8_firstDifference 0 = .ok (.aload_n 0, 1) := dz_42 (b_1 bX8_firstDifference (by decide +kernel))
theorem dX8_firstDifference_1 : decode cX8_firstDifference 1 = .ok (.getfield 231, 3) := dz_180 (b_3 (a := 0) (b := 231) bX8_firstDifference (by decide +kernel))
theorem dX8_firstDifference_4 : decode cX8_firstDifference 4 = .ok (.aload_n 1, 1) := dz_43 (b_1 bX8_firstDifference (by decide +kernel))
theorem dX8_firstDifference_5 : decode cX8_firstDifference 5 = .ok (.getfield 231, 3) := dz_180 (b_3 (a := 0) (b := 231) bX8_firstDifference (by decide +kernel))
theorem dX8_firstDifference_8 : decode cX8_firstDifference 8 = .ok (.invokestatic 351, 3) := dz_184 (b_3 (a := 1) (b := 95) bX8_firstDifference (by decide +kernel))
theorem dX8_firstDifference_11 : decode cX8_firstDifference 11 = .ok (.istore_n 2, 1) := dz_61 (b_1 bX8_firstDifference (by decide +kernel))
theorem dX8_firstDifference_12 : decode cX8_firstDifference 12 = .ok (.iconst 0, 1) := dz_3 (b_1 bX8_firstDifference (by decide +kernel))
theorem dX8_firstDifference_13 : decode cX8_firstDifference 13 = .ok (.istore_n 3, 1) := dz_62 (b_1 bX8_firstDifference (by decide +kernel))
theorem dX8_firstDifference_14 : decode cX8_firstDifference 14 = .ok (.iload_n 3, 1) := dz_29 (b_1 bX8_firstDifference (by decide +kernel))
theorem dX8_firstDifference_15 : decode cX8_firstDifference 15 = .ok (.iload_n 2, 1) := dz_28 (b_1 bX8_firstDifference (by decide +kernel))
theorem dX8_firstDifference_16 : decode cX8_firstDifference 16 = .ok (.if_icmp .ge 77, 3) := dz_162 (b_3 (a := 0) (b := 77) bX8_firstDifference (by decide +kernel)) (by decide +kernel)
theorem dX8_firstDifference_19 : decode cX8_firstDifference 19 = .ok (.aload_n 0, 1) := dz_42 (b_1 bX8_firstDifference (by decide +kernel))
theorem dX8_firstDifference_20 : decode cX8_firstDifference 20 = .ok (.aload_n 1, 1) := dz_43 (b_1 bX8_firstDifference (by decide +kernel))
theorem dX8_firstDifference_21 : decode cX8_firstDifference 21 = .ok (.iload_n 3, 1) := dz_29 (b_1 bX8_firstDifference (by decide +kernel))
theorem dX8_firstDifference_22 : decode cX8_firstDifference 22 = .ok (.invokevirtual 357, 3) := dz_182 (b_3 (a := 1) (b := 101) bX8_firstDifference (by decide +kernel))
theorem dX8_firstDifference_25 : decode cX8_firstDifference 25 = .ok (.ifCond .ne 11, 3) := dz_154 (b_3 (a := 0) (b := 11) bX8_firstDifference (by decide +kernel)) (by decide +kernel)
theorem dX8_firstDifference_28 : decode cX8_firstDifference 28 = .ok (.iload_n 3, 1) := dz_29 (b_1 bX8_firstDifference (by decide +kernel))
theorem dX8_firstDifference_29 : decode cX8_firstDifference 29 = .ok (.bipush 100, 2) := dz_16 (b_2 (a := 100) bX8_firstDifference (by decide +kernel)) (by decide +kernel)
theorem dX8_firstDifference_31 : decode cX8_firstDifference 31 = .ok (.imul, 1) := dz_104 (b_1 bX8_firstDifference (by decide +kernel))
theorem dX8_firstDifference_32 : decode cX8_firstDifference 32 = .ok (.bipush 99, 2) := dz_16 (b_2 (a := 99) bX8_firstDifference (by decide +kernel)) (by decide +kernel)
theorem dX8_firstDifference_34 : decode cX8_firstDifference 34 = .ok (.iadd, 1) := dz_96 (b_1 bX8_firstDifference (by decide +kernel))
theorem dX8_firstDifference_35 : decode cX8_firstDifference 35 = .ok (.ireturn, 1) := dz_172 (b_1 bX8_firstDifference (by decide +kernel))
theorem dX8_firstDifference_36 : decode cX8_firstDifference 36 = .ok (.iconst 0, 1) := dz_3 (b_1 bX8_firstDifference (by decide +kernel))
theorem dX8_firstDifference_37 : decode cX8_firstDifference 37 = .ok (.istore 4, 2) := dz_54 (b_2 (a := 4) bX8_firstDifference (by decide +kernel))
theorem dX8_firstDifference_39 : decode cX8_firstDifference 39 = .ok (.iload 4, 2) := dz_21 (b_2 (a := 4) bX8_firstDifference (by decide +kernel))
theorem dX8_firstDifference_41 : decode cX8_firstDifference 41 = .ok (.aload_n 0, 1) := dz_42 (b_1 bX8_firstDifference (by decide +kernel))
theorem dX8_firstDifference_42 : decode cX8_firstDifference 42 = .ok (.getfield 338, 3) := dz_180 (b_3 (a := 1) (b := 82) bX8_firstDifference (by decide +kernel))
theorem dX8_firstDifference_45 : decode cX8_firstDifference 45 = .ok (.iload_n 3, 1) := dz_29 (b_1 bX8_firstDifference (by decide +kernel))
theorem dX8_firstDifference_46 : decode cX8_firstDifference 46 = .ok (.iaload, 1) := dz_46 (b_1 bX8_firstDifference (by decide +kernel))
theorem dX8_firstDifference_47 : decode cX8_firstDifference 47 = .ok (.if_icmp .ge 40, 3) := dz_162 (b_3 (a := 0) (b := 40) bX8_firstDifference (by decide +kernel)) (by decide +kernel)
theorem dX8_firstDifference_50 : decode cX8_firstDifference 50 = .ok (.iload_n 3, 1) := dz_29 (b_1 bX8_firstDifference (by decide +kernel))
theorem dX8_firstDifference_51 : decode cX8_firstDifference 51 = .ok (.iconst 5, 1) := dz_8 (b_1 bX8_firstDifference (by decide +kernel))
theorem dX8_firstDifference_52 : decode cX8_firstDifference 52 = .ok (.imul, 1) := dz_104 (b_1 bX8_firstDifference (by decide +kernel))
theorem dX8_firstDifference_53 : decode cX8_firstDifference 53 = .ok (.iload 4, 2) := dz_21 (b_2 (a := 4) bX8_firstDifference (by decide +kernel))
theorem dX8_firstDifference_55 : decode cX8_firstDifference 55 = .ok (.iadd, 1) := dz_96 (b_1 bX8_firstDifference (by decide +kernel))
theorem dX8_firstDifference_56 : decode cX8_firstDifference 56 = .ok (.istore 5, 2) := dz_54 (b_2 (a := 5) bX8_firstDifference (by decide +kernel))
theorem dX8_firstDifference_58 : decode cX8_firstDifference 58 = .ok (.aload_n 0, 1) := dz_42 (b_1 bX8_firstDifference (by decide +kernel))
theorem dX8_firstDifference_59 : decode cX8_firstDifference 59 = .ok (.aload_n 1, 1) := dz_43 (b_1 bX8_firstDifference (by decide +kernel))
theorem dX8_firstDifference_60 : decode cX8_firstDifference 60 = .ok (.iload 5, 2) := dz_21 (b_2 (a := 5) bX8_firstDifference (by decide +kernel))
theorem dX8_firstDifference_62 : decode cX8_firstDifference 62 = .ok (.invokevirtual 361, 3) := dz_182 (b_3 (a := 1) (b := 105) bX8_firstDifference (by decide +kernel))
theorem dX8_firstDifference_65 : decode cX8_firstDifference 65 = .ok (.ifCond .ne 16, 3) := dz_154 (b_3 (a := 0) (b := 16) bX8_firstDifference (by decide +kernel)) (by decide +kernel)
theorem dX8_firstDifference_68 : decode cX8_firstDifference 68 = .ok (.iload_n 3, 1) := dz_29 (b_1 bX8_firstDifference (by decide +kernel))
theorem dX8_firstDifference_69 : decode cX8_firstDifference 69 = .ok (.bipush 100, 2) := dz_16 (b_2 (a := 100) bX8_firstDifference (by decide +kernel)) (by decide +kernel)
theorem dX8_firstDifference_71 : decode cX8_firstDifference 71 = .ok (.imul, 1) := dz_104 (b_1 bX8_firstDifference (by decide +kernel))
theorem dX8_firstDifference_72 : decode cX8_firstDifference 72 = .ok (.aload_n 0, 1) := dz_42 (b_1 bX8_firstDifference (by decide +kernel))
theorem dX8_firstDifference_73 : decode cX8_firstDifference 73 = .ok (.getfield 224, 3) := dz_180 (b_3 (a := 0) (b := 224) bX8_firstDifference (by decide +kernel))
theorem dX8_firstDifference_76 : decode cX8_firstDifference 76 = .ok (.iload 5, 2) := dz_21 (b_2 (a := 5) bX8_firstDifference (by decide +kernel))
theorem dX8_firstDifference_78 : decode cX8_firstDifference 78 = .ok (.iaload, 1) := dz_46 (b_1 bX8_firstDifference (by decide +kernel))
theorem dX8_firstDifference_79 : decode cX8_firstDifference 79 = .ok (.iadd, 1) := dz_96 (b_1 bX8_firstDifference (by decide +kernel))
theorem dX8_firstDifference_80 : decode cX8_firstDifference 80 = .ok (.ireturn, 1) := dz_172 (b_1 bX8_firstDifference (by decide +kernel))
theorem dX8_firstDifference_81 : decode cX8_firstDifference 81 = .ok (.iinc 4 1, 3) := dz_132 (b_3 (a := 4) (b := 1) bX8_firstDifference (by decide +kernel)) (by decide +kernel)
theorem dX8_firstDifference_84 : decode cX8_firstDifference 84 = .ok (.goto (-45), 3) := dz_167 (b_3 (a := 255) (b := 211) bX8_firstDifference (by decide +kernel)) (by decide +kernel)
theorem dX8_firstDifference_87 : decode cX8_firstDifference 87 = .ok (.iinc 3 1, 3) := dz_132 (b_3 (a := 3) (b := 1) bX8_firstDifference (by decide +kernel)) (by decide +kernel)
theorem dX8_firstDifference_90 : decode cX8_firstDifference 90 = .ok (.goto (-76), 3) := dz_167 (b_3 (a := 255) (b := 180) bX8_firstDifference (by decide +kernel)) (by decide +kernel)
theorem dX8_firstDifference_93 : decode cX8_firstDifference 93 = .ok (.iconst (-1), 1) := dz_2 (b_1 bX8_firstDifference (by decide +kernel))
theorem dX8_firstDifference_94 : decode cX8_firstDifference 94 = .ok (.ireturn, 1) := dz_172 (b_1 bX8_firstDifference (by decide +kernel))
theorem gj_X8_addThings_0 : GpS ([.fieldLink RX8 231 "StateRecords$Records" "recordCount" "I", .fieldLink RX8 17 "StateRecords" "things" "[LStateRecords$Thing;", .fieldLink RX8 94 "StateRecords" "thingCount" "I", .fieldLink RX8 11 "StateRecords" "types" "[LStateRecords$Type;", .fieldLink RX8 336 "StateRecords$Records" "types" "[I", .methodLink RX8 127 yX6_become, .instanceMethod yX6_become, .selects RX6 yX6_become yX6_become, .initialized RX6, .code yX6_become cX6_become 3 none, .fieldLink RX6 21 "StateRecords$Thing" "type" "LStateRecords$Type;", .fieldLink RX6 25 "StateRecords$Type" "fieldCount" "I", .methodLink RX6 31 yX6_setDefault, .instanceMethod yX6_setDefault, .selects RX6 yX6_setDefault yX6_setDefault, .code yX6_setDefault cX6_setDefault 2 none, .fieldLink RX6 9 "StateRecords$Thing" "values" "[J", .fieldLink RX6 35 "StateRecords$Type" "defaults" "[J", .fieldLink RX6 17 "StateRecords$Thing" "rows" "[LStateRecords$Row;"]) wsX8_addThings := fun w h => List.mem_cons_of_mem _ (List.mem_append_left _ (List.mem_append_left _ (List.mem_append_left _ (List.mem_append_left _ (h)))))
theorem gj_X8_addThings_3 : GpS (wsX60) wsX8_addThings := fun w h => List.mem_cons_of_mem _ (List.mem_append_left _ (List.mem_append_right _ (h)))
theorem gj_X8_addThings_4 : GpS (wsX70) wsX8_addThings := fun w h => List.mem_cons_of_mem _ (List.mem_append_right _ (h))
set_option maxRecDepth 20000 in
theorem ggX8_addThings_X6_become : GoodIn wsX8_addThings wsX6_become := gp_s (gp_c (gj_X8_addThings_0 _ (gp_4 (gp_4 (gp_1 gp_h)))) (gp_a (gp_a (gp_c (gj_X8_addThings_0 _ (gp_4 (gp_4 (gp_1 (gp_1 gp_h))))) (gp_c (gj_X8_addThings_0 _ (gp_4 (gp_4 (gp_1 (gp_1 (gp_1 gp_h)))))) (gp_c (gj_X8_addThings_0 _ (gp_4 (gp_4 (gp_4 gp_h)))) (gp_c (gj_X8_addThings_0 _ (gp_4 (gp_4 (gp_4 (gp_1 gp_h))))) (gp_c (gj_X8_addThings_0 _ (gp_4 (gp_4 (gp_4 (gp_1 (gp_1 gp_h)))))) (gp_c (gj_X8_addThings_0 _ (gp_4 (gp_4 gp_h))) (gp_c (gj_X8_addThings_0 _ (gp_4 (gp_4 (gp_4 (gp_1 (gp_1 (gp_1 gp_h))))))) (gp_c (gj_X8_addThings_0 _ (gp_16 gp_h)) (gp_c (gj_X8_addThings_0 _ (gp_16 (gp_1 gp_h))) (gp_c (gj_X8_addThings_0 _ (gp_16 (gp_1 (gp_1 gp_h)))) (gp_n))))))))))) (gj_X8_addThings_3)) (gj_X8_addThings_4))) gb_X6_become
set_option maxRecDepth 20000 in
theorem gX8_addThings_X6_become : GoodIn wsX8_addThings (wsV RX8 127 RX6 yX6_become wsX6_become) := goodIn_app (gp_s (gp_c (gj_X8_addThings_0 _ (gp_4 (gp_1 gp_h))) (gp_c (gj_X8_addThings_0 _ (gp_4 (gp_1 (gp_1 gp_h)))) (gp_c (gj_X8_addThings_0 _ (gp_4 (gp_1 (gp_1 (gp_1 gp_h))))) (gp_c (gj_X8_addThings_0 _ (gp_4 (gp_4 gp_h))) (gp_n))))) (gp_v)) ggX8_addThings_X6_become
noncomputable def nX8_addThings : Nat := 0xb1d4ffa70102845e00b560045e00b4592a7f00b6322e1c5001b42b0b00b42a325e00b42a1100b42a2a00a2e700b42b1c3d03
theorem bX8_addThings : Bts cX8_addThings nX8_addThings 50 := by unfold Bts; decide +kernel
theorem dX8_addThings_0 : decode cX8_addThings 0 = .ok (.iconst 0, 1) := dz_3 (b_1 bX8_addThings (by decide +kernel))
theorem dX8_addThings_1 : decode cX8_addThings 1 = .ok (.istore_n 2, 1) := dz_61 (b_1 bX8_addThings (by decide +kernel))
theorem dX8_addThings_2 : decode cX8_addThings 2 = .ok (.iload_n 2, 1) := dz_28 (b_1 bX8_addThings (by decide +kernel))
theorem dX8_addThings_3 : decode cX8_addThings 3 = .ok (.aload_n 1, 1) := dz_43 (b_1 bX8_addThings (by decide +kernel))
theorem dX8_addThings_4 : decode cX8_addThings 4 = .ok (.getfield 231, 3) := dz_180 (b_3 (a := 0) (b := 231) bX8_addThings (by decide +kernel))
theorem dX8_addThings_7 : decode cX8_addThings 7 = .ok (.if_icmp .ge 42, 3) := dz_162 (b_3 (a := 0) (b := 42) bX8_addThings (by decide +kernel)) (by decide +kernel)
theorem dX8_addThings_10 : decode cX8_addThings 10 = .ok (.aload_n 0, 1) := dz_42 (b_1 bX8_addThings (by decide +kernel))
theorem dX8_addThings_11 : decode cX8_addThings 11 = .ok (.getfield 17, 3) := dz_180 (b_3 (a := 0) (b := 17) bX8_addThings (by decide +kernel))
theorem dX8_addThings_14 : decode cX8_addThings 14 = .ok (.aload_n 0, 1) := dz_42 (b_1 bX8_addThings (by decide +kernel))
theorem dX8_addThings_15 : decode cX8_addThings 15 = .ok (.getfield 94, 3) := dz_180 (b_3 (a := 0) (b := 94) bX8_addThings (by decide +kernel))
theorem dX8_addThings_18 : decode cX8_addThings 18 = .ok (.aaload, 1) := dz_50 (b_1 bX8_addThings (by decide +kernel))
theorem dX8_addThings_19 : decode cX8_addThings 19 = .ok (.aload_n 0, 1) := dz_42 (b_1 bX8_addThings (by decide +kernel))
theorem dX8_addThings_20 : decode cX8_addThings 20 = .ok (.getfield 11, 3) := dz_180 (b_3 (a := 0) (b := 11) bX8_addThings (by decide +kernel))
theorem dX8_addThings_23 : decode cX8_addThings 23 = .ok (.aload_n 1, 1) := dz_43 (b_1 bX8_addThings (by decide +kernel))
theorem dX8_addThings_24 : decode cX8_addThings 24 = .ok (.getfield 336, 3) := dz_180 (b_3 (a := 1) (b := 80) bX8_addThings (by decide +kernel))
theorem dX8_addThings_27 : decode cX8_addThings 27 = .ok (.iload_n 2, 1) := dz_28 (b_1 bX8_addThings (by decide +kernel))
theorem dX8_addThings_28 : decode cX8_addThings 28 = .ok (.iaload, 1) := dz_46 (b_1 bX8_addThings (by decide +kernel))
theorem dX8_addThings_29 : decode cX8_addThings 29 = .ok (.aaload, 1) := dz_50 (b_1 bX8_addThings (by decide +kernel))
theorem dX8_addThings_30 : decode cX8_addThings 30 = .ok (.invokevirtual 127, 3) := dz_182 (b_3 (a := 0) (b := 127) bX8_addThings (by decide +kernel))
theorem dX8_addThings_33 : decode cX8_addThings 33 = .ok (.aload_n 0, 1) := dz_42 (b_1 bX8_addThings (by decide +kernel))
theorem dX8_addThings_34 : decode cX8_addThings 34 = .ok (.dup, 1) := dz_89 (b_1 bX8_addThings (by decide +kernel))
theorem dX8_addThings_35 : decode cX8_addThings 35 = .ok (.getfield 94, 3) := dz_180 (b_3 (a := 0) (b := 94) bX8_addThings (by decide +kernel))
theorem dX8_addThings_38 : decode cX8_addThings 38 = .ok (.iconst 1, 1) := dz_4 (b_1 bX8_addThings (by decide +kernel))
theorem dX8_addThings_39 : decode cX8_addThings 39 = .ok (.iadd, 1) := dz_96 (b_1 bX8_addThings (by decide +kernel))
theorem dX8_addThings_40 : decode cX8_addThings 40 = .ok (.putfield 94, 3) := dz_181 (b_3 (a := 0) (b := 94) bX8_addThings (by decide +kernel))
theorem dX8_addThings_43 : decode cX8_addThings 43 = .ok (.iinc 2 1, 3) := dz_132 (b_3 (a := 2) (b := 1) bX8_addThings (by decide +kernel)) (by decide +kernel)
theorem dX8_addThings_46 : decode cX8_addThings 46 = .ok (.goto (-44), 3) := dz_167 (b_3 (a := 255) (b := 212) bX8_addThings (by decide +kernel)) (by decide +kernel)
theorem dX8_addThings_49 : decode cX8_addThings 49 = .ok (.return_, 1) := dz_177 (b_1 bX8_addThings (by decide +kernel))
theorem gb_X8_fillField : wsX8_fillField.all goodWord = true := by decide +kernel
theorem gj_X8_fillThings_0 : GpS (wsX8_fillThings_r1) wsX8_fillThings := fun w h => List.mem_cons_of_mem _ (List.mem_append_left _ (List.mem_append_left _ (List.mem_append_left _ (List.mem_append_left _ (List.mem_append_left _ (List.mem_append_left _ (List.mem_append_left _ (h))))))))
theorem gj_X8_fillThings_1 : GpS (wsX8_fillThings_r2) wsX8_fillThings := fun w h => List.mem_cons_of_mem _ (List.mem_append_left _ (List.mem_append_left _ (List.mem_append_left _ (List.mem_append_left _ (List.mem_append_left _ (List.mem_append_left _ (List.mem_append_right _ (List.mem_append_left _ (h)))))))))
theorem gj_X8_fillThings_2 : GpS (wsX8_fillThings_r3) wsX8_fillThings := fun w h => List.mem_cons_of_mem _ (List.mem_append_left _ (List.mem_append_left _ (List.mem_append_left _ (List.mem_append_left _ (List.mem_append_left _ (List.mem_append_left _ (List.mem_append_right _ (List.mem_append_right _ (h)))))))))
theorem gj_X8_fillThings_3 : GpS (wsX40) wsX8_fillThings := fun w h => List.mem_cons_of_mem _ (List.mem_append_left _ (List.mem_append_left _ (List.mem_append_left _ (List.mem_append_left _ (List.mem_append_left _ (List.mem_append_right _ (h)))))))
theorem gj_X8_fillThings_4 : GpS (wsX80) wsX8_fillThings := fun w h => List.mem_cons_of_mem _ (List.mem_append_left _ (List.mem_append_left _ (List.mem_append_left _ (List.mem_append_left _ (List.mem_append_right _ (h))))))
theorem gj_X8_fillThings_5 : GpS (wsX60) wsX8_fillThings := fun w h => List.mem_cons_of_mem _ (List.mem_append_left _ (List.mem_append_left _ (List.mem_append_left _ (List.mem_append_right _ (h)))))
theorem gj_X8_fillThings_6 : GpS (wsX70) wsX8_fillThings := fun w h => List.mem_cons_of_mem _ (List.mem_append_left _ (List.mem_append_left _ (List.mem_append_right _ (h))))
theorem gj_X8_fillThings_7 : GpS (wsX50) wsX8_fillThings := fun w h => List.mem_cons_of_mem _ (List.mem_append_left _ (List.mem_append_right _ (h)))
set_option maxRecDepth 20000 in
theorem ggX8_fillThings_X8_fillField : GoodIn wsX8_fillThings wsX8_fillField := gp_s (gp_c (gj_X8_fillThings_0 _ (gp_4 (gp_4 (gp_1 (gp_1 (gp_1 gp_h)))))) (gp_a (gp_a (gp_a (gp_a (gp_a (gp_a (gp_c (gj_X8_fillThings_0 _ (gp_4 (gp_4 (gp_4 gp_h)))) (gp_c (gj_X8_fillThings_0 _ (gp_4 (gp_1 (gp_1 gp_h)))) (gp_c (gj_X8_fillThings_0 _ (gp_4 (gp_4 (gp_4 (gp_1 gp_h))))) (gp_c (gj_X8_fillThings_0 _ (gp_4 (gp_4 (gp_4 (gp_1 (gp_1 gp_h)))))) (gp_c (gj_X8_fillThings_0 _ (gp_4 (gp_4 (gp_4 (gp_1 (gp_1 (gp_1 gp_h))))))) (gp_c (gj_X8_fillThings_0 _ (gp_16 gp_h)) (gp_c (gj_X8_fillThings_0 _ (gp_16 (gp_1 gp_h))) (gp_c (gj_X8_fillThings_0 _ (gp_16 (gp_1 (gp_1 gp_h)))) (gp_c (gj_X8_fillThings_0 _ (gp_16 (gp_1 (gp_1 (gp_1 gp_h))))) (gp_c (gj_X8_fillThings_0 _ (gp_16 (gp_4 gp_h))) (gp_c (gj_X8_fillThings_0 _ (gp_16 (gp_4 (gp_1 gp_h)))) (gp_c (gj_X8_fillThings_0 _ (gp_16 (gp_4 (gp_1 (gp_1 gp_h))))) (gp_c (gj_X8_fillThings_0 _ (gp_16 (gp_4 (gp_1 (gp_1 (gp_1 gp_h)))))) (gp_c (gj_X8_fillThings_1 _ (gp_h)) (gp_c (gj_X8_fillThings_1 _ (gp_1 gp_h)) (gp_c (gj_X8_fillThings_1 _ (gp_1 (gp_1 gp_h))) (gp_c (gj_X8_fillThings_1 _ (gp_1 (gp_1 (gp_1 gp_h)))) (gp_c (gj_X8_fillThings_0 _ (gp_4 (gp_4 (gp_1 (gp_1 gp_h))))) (gp_c (gj_X8_fillThings_1 _ (gp_4 gp_h)) (gp_c (gj_X8_fillThings_1 _ (gp_4 (gp_1 gp_h))) (gp_c (gj_X8_fillThings_1 _ (gp_4 (gp_1 (gp_1 gp_h)))) (gp_c (gj_X8_fillThings_1 _ (gp_4 (gp_1 (gp_1 (gp_1 gp_h))))) (gp_c (gj_X8_fillThings_1 _ (gp_4 (gp_4 gp_h))) (gp_c (gj_X8_fillThings_1 _ (gp_4 (gp_4 (gp_1 gp_h)))) (gp_n))))))))))))))))))))))))) (gp_a (gp_c (gj_X8_fillThings_1 _ (gp_4 (gp_4 (gp_1 (gp_1 gp_h))))) (gp_c (gj_X8_fillThings_1 _ (gp_4 (gp_4 (gp_1 (gp_1 (gp_1 gp_h)))))) (gp_c (gj_X8_fillThings_1 _ (gp_4 (gp_4 (gp_4 gp_h)))) (gp_c (gj_X8_fillThings_1 _ (gp_4 (gp_4 (gp_4 (gp_1 gp_h))))) (gp_c (gj_X8_fillThings_1 _ (gp_4 (gp_4 (gp_4 (gp_1 (gp_1 gp_h)))))) (gp_c (gj_X8_fillThings_1 _ (gp_4 (gp_4 (gp_4 (gp_1 (gp_1 (gp_1 gp_h))))))) (gp_c (gj_X8_fillThings_1 _ (gp_16 gp_h)) (gp_c (gj_X8_fillThings_1 _ (gp_16 (gp_1 gp_h))) (gp_c (gj_X8_fillThings_0 _ (gp_1 gp_h)) (gp_c (gj_X8_fillThings_1 _ (gp_16 (gp_1 (gp_1 gp_h)))) (gp_c (gj_X8_fillThings_1 _ (gp_16 (gp_1 (gp_1 (gp_1 gp_h))))) (gp_c (gj_X8_fillThings_1 _ (gp_16 (gp_4 gp_h))) (gp_c (gj_X8_fillThings_1 _ (gp_16 (gp_4 (gp_1 gp_h)))) (gp_c (gj_X8_fillThings_1 _ (gp_16 (gp_4 (gp_1 (gp_1 gp_h))))) (gp_c (gj_X8_fillThings_1 _ (gp_16 (gp_4 (gp_1 (gp_1 (gp_1 gp_h)))))) (gp_c (gj_X8_fillThings_2 _ (gp_h)) (gp_c (gj_X8_fillThings_2 _ (gp_1 gp_h)) (gp_c (gj_X8_fillThings_2 _ (gp_1 (gp_1 gp_h))) (gp_c (gj_X8_fillThings_2 _ (gp_1 (gp_1 (gp_1 gp_h)))) (gp_c (gj_X8_fillThings_2 _ (gp_4 gp_h)) (gp_c (gj_X8_fillThings_2 _ (gp_4 (gp_1 gp_h))) (gp_c (gj_X8_fillThings_2 _ (gp_4 (gp_1 (gp_1 gp_h)))) (gp_c (gj_X8_fillThings_2 _ (gp_4 (gp_1 (gp_1 (gp_1 gp_h))))) (gp_c (gj_X8_fillThings_2 _ (gp_4 (gp_4 gp_h))) (gp_n))))))))))))))))))))))))) (gp_c (gj_X8_fillThings_2 _ (gp_4 (gp_4 (gp_1 gp_h)))) (gp_c (gj_X8_fillThings_2 _ (gp_4 (gp_4 (gp_1 (gp_1 gp_h))))) (gp_c (gj_X8_fillThings_2 _ (gp_4 (gp_4 (gp_1 (gp_1 (gp_1 gp_h)))))) (gp_c (gj_X8_fillThings_2 _ (gp_4 (gp_4 (gp_4 gp_h)))) (gp_n))))))) (gj_X8_fillThings_5)) (gj_X8_fillThings_3)) (gj_X8_fillThings_6)) (gj_X8_fillThings_4)) (gj_X8_fillThings_7))) gb_X8_fillField
set_option maxRecDepth 20000 in
theorem gX8_fillThings_X8_fillField : GoodIn wsX8_fillThings (wsV RX8 364 RX8 yX8_fillField wsX8_fillField) := goodIn_app (gp_s (gp_c (gj_X8_fillThings_0 _ (gp_4 (gp_1 (gp_1 (gp_1 gp_h))))) (gp_c (gj_X8_fillThings_0 _ (gp_4 (gp_4 gp_h))) (gp_c (gj_X8_fillThings_0 _ (gp_4 (gp_4 (gp_1 gp_h)))) (gp_c (gj_X8_fillThings_0 _ (gp_4 (gp_4 (gp_1 (gp_1 gp_h))))) (gp_n))))) (gp_v)) ggX8_fillThings_X8_fillField
theorem gj_X8_fillThings_8 : GpS (wsX10) wsX8_fillThings := fun w h => List.mem_cons_of_mem _ (List.mem_append_right _ (h))
set_option maxRecDepth 20000 in
theorem ggX8_fillThings_X1_tell : GoodIn wsX8_fillThings wsX1_tell := gp_s (gp_c (gj_X8_fillThings_2 _ (gp_16 (gp_1 gp_h))) (gp_a (gp_c (gj_X8_fillThings_2 _ (gp_16 (gp_1 (gp_1 gp_h)))) (gp_c (gj_X8_fillThings_2 _ (gp_16 (gp_1 (gp_1 (gp_1 gp_h))))) (gp_c (gj_X8_fillThings_2 _ (gp_16 (gp_4 gp_h))) (gp_c (gj_X8_fillThings_2 _ (gp_16 (gp_4 (gp_1 gp_h)))) (gp_n))))) (gj_X8_fillThings_8))) gb_X1_tell
set_option maxRecDepth 20000 in
theorem gX8_fillThings_X1_tell : GoodIn wsX8_fillThings (wsV RX8 227 RX1 yX1_tell wsX1_tell) := goodIn_app (gp_s (gp_c (gj_X8_fillThings_2 _ (gp_4 (gp_4 (gp_4 (gp_1 gp_h))))) (gp_c (gj_X8_fillThings_2 _ (gp_4 (gp_4 (gp_4 (gp_1 (gp_1 gp_h)))))) (gp_c (gj_X8_fillThings_2 _ (gp_4 (gp_4 (gp_4 (gp_1 (gp_1 (gp_1 gp_h))))))) (gp_c (gj_X8_fillThings_2 _ (gp_16 gp_h)) (gp_n))))) (gp_v)) ggX8_fillThings_X1_tell
noncomputable def nX8_fillThings : Nat := 0xac03a9ffa7010484bbffa7010584ac0715e300b6022e0615e000b42b04153a00b42a170099071507366c01b61d1c06152b326004151c1100b42a2a0636600515680804153f00a22e04155201b42b05150536035400a2e700b42b0415043603eaffa7010484530104152c00b42a1100a26806ea00b42b0415043603
theorem bX8_fillThings : Bts cX8_fillThings nX8_fillThings 123 := by unfold Bts; decide +kernel
theorem dX8_fillThings_0 : decode cX8_fillThings 0 = .ok (.iconst 0, 1) := dz_3 (b_1 bX8_fillThings (by decide +kernel))
theorem dX8_fillThings_1 : decode cX8_fillThings 1 = .ok (.istore 4, 2) := dz_54 (b_2 (a := 4) bX8_fillThings (by decide +kernel))
theorem dX8_fillThings_3 : decode cX8_fillThings 3 = .ok (.iload 4, 2) := dz_21 (b_2 (a := 4) bX8_fillThings (by decide +kernel))
theorem dX8_fillThings_5 : decode cX8_fillThings 5 = .ok (.aload_n 1, 1) := dz_43 (b_1 bX8_fillThings (by decide +kernel))
theorem dX8_fillThings_6 : decode cX8_fillThings 6 = .ok (.getfield 234, 3) := dz_180 (b_3 (a := 0) (b := 234) bX8_fillThings (by decide +kernel))
theorem dX8_fillThings_9 : decode cX8_fillThings 9 = .ok (.iconst 3, 1) := dz_6 (b_1 bX8_fillThings (by decide +kernel))
theorem dX8_fillThings_10 : decode cX8_fillThings 10 = .ok (.imul, 1) := dz_104 (b_1 bX8_fillThings (by decide +kernel))
theorem dX8_fillThings_11 : decode cX8_fillThings 11 = .ok (.if_icmp .ge 17, 3) := dz_162 (b_3 (a := 0) (b := 17) bX8_fillThings (by decide +kernel)) (by decide +kernel)
theorem dX8_fillThings_14 : decode cX8_fillThings 14 = .ok (.aload_n 0, 1) := dz_42 (b_1 bX8_fillThings (by decide +kernel))
theorem dX8_fillThings_15 : decode cX8_fillThings 15 = .ok (.getfield 44, 3) := dz_180 (b_3 (a := 0) (b := 44) bX8_fillThings (by decide +kernel))
theorem dX8_fillThings_18 : decode cX8_fillThings 18 = .ok (.iload 4, 2) := dz_21 (b_2 (a := 4) bX8_fillThings (by decide +kernel))
theorem dX8_fillThings_20 : decode cX8_fillThings 20 = .ok (.aconst_null, 1) := dz_1 (b_1 bX8_fillThings (by decide +kernel))
theorem dX8_fillThings_21 : decode cX8_fillThings 21 = .ok (.aastore, 1) := dz_83 (b_1 bX8_fillThings (by decide +kernel))
theorem dX8_fillThings_22 : decode cX8_fillThings 22 = .ok (.iinc 4 1, 3) := dz_132 (b_3 (a := 4) (b := 1) bX8_fillThings (by decide +kernel)) (by decide +kernel)
theorem dX8_fillThings_25 : decode cX8_fillThings 25 = .ok (.goto (-22), 3) := dz_167 (b_3 (a := 255) (b := 234) bX8_fillThings (by decide +kernel)) (by decide +kernel)
theorem dX8_fillThings_28 : decode cX8_fillThings 28 = .ok (.iconst 0, 1) := dz_3 (b_1 bX8_fillThings (by decide +kernel))
theorem dX8_fillThings_29 : decode cX8_fillThings 29 = .ok (.istore 4, 2) := dz_54 (b_2 (a := 4) bX8_fillThings (by decide +kernel))
theorem dX8_fillThings_31 : decode cX8_fillThings 31 = .ok (.iload 4, 2) := dz_21 (b_2 (a := 4) bX8_fillThings (by decide +kernel))
theorem dX8_fillThings_33 : decode cX8_fillThings 33 = .ok (.aload_n 1, 1) := dz_43 (b_1 bX8_fillThings (by decide +kernel))
theorem dX8_fillThings_34 : decode cX8_fillThings 34 = .ok (.getfield 231, 3) := dz_180 (b_3 (a := 0) (b := 231) bX8_fillThings (by decide +kernel))
theorem dX8_fillThings_37 : decode cX8_fillThings 37 = .ok (.if_icmp .ge 84, 3) := dz_162 (b_3 (a := 0) (b := 84) bX8_fillThings (by decide +kernel)) (by decide +kernel)
theorem dX8_fillThings_40 : decode cX8_fillThings 40 = .ok (.iconst 0, 1) := dz_3 (b_1 bX8_fillThings (by decide +kernel))
theorem dX8_fillThings_41 : decode cX8_fillThings 41 = .ok (.istore 5, 2) := dz_54 (b_2 (a := 5) bX8_fillThings (by decide +kernel))
theorem dX8_fillThings_43 : decode cX8_fillThings 43 = .ok (.iload 5, 2) := dz_21 (b_2 (a := 5) bX8_fillThings (by decide +kernel))
theorem dX8_fillThings_45 : decode cX8_fillThings 45 = .ok (.aload_n 1, 1) := dz_43 (b_1 bX8_fillThings (by decide +kernel))
theorem dX8_fillThings_46 : decode cX8_fillThings 46 = .ok (.getfield 338, 3) := dz_180 (b_3 (a := 1) (b := 82) bX8_fillThings (by decide +kernel))
theorem dX8_fillThings_49 : decode cX8_fillThings 49 = .ok (.iload 4, 2) := dz_21 (b_2 (a := 4) bX8_fillThings (by decide +kernel))
theorem dX8_fillThings_51 : decode cX8_fillThings 51 = .ok (.iaload, 1) := dz_46 (b_1 bX8_fillThings (by decide +kernel))
theorem dX8_fillThings_52 : decode cX8_fillThings 52 = .ok (.if_icmp .ge 63, 3) := dz_162 (b_3 (a := 0) (b := 63) bX8_fillThings (by decide +kernel)) (by decide +kernel)
theorem dX8_fillThings_55 : decode cX8_fillThings 55 = .ok (.iload 4, 2) := dz_21 (b_2 (a := 4) bX8_fillThings (by decide +kernel))
theorem dX8_fillThings_57 : decode cX8_fillThings 57 = .ok (.iconst 5, 1) := dz_8 (b_1 bX8_fillThings (by decide +kernel))
theorem dX8_fillThings_58 : decode cX8_fillThings 58 = .ok (.imul, 1) := dz_104 (b_1 bX8_fillThings (by decide +kernel))
theorem dX8_fillThings_59 : decode cX8_fillThings 59 = .ok (.iload 5, 2) := dz_21 (b_2 (a := 5) bX8_fillThings (by decide +kernel))
theorem dX8_fillThings_61 : decode cX8_fillThings 61 = .ok (.iadd, 1) := dz_96 (b_1 bX8_fillThings (by decide +kernel))
theorem dX8_fillThings_62 : decode cX8_fillThings 62 = .ok (.istore 6, 2) := dz_54 (b_2 (a := 6) bX8_fillThings (by decide +kernel))
theorem dX8_fillThings_64 : decode cX8_fillThings 64 = .ok (.aload_n 0, 1) := dz_42 (b_1 bX8_fillThings (by decide +kernel))
theorem dX8_fillThings_65 : decode cX8_fillThings 65 = .ok (.aload_n 0, 1) := dz_42 (b_1 bX8_fillThings (by decide +kernel))
theorem dX8_fillThings_66 : decode cX8_fillThings 66 = .ok (.getfield 17, 3) := dz_180 (b_3 (a := 0) (b := 17) bX8_fillThings (by decide +kernel))
theorem dX8_fillThings_69 : decode cX8_fillThings 69 = .ok (.iload_n 2, 1) := dz_28 (b_1 bX8_fillThings (by decide +kernel))
theorem dX8_fillThings_70 : decode cX8_fillThings 70 = .ok (.iload 4, 2) := dz_21 (b_2 (a := 4) bX8_fillThings (by decide +kernel))
theorem dX8_fillThings_72 : decode cX8_fillThings 72 = .ok (.iadd, 1) := dz_96 (b_1 bX8_fillThings (by decide +kernel))
theorem dX8_fillThings_73 : decode cX8_fillThings 73 = .ok (.aaload, 1) := dz_50 (b_1 bX8_fillThings (by decide +kernel))
theorem dX8_fillThings_74 : decode cX8_fillThings 74 = .ok (.aload_n 1, 1) := dz_43 (b_1 bX8_fillThings (by decide +kernel))
theorem dX8_fillThings_75 : decode cX8_fillThings 75 = .ok (.iload 6, 2) := dz_21 (b_2 (a := 6) bX8_fillThings (by decide +kernel))
theorem dX8_fillThings_77 : decode cX8_fillThings 77 = .ok (.iload_n 2, 1) := dz_28 (b_1 bX8_fillThings (by decide +kernel))
theorem dX8_fillThings_78 : decode cX8_fillThings 78 = .ok (.iload_n 3, 1) := dz_29 (b_1 bX8_fillThings (by decide +kernel))
theorem dX8_fillThings_79 : decode cX8_fillThings 79 = .ok (.invokevirtual 364, 3) := dz_182 (b_3 (a := 1) (b := 108) bX8_fillThings (by decide +kernel))
theorem dX8_fillThings_82 : decode cX8_fillThings 82 = .ok (.istore 7, 2) := dz_54 (b_2 (a := 7) bX8_fillThings (by decide +kernel))
theorem dX8_fillThings_84 : decode cX8_fillThings 84 = .ok (.iload 7, 2) := dz_21 (b_2 (a := 7) bX8_fillThings (by decide +kernel))
theorem dX8_fillThings_86 : decode cX8_fillThings 86 = .ok (.ifCond .eq 23, 3) := dz_153 (b_3 (a := 0) (b := 23) bX8_fillThings (by decide +kernel)) (by decide +kernel)
theorem dX8_fillThings_89 : decode cX8_fillThings 89 = .ok (.aload_n 0, 1) := dz_42 (b_1 bX8_fillThings (by decide +kernel))
theorem dX8_fillThings_90 : decode cX8_fillThings 90 = .ok (.getfield 58, 3) := dz_180 (b_3 (a := 0) (b := 58) bX8_fillThings (by decide +kernel))
theorem dX8_fillThings_93 : decode cX8_fillThings 93 = .ok (.iload 4, 2) := dz_21 (b_2 (a := 4) bX8_fillThings (by decide +kernel))
theorem dX8_fillThings_95 : decode cX8_fillThings 95 = .ok (.aload_n 1, 1) := dz_43 (b_1 bX8_fillThings (by decide +kernel))
theorem dX8_fillThings_96 : decode cX8_fillThings 96 = .ok (.getfield 224, 3) := dz_180 (b_3 (a := 0) (b := 224) bX8_fillThings (by decide +kernel))
theorem dX8_fillThings_99 : decode cX8_fillThings 99 = .ok (.iload 6, 2) := dz_21 (b_2 (a := 6) bX8_fillThings (by decide +kernel))
theorem dX8_fillThings_101 : decode cX8_fillThings 101 = .ok (.iaload, 1) := dz_46 (b_1 bX8_fillThings (by decide +kernel))
theorem dX8_fillThings_102 : decode cX8_fillThings 102 = .ok (.iconst (-1), 1) := dz_2 (b_1 bX8_fillThings (by decide +kernel))
theorem dX8_fillThings_103 : decode cX8_fillThings 103 = .ok (.invokevirtual 227, 3) := dz_182 (b_3 (a := 0) (b := 227) bX8_fillThings (by decide +kernel))
theorem dX8_fillThings_106 : decode cX8_fillThings 106 = .ok (.iload 7, 2) := dz_21 (b_2 (a := 7) bX8_fillThings (by decide +kernel))
theorem dX8_fillThings_108 : decode cX8_fillThings 108 = .ok (.ireturn, 1) := dz_172 (b_1 bX8_fillThings (by decide +kernel))
theorem dX8_fillThings_109 : decode cX8_fillThings 109 = .ok (.iinc 5 1, 3) := dz_132 (b_3 (a := 5) (b := 1) bX8_fillThings (by decide +kernel)) (by decide +kernel)
theorem dX8_fillThings_112 : decode cX8_fillThings 112 = .ok (.goto (-69), 3) := dz_167 (b_3 (a := 255) (b := 187) bX8_fillThings (by decide +kernel)) (by decide +kernel)
theorem dX8_fillThings_115 : decode cX8_fillThings 115 = .ok (.iinc 4 1, 3) := dz_132 (b_3 (a := 4) (b := 1) bX8_fillThings (by decide +kernel)) (by decide +kernel)
theorem dX8_fillThings_118 : decode cX8_fillThings 118 = .ok (.goto (-87), 3) := dz_167 (b_3 (a := 255) (b := 169) bX8_fillThings (by decide +kernel)) (by decide +kernel)
theorem dX8_fillThings_121 : decode cX8_fillThings 121 = .ok (.iconst 0, 1) := dz_3 (b_1 bX8_fillThings (by decide +kernel))
theorem dX8_fillThings_122 : decode cX8_fillThings 122 = .ok (.ireturn, 1) := dz_172 (b_1 bX8_fillThings (by decide +kernel))
theorem gj_X8_fillField_0 : GpS (wsX8_fillField_r1) wsX8_fillField := fun w h => List.mem_cons_of_mem _ (List.mem_append_left _ (List.mem_append_left _ (List.mem_append_left _ (List.mem_append_left _ (List.mem_append_left _ (List.mem_append_left _ (h)))))))
theorem gj_X8_fillField_5 : GpS (wsX70) wsX8_fillField := fun w h => List.mem_cons_of_mem _ (List.mem_append_left _ (List.mem_append_left _ (List.mem_append_right _ (h))))
set_option maxRecDepth 20000 in
theorem ggX8_fillField_X7_fieldNamed : GoodIn wsX8_fillField wsX7_fieldNamed := gp_s (gp_c (gj_X8_fillField_0 _ (gp_4 (gp_4 (gp_4 gp_h)))) (gp_a (gp_c (gj_X8_fillField_0 _ (gp_4 (gp_4 (gp_4 (gp_1 gp_h))))) (gp_c (gj_X8_fillField_0 _ (gp_4 (gp_4 (gp_4 (gp_1 (gp_1 gp_h)))))) (gp_n))) (gj_X8_fillField_5))) gb_X7_fieldNamed
set_option maxRecDepth 20000 in
theorem gX8_fillField_X7_fieldNamed : GoodIn wsX8_fillField (wsV RX8 78 RX7 yX7_fieldNamed wsX7_fieldNamed) := goodIn_app (gp_s (gp_c (gj_X8_fillField_0 _ (gp_4 (gp_4 gp_h))) (gp_c (gj_X8_fillField_0 _ (gp_4 (gp_4 (gp_1 gp_h)))) (gp_c (gj_X8_fillField_0 _ (gp_4 (gp_4 (gp_1 (gp_1 gp_h))))) (gp_c (gj_X8_fillField_0 _ (gp_4 (gp_4 (gp_1 (gp_1 (gp_1 gp_h)))))) (gp_n))))) (gp_v)) ggX8_fillField_X7_fieldNamed
theorem gb_X8_mayCome : wsX8_mayCome.all goodWord = true := by decide +kernel
set_option maxRecDepth 20000 in
theorem ggX8_fillField_X8_mayCome : GoodIn wsX8_fillField wsX8_mayCome := gp_s (gp_c (gj_X8_fillField_0 _ (gp_16 (gp_1 (gp_1 gp_h)))) (gp_c (gj_X8_fillField_0 _ (gp_16 (gp_1 (gp_1 (gp_1 gp_h))))) (gp_c (gj_X8_fillField_0 _ (gp_16 (gp_4 gp_h))) (gp_c (gj_X8_fillField_0 _ (gp_16 (gp_1 gp_h))) (gp_c (gj_X8_fillField_0 _ (gp_16 (gp_4 (gp_1 gp_h)))) (gp_n)))))) gb_X8_mayCome
set_option maxRecDepth 20000 in
theorem gX8_fillField_X8_mayCome : GoodIn wsX8_fillField (va_wsS RX8 368 yX8_mayCome wsX8_mayCome) := goodIn_app (gp_s (gp_c (gj_X8_fillField_0 _ (gp_4 (gp_4 (gp_4 (gp_1 (gp_1 (gp_1 gp_h))))))) (gp_c (gj_X8_fillField_0 _ (gp_16 gp_h)) (gp_c (gj_X8_fillField_0 _ (gp_16 (gp_1 gp_h))) (gp_n)))) (gp_t)) ggX8_fillField_X8_mayCome
theorem gj_X8_fillField_1 : GpS (wsX8_fillField_r2) wsX8_fillField := fun w h => List.mem_cons_of_mem _ (List.mem_append_left _ (List.mem_append_left _ (List.mem_append_left _ (List.mem_append_left _ (List.mem_append_left _ (List.mem_append_right _ (List.mem_append_left _ (h))))))))
theorem gj_X8_fillField_6 : GpS (wsX80) wsX8_fillField := fun w h => List.mem_cons_of_mem _ (List.mem_append_left _ (List.mem_append_right _ (h)))
set_option maxRecDepth 20000 in
theorem ggX8_fillField_X8_isWordInUse : GoodIn wsX8_fillField wsX8_isWordInUse := gp_s (gp_c (gj_X8_fillField_1 _ (gp_1 gp_h)) (gp_a (gp_c (gj_X8_fillField_1 _ (gp_1 (gp_1 gp_h))) (gp_c (gj_X8_fillField_1 _ (gp_1 (gp_1 (gp_1 gp_h)))) (gp_n))) (gj_X8_fillField_6))) gb_X8_isWordInUse
set_option maxRecDepth 20000 in
theorem gX8_fillField_X8_isWordInUse : GoodIn wsX8_fillField (wsV RX8 142 RX8 yX8_isWordInUse wsX8_isWordInUse) := goodIn_app (gp_s (gp_c (gj_X8_fillField_0 _ (gp_16 (gp_4 (gp_1 (gp_1 gp_h))))) (gp_c (gj_X8_fillField_0 _ (gp_16 (gp_4 (gp_1 (gp_1 (gp_1 gp_h)))))) (gp_c (gj_X8_fillField_1 _ (gp_h)) (gp_c (gj_X8_fillField_0 _ (gp_16 (gp_1 gp_h))) (gp_n))))) (gp_v)) ggX8_fillField_X8_isWordInUse
set_option maxRecDepth 20000 in
theorem ggX8_fillField_X8_isRowLane : GoodIn wsX8_fillField wsX8_isRowLane := gp_s (gp_c (gj_X8_fillField_0 _ (gp_16 (gp_4 (gp_1 gp_h)))) (gp_n)) gb_X8_isRowLane
set_option maxRecDepth 20000 in
theorem gX8_fillField_X8_isRowLane : GoodIn wsX8_fillField (va_wsS RX8 150 yX8_isRowLane wsX8_isRowLane) := goodIn_app (gp_s (gp_c (gj_X8_fillField_0 _ (gp_16 (gp_1 (gp_1 (gp_1 gp_h))))) (gp_c (gj_X8_fillField_0 _ (gp_16 (gp_4 gp_h))) (gp_c (gj_X8_fillField_0 _ (gp_16 (gp_1 gp_h))) (gp_n)))) (gp_t)) ggX8_fillField_X8_isRowLane
theorem gb_X8_rowPutBack : wsX8_rowPutBack.all goodWord = true := by decide +kernel
theorem gj_X8_fillField_2 : GpS (wsX8_fillField_r3) wsX8_fillField := fun w h => List.mem_cons_of_mem _ (List.mem_append_left _ (List.mem_append_left _ (List.mem_append_left _ (List.mem_append_left _ (List.mem_append_left _ (List.mem_append_right _ (List.mem_append_right _ (h))))))))
theorem gj_X8_fillField_4 : GpS (wsX40) wsX8_fillField := fun w h => List.mem_cons_of_mem _ (List.mem_append_left _ (List.mem_append_left _ (List.mem_append_left _ (List.mem_append_right _ (h)))))
theorem gj_X8_fillField_7 : GpS (wsX50) wsX8_fillField := fun w h => List.mem_cons_of_mem _ (List.mem_append_right _ (h))
set_option maxRecDepth 20000 in
theorem ggX8_fillField_X8_rowPutBack : GoodIn wsX8_fillField wsX8_rowPutBack := gp_s (gp_c (gj_X8_fillField_1 _ (gp_4 (gp_1 (gp_1 (gp_1 gp_h))))) (gp_a (gp_a (gp_a (gp_c (gj_X8_fillField_1 _ (gp_4 (gp_4 gp_h))) (gp_c (gj_X8_fillField_1 _ (gp_4 (gp_4 (gp_1 gp_h)))) (gp_c (gj_X8_fillField_1 _ (gp_4 (gp_4 (gp_1 (gp_1 gp_h))))) (gp_c (gj_X8_fillField_1 _ (gp_4 (gp_4 (gp_1 (gp_1 (gp_1 gp_h)))))) (gp_c (gj_X8_fillField_1 _ (gp_4 (gp_4 (gp_4 gp_h)))) (gp_c (gj_X8_fillField_1 _ (gp_4 (gp_4 (gp_4 (gp_1 gp_h))))) (gp_c (gj_X8_fillField_1 _ (gp_4 (gp_4 (gp_4 (gp_1 (gp_1 gp_h)))))) (gp_c (gj_X8_fillField_1 _ (gp_4 (gp_4 (gp_4 (gp_1 (gp_1 (gp_1 gp_h))))))) (gp_c (gj_X8_fillField_1 _ (gp_16 gp_h)) (gp_c (gj_X8_fillField_1 _ (gp_16 (gp_1 gp_h))) (gp_c (gj_X8_fillField_1 _ (gp_16 (gp_1 (gp_1 gp_h)))) (gp_c (gj_X8_fillField_1 _ (gp_16 (gp_1 (gp_1 (gp_1 gp_h))))) (gp_c (gj_X8_fillField_1 _ (gp_16 (gp_4 gp_h))) (gp_c (gj_X8_fillField_1 _ (gp_16 (gp_4 (gp_1 gp_h)))) (gp_c (gj_X8_fillField_1 _ (gp_16 (gp_4 (gp_1 (gp_1 gp_h))))) (gp_c (gj_X8_fillField_1 _ (gp_16 (gp_4 (gp_1 (gp_1 (gp_1 gp_h)))))) (gp_c (gj_X8_fillField_2 _ (gp_h)) (gp_c (gj_X8_fillField_2 _ (gp_1 gp_h)) (gp_c (gj_X8_fillField_2 _ (gp_1 (gp_1 gp_h))) (gp_c (gj_X8_fillField_2 _ (gp_1 (gp_1 (gp_1 gp_h)))) (gp_n))))))))))))))))))))) (gj_X8_fillField_6)) (gj_X8_fillField_7)) (gj_X8_fillField_4))) gb_X8_rowPutBack
set_option maxRecDepth 20000 in
theorem gX8_fillField_X8_rowPutBack : GoodIn wsX8_fillField (wsV RX8 371 RX8 yX8_rowPutBack wsX8_rowPutBack) := goodIn_app (gp_s (gp_c (gj_X8_fillField_1 _ (gp_4 gp_h)) (gp_c (gj_X8_fillField_1 _ (gp_4 (gp_1 gp_h))) (gp_c (gj_X8_fillField_1 _ (gp_4 (gp_1 (gp_1 gp_h)))) (gp_c (gj_X8_fillField_0 _ (gp_16 (gp_1 gp_h))) (gp_n))))) (gp_v)) ggX8_fillField_X8_rowPutBack
noncomputable def nX8_fillField : Nat := 0xac035008160615c100b42b0c00a7506108168504150615c100b42b1300999458001408161c00a00507152b00a7537301b607158808162c2a0d00a70107009a94580014081606159e00b42b2400999600b807150837580014ac071006009a7e05051512009a8e00b608162a1b00999458001408162400a004071508372f1d5601b42cac091006009a7001b807152e1d5501b42c07362e06158700b46100b42bac08100500a7030700997e0405151100a002061506364e00b62e1de000b42c6100b42b
theorem bX8_fillField : Bts cX8_fillField nX8_fillField 194 := by unfold Bts; decide +kernel
theorem dX8_fillField_0 : decode cX8_fillField 0 = .ok (.aload_n 1, 1) := dz_43 (b_1 bX8_fillField (by decide +kernel))
theorem dX8_fillField_1 : decode cX8_fillField 1 = .ok (.getfield 97, 3) := dz_180 (b_3 (a := 0) (b := 97) bX8_fillField (by decide +kernel))
theorem dX8_fillField_4 : decode cX8_fillField 4 = .ok (.aload_n 2, 1) := dz_44 (b_1 bX8_fillField (by decide +kernel))
theorem dX8_fillField_5 : decode cX8_fillField 5 = .ok (.getfield 224, 3) := dz_180 (b_3 (a := 0) (b := 224) bX8_fillField (by decide +kernel))
theorem dX8_fillField_8 : decode cX8_fillField 8 = .ok (.iload_n 3, 1) := dz_29 (b_1 bX8_fillField (by decide +kernel))
theorem dX8_fillField_9 : decode cX8_fillField 9 = .ok (.iaload, 1) := dz_46 (b_1 bX8_fillField (by decide +kernel))
theorem dX8_fillField_10 : decode cX8_fillField 10 = .ok (.invokevirtual 78, 3) := dz_182 (b_3 (a := 0) (b := 78) bX8_fillField (by decide +kernel))
theorem dX8_fillField_13 : decode cX8_fillField 13 = .ok (.istore 6, 2) := dz_54 (b_2 (a := 6) bX8_fillField (by decide +kernel))
theorem dX8_fillField_15 : decode cX8_fillField 15 = .ok (.iload 6, 2) := dz_21 (b_2 (a := 6) bX8_fillField (by decide +kernel))
theorem dX8_fillField_17 : decode cX8_fillField 17 = .ok (.iconst (-1), 1) := dz_2 (b_1 bX8_fillField (by decide +kernel))
theorem dX8_fillField_18 : decode cX8_fillField 18 = .ok (.if_icmp .ne 17, 3) := dz_160 (b_3 (a := 0) (b := 17) bX8_fillField (by decide +kernel)) (by decide +kernel)
theorem dX8_fillField_21 : decode cX8_fillField 21 = .ok (.iload 5, 2) := dz_21 (b_2 (a := 5) bX8_fillField (by decide +kernel))
theorem dX8_fillField_23 : decode cX8_fillField 23 = .ok (.iconst 1, 1) := dz_4 (b_1 bX8_fillField (by decide +kernel))
theorem dX8_fillField_24 : decode cX8_fillField 24 = .ok (.iand, 1) := dz_126 (b_1 bX8_fillField (by decide +kernel))
theorem dX8_fillField_25 : decode cX8_fillField 25 = .ok (.ifCond .eq 7, 3) := dz_153 (b_3 (a := 0) (b := 7) bX8_fillField (by decide +kernel)) (by decide +kernel)
theorem dX8_fillField_28 : decode cX8_fillField 28 = .ok (.iconst 0, 1) := dz_3 (b_1 bX8_fillField (by decide +kernel))
theorem dX8_fillField_29 : decode cX8_fillField 29 = .ok (.goto 5, 3) := dz_167 (b_3 (a := 0) (b := 5) bX8_fillField (by decide +kernel)) (by decide +kernel)
theorem dX8_fillField_32 : decode cX8_fillField 32 = .ok (.bipush 8, 2) := dz_16 (b_2 (a := 8) bX8_fillField (by decide +kernel)) (by decide +kernel)
theorem dX8_fillField_34 : decode cX8_fillField 34 = .ok (.ireturn, 1) := dz_172 (b_1 bX8_fillField (by decide +kernel))
theorem dX8_fillField_35 : decode cX8_fillField 35 = .ok (.aload_n 1, 1) := dz_43 (b_1 bX8_fillField (by decide +kernel))
theorem dX8_fillField_36 : decode cX8_fillField 36 = .ok (.getfield 97, 3) := dz_180 (b_3 (a := 0) (b := 97) bX8_fillField (by decide +kernel))
theorem dX8_fillField_39 : decode cX8_fillField 39 = .ok (.getfield 135, 3) := dz_180 (b_3 (a := 0) (b := 135) bX8_fillField (by decide +kernel))
theorem dX8_fillField_42 : decode cX8_fillField 42 = .ok (.iload 6, 2) := dz_21 (b_2 (a := 6) bX8_fillField (by decide +kernel))
theorem dX8_fillField_44 : decode cX8_fillField 44 = .ok (.iaload, 1) := dz_46 (b_1 bX8_fillField (by decide +kernel))
theorem dX8_fillField_45 : decode cX8_fillField 45 = .ok (.istore 7, 2) := dz_54 (b_2 (a := 7) bX8_fillField (by decide +kernel))
theorem dX8_fillField_47 : decode cX8_fillField 47 = .ok (.aload_n 2, 1) := dz_44 (b_1 bX8_fillField (by decide +kernel))
theorem dX8_fillField_48 : decode cX8_fillField 48 = .ok (.getfield 341, 3) := dz_180 (b_3 (a := 1) (b := 85) bX8_fillField (by decide +kernel))
theorem dX8_fillField_51 : decode cX8_fillField 51 = .ok (.iload_n 3, 1) := dz_29 (b_1 bX8_fillField (by decide +kernel))
theorem dX8_fillField_52 : decode cX8_fillField 52 = .ok (.iaload, 1) := dz_46 (b_1 bX8_fillField (by decide +kernel))
theorem dX8_fillField_53 : decode cX8_fillField 53 = .ok (.iload 7, 2) := dz_21 (b_2 (a := 7) bX8_fillField (by decide +kernel))
theorem dX8_fillField_55 : decode cX8_fillField 55 = .ok (.invokestatic 368, 3) := dz_184 (b_3 (a := 1) (b := 112) bX8_fillField (by decide +kernel))
theorem dX8_fillField_58 : decode cX8_fillField 58 = .ok (.ifCond .ne 6, 3) := dz_154 (b_3 (a := 0) (b := 6) bX8_fillField (by decide +kernel)) (by decide +kernel)
theorem dX8_fillField_61 : decode cX8_fillField 61 = .ok (.bipush 9, 2) := dz_16 (b_2 (a := 9) bX8_fillField (by decide +kernel)) (by decide +kernel)
theorem dX8_fillField_63 : decode cX8_fillField 63 = .ok (.ireturn, 1) := dz_172 (b_1 bX8_fillField (by decide +kernel))
theorem dX8_fillField_64 : decode cX8_fillField 64 = .ok (.aload_n 2, 1) := dz_44 (b_1 bX8_fillField (by decide +kernel))
theorem dX8_fillField_65 : decode cX8_fillField 65 = .ok (.getfield 342, 3) := dz_180 (b_3 (a := 1) (b := 86) bX8_fillField (by decide +kernel))
theorem dX8_fillField_68 : decode cX8_fillField 68 = .ok (.iload_n 3, 1) := dz_29 (b_1 bX8_fillField (by decide +kernel))
theorem dX8_fillField_69 : decode cX8_fillField 69 = .ok (.laload, 1) := dz_47 (b_1 bX8_fillField (by decide +kernel))
theorem dX8_fillField_70 : decode cX8_fillField 70 = .ok (.lstore 8, 2) := dz_55 (b_2 (a := 8) bX8_fillField (by decide +kernel))
theorem dX8_fillField_72 : decode cX8_fillField 72 = .ok (.iload 7, 2) := dz_21 (b_2 (a := 7) bX8_fillField (by decide +kernel))
theorem dX8_fillField_74 : decode cX8_fillField 74 = .ok (.iconst 1, 1) := dz_4 (b_1 bX8_fillField (by decide +kernel))
theorem dX8_fillField_75 : decode cX8_fillField 75 = .ok (.if_icmp .ne 36, 3) := dz_160 (b_3 (a := 0) (b := 36) bX8_fillField (by decide +kernel)) (by decide +kernel)
theorem dX8_fillField_78 : decode cX8_fillField 78 = .ok (.lload 8, 2) := dz_22 (b_2 (a := 8) bX8_fillField (by decide +kernel))
theorem dX8_fillField_80 : decode cX8_fillField 80 = .ok (.ldc2_w 88, 3) := dz_20 (b_3 (a := 0) (b := 88) bX8_fillField (by decide +kernel))
theorem dX8_fillField_83 : decode cX8_fillField 83 = .ok (.lcmp, 1) := dz_148 (b_1 bX8_fillField (by decide +kernel))
theorem dX8_fillField_84 : decode cX8_fillField 84 = .ok (.ifCond .eq 27, 3) := dz_153 (b_3 (a := 0) (b := 27) bX8_fillField (by decide +kernel)) (by decide +kernel)
theorem dX8_fillField_87 : decode cX8_fillField 87 = .ok (.aload_n 0, 1) := dz_42 (b_1 bX8_fillField (by decide +kernel))
theorem dX8_fillField_88 : decode cX8_fillField 88 = .ok (.lload 8, 2) := dz_22 (b_2 (a := 8) bX8_fillField (by decide +kernel))
theorem dX8_fillField_90 : decode cX8_fillField 90 = .ok (.invokevirtual 142, 3) := dz_182 (b_3 (a := 0) (b := 142) bX8_fillField (by decide +kernel))
theorem dX8_fillField_93 : decode cX8_fillField 93 = .ok (.ifCond .ne 18, 3) := dz_154 (b_3 (a := 0) (b := 18) bX8_fillField (by decide +kernel)) (by decide +kernel)
theorem dX8_fillField_96 : decode cX8_fillField 96 = .ok (.iload 5, 2) := dz_21 (b_2 (a := 5) bX8_fillField (by decide +kernel))
theorem dX8_fillField_98 : decode cX8_fillField 98 = .ok (.iconst 2, 1) := dz_5 (b_1 bX8_fillField (by decide +kernel))
theorem dX8_fillField_99 : decode cX8_fillField 99 = .ok (.iand, 1) := dz_126 (b_1 bX8_fillField (by decide +kernel))
theorem dX8_fillField_100 : decode cX8_fillField 100 = .ok (.ifCond .ne 6, 3) := dz_154 (b_3 (a := 0) (b := 6) bX8_fillField (by decide +kernel)) (by decide +kernel)
theorem dX8_fillField_103 : decode cX8_fillField 103 = .ok (.bipush 7, 2) := dz_16 (b_2 (a := 7) bX8_fillField (by decide +kernel)) (by decide +kernel)
theorem dX8_fillField_105 : decode cX8_fillField 105 = .ok (.ireturn, 1) := dz_172 (b_1 bX8_fillField (by decide +kernel))
theorem dX8_fillField_106 : decode cX8_fillField 106 = .ok (.ldc2_w 88, 3) := dz_20 (b_3 (a := 0) (b := 88) bX8_fillField (by decide +kernel))
theorem dX8_fillField_109 : decode cX8_fillField 109 = .ok (.lstore 8, 2) := dz_55 (b_2 (a := 8) bX8_fillField (by decide +kernel))
theorem dX8_fillField_111 : decode cX8_fillField 111 = .ok (.iload 7, 2) := dz_21 (b_2 (a := 7) bX8_fillField (by decide +kernel))
theorem dX8_fillField_113 : decode cX8_fillField 113 = .ok (.invokestatic 150, 3) := dz_184 (b_3 (a := 0) (b := 150) bX8_fillField (by decide +kernel))
theorem dX8_fillField_116 : decode cX8_fillField 116 = .ok (.ifCond .eq 36, 3) := dz_153 (b_3 (a := 0) (b := 36) bX8_fillField (by decide +kernel)) (by decide +kernel)
theorem dX8_fillField_119 : decode cX8_fillField 119 = .ok (.aload_n 1, 1) := dz_43 (b_1 bX8_fillField (by decide +kernel))
theorem dX8_fillField_120 : decode cX8_fillField 120 = .ok (.getfield 158, 3) := dz_180 (b_3 (a := 0) (b := 158) bX8_fillField (by decide +kernel))
theorem dX8_fillField_123 : decode cX8_fillField 123 = .ok (.iload 6, 2) := dz_21 (b_2 (a := 6) bX8_fillField (by decide +kernel))
theorem dX8_fillField_125 : decode cX8_fillField 125 = .ok (.lload 8, 2) := dz_22 (b_2 (a := 8) bX8_fillField (by decide +kernel))
theorem dX8_fillField_127 : decode cX8_fillField 127 = .ok (.ldc2_w 88, 3) := dz_20 (b_3 (a := 0) (b := 88) bX8_fillField (by decide +kernel))
theorem dX8_fillField_130 : decode cX8_fillField 130 = .ok (.lcmp, 1) := dz_148 (b_1 bX8_fillField (by decide +kernel))
theorem dX8_fillField_131 : decode cX8_fillField 131 = .ok (.ifCond .ne 7, 3) := dz_154 (b_3 (a := 0) (b := 7) bX8_fillField (by decide +kernel)) (by decide +kernel)
theorem dX8_fillField_134 : decode cX8_fillField 134 = .ok (.aconst_null, 1) := dz_1 (b_1 bX8_fillField (by decide +kernel))
theorem dX8_fillField_135 : decode cX8_fillField 135 = .ok (.goto 13, 3) := dz_167 (b_3 (a := 0) (b := 13) bX8_fillField (by decide +kernel)) (by decide +kernel)
