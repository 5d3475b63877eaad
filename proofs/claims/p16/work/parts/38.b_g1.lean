set_option maxRecDepth 20000 in
theorem tw_473 : (Cond.code yX8_forget cX8_forget 2 ( some .int )) ∈ lw_tbl := gt_2 _ (gp_64 (gp_64 (gp_16 (gp_16 (gp_16 (gp_4 (gp_4 (gp_4 (gp_1 gp_h)))))))))
set_option maxRecDepth 20000 in
theorem ggT_X8_forget : GoodIn lw_tbl wsX8_forget := goodIn_cons (gp_s (gp_c (tw_473) (gp_n)) (by decide +kernel)) (goodIn_app (goodIn_app (gp_s (gp_c (tw_226) (gp_c (tw_155) (gp_c (tw_219) (gp_n)))) (by decide +kernel)) gwX80) gwX20)
set_option maxRecDepth 20000 in
theorem gT_X8_forget : GoodIn lw_tbl (wsV RL 104 RX8 yX8_forget wsX8_forget) := goodIn_app (gp_s (gp_c (gt_2 _ (gp_64 (gp_64 (gp_16 (gp_16 (gp_16 (gp_4 (gp_4 (gp_1 (gp_1 gp_h)))))))))) (gp_c (gt_2 _ (gp_64 (gp_64 (gp_16 (gp_16 (gp_16 (gp_4 (gp_4 (gp_1 (gp_1 (gp_1 gp_h))))))))))) (gp_c (gt_2 _ (gp_64 (gp_64 (gp_16 (gp_16 (gp_16 (gp_4 (gp_4 (gp_4 gp_h))))))))) (gp_c (tw_45) (gp_n))))) (by decide +kernel)) ggT_X8_forget
set_option maxRecDepth 20000 in
theorem tw_1037 : (Cond.code yX9_forget cX9_forget 2 ( some .int )) ∈ lw_tbl := gt_5 _ (gp_16 (gp_16 (gp_1 gp_h)))
set_option maxRecDepth 20000 in
theorem ggT_X9_forget : GoodIn lw_tbl wsX9_forget := goodIn_cons (gp_s (gp_c (tw_1037) (gp_n)) (by decide +kernel)) (goodIn_app (gp_s (gp_c (tw_779) (gp_c (tw_799) (gp_c (tw_792) (gp_n)))) (by decide +kernel)) gwX90)
set_option maxRecDepth 20000 in
theorem gT_X9_forget : GoodIn lw_tbl (wsV RL 107 RX9 yX9_forget wsX9_forget) := goodIn_app (gp_s (gp_c (gt_5 _ (gp_16 (gp_4 (gp_4 (gp_4 (gp_1 (gp_1 gp_h))))))) (gp_c (gt_5 _ (gp_16 (gp_4 (gp_4 (gp_4 (gp_1 (gp_1 (gp_1 gp_h)))))))) (gp_c (gt_5 _ (gp_16 (gp_16 gp_h))) (gp_c (tw_51) (gp_n))))) (by decide +kernel)) ggT_X9_forget
set_option maxRecDepth 20000 in
theorem tw_265 : (Cond.fieldLink RX8 205 "StateRecords$Type" "number" "I") ∈ lw_tbl := gt_1 _ (gp_64 (gp_64 (gp_64 (gp_16 (gp_4 (gp_4 (gp_4 (gp_1 gp_h))))))))
set_option maxRecDepth 20000 in
theorem tw_477 : (Cond.code yX8_told cX8_told 4 ( some .int )) ∈ lw_tbl := gt_2 _ (gp_64 (gp_64 (gp_64 (gp_1 gp_h))))
set_option maxRecDepth 20000 in
theorem ggT_X8_told : GoodIn lw_tbl wsX8_told := goodIn_cons (gp_s (gp_c (tw_477) (gp_n)) (by decide +kernel)) (goodIn_app (goodIn_app (goodIn_app (gp_s (gp_c (tw_196) (gp_c (tw_265) (gp_c (tw_268) (gp_c (tw_394) (gp_c (tw_396) (gp_c (gq_2) (gp_c (tw_45) (gp_c (tw_397) (gp_c (tw_219) (gp_c (tw_218) (gp_n))))))))))) (by decide +kernel)) gwX60) gwX70) gwX80)
set_option maxRecDepth 20000 in
theorem gT_X8_told : GoodIn lw_tbl (wsV RL 108 RX8 yX8_told wsX8_told) := goodIn_app (gp_s (gp_c (gt_2 _ (gp_64 (gp_64 (gp_16 (gp_16 (gp_16 (gp_4 (gp_4 (gp_4 (gp_1 (gp_1 gp_h))))))))))) (gp_c (gt_2 _ (gp_64 (gp_64 (gp_16 (gp_16 (gp_16 (gp_4 (gp_4 (gp_4 (gp_1 (gp_1 (gp_1 gp_h)))))))))))) (gp_c (gt_2 _ (gp_64 (gp_64 (gp_64 gp_h)))) (gp_c (tw_45) (gp_n))))) (by decide +kernel)) ggT_X8_told
set_option maxRecDepth 20000 in
theorem tw_1041 : (Cond.code yX9_told cX9_told 3 ( some .int )) ∈ lw_tbl := gt_5 _ (gp_16 (gp_16 (gp_4 (gp_1 gp_h))))
set_option maxRecDepth 20000 in
theorem ggT_X9_told : GoodIn lw_tbl wsX9_told := goodIn_cons (gp_s (gp_c (tw_1041) (gp_n)) (by decide +kernel)) (goodIn_app (gp_s (gp_c (tw_779) (gp_c (tw_793) (gp_c (tw_782) (gp_c (tw_986) (gp_c (tw_988) (gp_c (gq_26) (gp_c (tw_51) (gp_c (tw_989) (gp_c (tw_792) (gp_n)))))))))) (by decide +kernel)) gwX90)
set_option maxRecDepth 20000 in
theorem gT_X9_told : GoodIn lw_tbl (wsV RL 111 RX9 yX9_told wsX9_told) := goodIn_app (gp_s (gp_c (gt_5 _ (gp_16 (gp_16 (gp_1 (gp_1 gp_h))))) (gp_c (gt_5 _ (gp_16 (gp_16 (gp_1 (gp_1 (gp_1 gp_h)))))) (gp_c (gt_5 _ (gp_16 (gp_16 (gp_4 gp_h)))) (gp_c (tw_51) (gp_n))))) (by decide +kernel)) ggT_X9_told
set_option maxRecDepth 20000 in
theorem tw_357 : (Cond.fieldLink RX8 308 "StateRecords$Check" "b" "I") ∈ lw_tbl := gt_2 _ (gp_64 (gp_4 (gp_4 (gp_1 gp_h))))
set_option maxRecDepth 20000 in
theorem tw_355 : (Cond.fieldLink RX8 302 "StateRecords$Check" "a" "I") ∈ lw_tbl := gt_2 _ (gp_64 (gp_4 (gp_1 (gp_1 (gp_1 gp_h)))))
set_option maxRecDepth 20000 in
theorem tw_492 : (Cond.code yX8_failureOfDivides cX8_failureOfDivides 2 ( some .int )) ∈ lw_tbl := gt_2 _ (gp_64 (gp_64 (gp_64 (gp_16 gp_h))))
set_option maxRecDepth 20000 in
theorem tw_491 : (Cond.static yX8_failureOfDivides) ∈ lw_tbl := gt_2 _ (gp_64 (gp_64 (gp_64 (gp_4 (gp_4 (gp_4 (gp_1 (gp_1 (gp_1 gp_h)))))))))
set_option maxRecDepth 20000 in
theorem tw_490 : (Cond.methodLink RX8 284 yX8_failureOfDivides) ∈ lw_tbl := gt_2 _ (gp_64 (gp_64 (gp_64 (gp_4 (gp_4 (gp_4 (gp_1 (gp_1 gp_h))))))))
set_option maxRecDepth 20000 in
theorem tw_353 : (Cond.fieldLink RX8 281 "StateRecords$Check" "kind" "I") ∈ lw_tbl := gt_2 _ (gp_64 (gp_4 (gp_1 gp_h)))
set_option maxRecDepth 20000 in
theorem tw_489 : (Cond.code yX8_failureOf cX8_failureOf 3 ( some .int )) ∈ lw_tbl := gt_2 _ (gp_64 (gp_64 (gp_64 (gp_4 (gp_4 (gp_4 (gp_1 gp_h)))))))
set_option maxRecDepth 20000 in
theorem tw_488 : (Cond.instanceMethod yX8_failureOf) ∈ lw_tbl := gt_2 _ (gp_64 (gp_64 (gp_64 (gp_4 (gp_4 (gp_4 gp_h))))))
set_option maxRecDepth 20000 in
theorem tw_486 : (Cond.methodLink RX8 212 yX8_failureOf) ∈ lw_tbl := gt_2 _ (gp_64 (gp_64 (gp_64 (gp_4 (gp_4 (gp_1 (gp_1 gp_h)))))))
set_option maxRecDepth 20000 in
theorem tw_485 : (Cond.code yX8_firstFailingCheck cX8_firstFailingCheck 3 ( some .int )) ∈ lw_tbl := gt_2 _ (gp_64 (gp_64 (gp_64 (gp_4 (gp_4 (gp_1 gp_h))))))
set_option maxRecDepth 20000 in
theorem tw_484 : (Cond.instanceMethod yX8_firstFailingCheck) ∈ lw_tbl := gt_2 _ (gp_64 (gp_64 (gp_64 (gp_4 (gp_4 gp_h)))))
set_option maxRecDepth 20000 in
theorem tw_482 : (Cond.methodLink RX8 208 yX8_firstFailingCheck) ∈ lw_tbl := gt_2 _ (gp_64 (gp_64 (gp_64 (gp_4 (gp_1 (gp_1 gp_h))))))
set_option maxRecDepth 20000 in
theorem tw_504 : (Cond.code yX8_failureOfHas cX8_failureOfHas 5 ( some .int )) ∈ lw_tbl := gt_2 _ (gp_64 (gp_64 (gp_64 (gp_16 (gp_4 (gp_4 (gp_4 gp_h)))))))
set_option maxRecDepth 20000 in
theorem tw_503 : (Cond.static yX8_failureOfHas) ∈ lw_tbl := gt_2 _ (gp_64 (gp_64 (gp_64 (gp_16 (gp_4 (gp_4 (gp_1 (gp_1 (gp_1 gp_h)))))))))
set_option maxRecDepth 20000 in
theorem tw_502 : (Cond.methodLink RX8 290 yX8_failureOfHas) ∈ lw_tbl := gt_2 _ (gp_64 (gp_64 (gp_64 (gp_16 (gp_4 (gp_4 (gp_1 (gp_1 gp_h))))))))
set_option maxRecDepth 20000 in
theorem tw_359 : (Cond.fieldLink RX8 311 "StateRecords$Check" "v" "J") ∈ lw_tbl := gt_2 _ (gp_64 (gp_4 (gp_4 (gp_1 (gp_1 (gp_1 gp_h))))))
set_option maxRecDepth 20000 in
theorem tw_501 : (Cond.code yX8_failureOfMeets cX8_failureOfMeets 4 ( some .int )) ∈ lw_tbl := gt_2 _ (gp_64 (gp_64 (gp_64 (gp_16 (gp_4 (gp_4 (gp_1 gp_h)))))))
set_option maxRecDepth 20000 in
theorem tw_500 : (Cond.instanceMethod yX8_failureOfMeets) ∈ lw_tbl := gt_2 _ (gp_64 (gp_64 (gp_64 (gp_16 (gp_4 (gp_4 gp_h))))))
set_option maxRecDepth 20000 in
theorem tw_498 : (Cond.methodLink RX8 287 yX8_failureOfMeets) ∈ lw_tbl := gt_2 _ (gp_64 (gp_64 (gp_64 (gp_16 (gp_4 (gp_1 (gp_1 gp_h)))))))
set_option maxRecDepth 20000 in
theorem tw_497 : (Cond.methodLink RX7 43 yX7_hasField) ∈ lw_tbl := gt_2 _ (gp_64 (gp_64 (gp_64 (gp_16 (gp_4 (gp_1 gp_h))))))
set_option maxRecDepth 20000 in
theorem tw_496 : (Cond.code yX7_hasLane cX7_hasLane 3 ( some .boolean )) ∈ lw_tbl := gt_2 _ (gp_64 (gp_64 (gp_64 (gp_16 (gp_4 gp_h)))))
set_option maxRecDepth 20000 in
theorem tw_495 : (Cond.selects RX7 yX7_hasLane yX7_hasLane) ∈ lw_tbl := gt_2 _ (gp_64 (gp_64 (gp_64 (gp_16 (gp_1 (gp_1 (gp_1 gp_h)))))))
set_option maxRecDepth 20000 in
theorem tw_494 : (Cond.instanceMethod yX7_hasLane) ∈ lw_tbl := gt_2 _ (gp_64 (gp_64 (gp_64 (gp_16 (gp_1 (gp_1 gp_h))))))
set_option maxRecDepth 20000 in
theorem tw_493 : (Cond.methodLink RX8 305 yX7_hasLane) ∈ lw_tbl := gt_2 _ (gp_64 (gp_64 (gp_64 (gp_16 (gp_1 gp_h)))))
set_option maxRecDepth 20000 in
theorem tw_270 : (Cond.fieldLink RX8 320 "StateRecords$Type" "names" "[I") ∈ lw_tbl := gt_1 _ (gp_64 (gp_64 (gp_64 (gp_16 (gp_16 (gp_1 (gp_1 gp_h)))))))
set_option maxRecDepth 20000 in
theorem tw_520 : (Cond.code yX8_failureOfLeads cX8_failureOfLeads 5 ( some .int )) ∈ lw_tbl := gt_2 _ (gp_64 (gp_64 (gp_64 (gp_16 (gp_16 (gp_4 (gp_4 (gp_4 gp_h))))))))
set_option maxRecDepth 20000 in
theorem tw_519 : (Cond.instanceMethod yX8_failureOfLeads) ∈ lw_tbl := gt_2 _ (gp_64 (gp_64 (gp_64 (gp_16 (gp_16 (gp_4 (gp_4 (gp_1 (gp_1 (gp_1 gp_h))))))))))
set_option maxRecDepth 20000 in
theorem tw_517 : (Cond.methodLink RX8 299 yX8_failureOfLeads) ∈ lw_tbl := gt_2 _ (gp_64 (gp_64 (gp_64 (gp_16 (gp_16 (gp_4 (gp_4 (gp_1 gp_h))))))))
set_option maxRecDepth 20000 in
theorem tw_516 : (Cond.code yX8_failureOfLeast cX8_failureOfLeast 2 ( some .int )) ∈ lw_tbl := gt_2 _ (gp_64 (gp_64 (gp_64 (gp_16 (gp_16 (gp_4 (gp_4 gp_h)))))))
set_option maxRecDepth 20000 in
theorem tw_515 : (Cond.static yX8_failureOfLeast) ∈ lw_tbl := gt_2 _ (gp_64 (gp_64 (gp_64 (gp_16 (gp_16 (gp_4 (gp_1 (gp_1 (gp_1 gp_h)))))))))
set_option maxRecDepth 20000 in
theorem tw_514 : (Cond.methodLink RX8 296 yX8_failureOfLeast) ∈ lw_tbl := gt_2 _ (gp_64 (gp_64 (gp_64 (gp_16 (gp_16 (gp_4 (gp_1 (gp_1 gp_h))))))))
set_option maxRecDepth 20000 in
theorem tw_513 : (Cond.constantLong RX8 318 ( 12 )) ∈ lw_tbl := gt_2 _ (gp_64 (gp_64 (gp_64 (gp_16 (gp_16 (gp_4 (gp_1 gp_h)))))))
set_option maxRecDepth 20000 in
theorem tw_512 : (Cond.code yX8_failureOfHolds cX8_failureOfHolds 4 ( some .int )) ∈ lw_tbl := gt_2 _ (gp_64 (gp_64 (gp_64 (gp_16 (gp_16 (gp_4 gp_h))))))
set_option maxRecDepth 20000 in
theorem tw_511 : (Cond.static yX8_failureOfHolds) ∈ lw_tbl := gt_2 _ (gp_64 (gp_64 (gp_64 (gp_16 (gp_16 (gp_1 (gp_1 (gp_1 gp_h))))))))
set_option maxRecDepth 20000 in
theorem tw_510 : (Cond.methodLink RX8 293 yX8_failureOfHolds) ∈ lw_tbl := gt_2 _ (gp_64 (gp_64 (gp_64 (gp_16 (gp_16 (gp_1 (gp_1 gp_h)))))))
set_option maxRecDepth 20000 in
theorem tw_508 : (Cond.code yX7_hasRowLane cX7_hasRowLane 2 ( some .boolean )) ∈ lw_tbl := gt_2 _ (gp_64 (gp_64 (gp_64 (gp_16 (gp_16 gp_h)))))
set_option maxRecDepth 20000 in
theorem tw_507 : (Cond.selects RX7 yX7_hasRowLane yX7_hasRowLane) ∈ lw_tbl := gt_2 _ (gp_64 (gp_64 (gp_64 (gp_16 (gp_4 (gp_4 (gp_4 (gp_1 (gp_1 (gp_1 gp_h))))))))))
set_option maxRecDepth 20000 in
theorem tw_506 : (Cond.instanceMethod yX7_hasRowLane) ∈ lw_tbl := gt_2 _ (gp_64 (gp_64 (gp_64 (gp_16 (gp_4 (gp_4 (gp_4 (gp_1 (gp_1 gp_h)))))))))
set_option maxRecDepth 20000 in
theorem tw_505 : (Cond.methodLink RX8 315 yX7_hasRowLane) ∈ lw_tbl := gt_2 _ (gp_64 (gp_64 (gp_64 (gp_16 (gp_4 (gp_4 (gp_4 (gp_1 gp_h))))))))
set_option maxRecDepth 20000 in
theorem tw_481 : (Cond.code yX8_judge cX8_judge 4 ( some .int )) ∈ lw_tbl := gt_2 _ (gp_64 (gp_64 (gp_64 (gp_4 (gp_1 gp_h)))))
set_option maxRecDepth 20000 in
theorem gr_X8_judge_r1 : GoodIn lw_tbl wsX8_judge_r1 := gp_s (gp_c (tw_196) (gp_c (tw_279) (gp_c (tw_394) (gp_c (tw_396) (gp_c (gq_2) (gp_c (tw_45) (gp_c (tw_397) (gp_c (tw_219) (gp_c (tw_218) (gp_c (tw_482) (gp_c (tw_484) (gp_c (gq_7) (gp_c (tw_485) (gp_c (tw_277) (gp_c (tw_486) (gp_c (tw_488) (gp_c (gq_8) (gp_c (tw_489) (gp_c (tw_353) (gp_c (tw_490) (gp_c (tw_491) (gp_c (tw_492) (gp_c (tw_355) (gp_c (tw_357) (gp_n))))))))))))))))))))))))) (by decide +kernel)
set_option maxRecDepth 20000 in
theorem gr_X8_judge_r2 : GoodIn lw_tbl wsX8_judge_r2 := gp_s (gp_c (tw_200) (gp_c (tw_493) (gp_c (tw_494) (gp_c (tw_495) (gp_c (tw_52) (gp_c (tw_496) (gp_c (tw_271) (gp_c (tw_497) (gp_c (tw_326) (gp_c (tw_327) (gp_c (tw_328) (gp_c (tw_266) (gp_c (tw_306) (gp_c (tw_307) (gp_c (tw_498) (gp_c (tw_500) (gp_c (gq_9) (gp_c (tw_501) (gp_c (tw_265) (gp_c (tw_359) (gp_c (tw_502) (gp_c (tw_503) (gp_c (tw_504) (gp_c (tw_204) (gp_n))))))))))))))))))))))))) (by decide +kernel)
set_option maxRecDepth 20000 in
theorem gr_X8_judge_r3 : GoodIn lw_tbl wsX8_judge_r3 := gp_s (gp_c (tw_443) (gp_c (tw_505) (gp_c (tw_506) (gp_c (tw_507) (gp_c (tw_508) (gp_c (tw_432) (gp_c (tw_433) (gp_c (tw_510) (gp_c (tw_511) (gp_c (tw_512) (gp_c (tw_513) (gp_c (tw_514) (gp_c (tw_515) (gp_c (tw_516) (gp_c (tw_517) (gp_c (tw_519) (gp_c (gq_10) (gp_c (tw_520) (gp_c (tw_270) (gp_c (tw_308) (gp_c (tw_309) (gp_c (tw_310) (gp_c (tw_311) (gp_c (tw_269) (gp_n))))))))))))))))))))))))) (by decide +kernel)
set_option maxRecDepth 20000 in
theorem gr_X8_judge_r4 : GoodIn lw_tbl wsX8_judge_r4 := gp_s (gp_c (tw_398) (gp_c (tw_399) (gp_c (tw_400) (gp_n)))) (by decide +kernel)
set_option maxRecDepth 20000 in
theorem ggT_X8_judge : GoodIn lw_tbl wsX8_judge := goodIn_cons (gp_s (gp_c (tw_481) (gp_n)) (by decide +kernel)) (goodIn_app (goodIn_app (goodIn_app (goodIn_app (goodIn_app (goodIn_app gr_X8_judge_r1 (goodIn_app gr_X8_judge_r2 (goodIn_app gr_X8_judge_r3 gr_X8_judge_r4))) gwX60) gwX70) gwX80) gwX00) gwX50)
set_option maxRecDepth 20000 in
theorem gT_X8_judge : GoodIn lw_tbl (wsV RL 112 RX8 yX8_judge wsX8_judge) := goodIn_app (gp_s (gp_c (gt_2 _ (gp_64 (gp_64 (gp_64 (gp_1 (gp_1 gp_h)))))) (gp_c (gt_2 _ (gp_64 (gp_64 (gp_64 (gp_1 (gp_1 (gp_1 gp_h))))))) (gp_c (gt_2 _ (gp_64 (gp_64 (gp_64 (gp_4 gp_h))))) (gp_c (tw_45) (gp_n))))) (by decide +kernel)) ggT_X8_judge
set_option maxRecDepth 20000 in
theorem tw_1053 : (Cond.code yX9_checked cX9_checked 13 ( some .int )) ∈ lw_tbl := gt_5 _ (gp_16 (gp_16 (gp_16 (gp_1 gp_h))))
set_option maxRecDepth 20000 in
theorem tw_1052 : (Cond.instanceMethod yX9_checked) ∈ lw_tbl := gt_5 _ (gp_16 (gp_16 (gp_16 gp_h)))
set_option maxRecDepth 20000 in
theorem tw_1050 : (Cond.methodLink RX9 203 yX9_checked) ∈ lw_tbl := gt_5 _ (gp_16 (gp_16 (gp_4 (gp_4 (gp_4 (gp_1 (gp_1 gp_h)))))))
set_option maxRecDepth 20000 in
theorem tw_807 : (Cond.fieldLink RX9 206 "StateRecordsModel" "checkAt" "I") ∈ lw_tbl := gt_4 _ (gp_16 (gp_16 (gp_4 (gp_4 (gp_1 (gp_1 (gp_1 gp_h)))))))
set_option maxRecDepth 20000 in
theorem tw_1049 : (Cond.code yX9_judged cX9_judged 5 ( some .int )) ∈ lw_tbl := gt_5 _ (gp_16 (gp_16 (gp_4 (gp_4 (gp_4 (gp_1 gp_h))))))
set_option maxRecDepth 20000 in
theorem tw_1048 : (Cond.instanceMethod yX9_judged) ∈ lw_tbl := gt_5 _ (gp_16 (gp_16 (gp_4 (gp_4 (gp_4 gp_h)))))
set_option maxRecDepth 20000 in
theorem tw_1046 : (Cond.methodLink RX9 209 yX9_judged) ∈ lw_tbl := gt_5 _ (gp_16 (gp_16 (gp_4 (gp_4 (gp_1 (gp_1 gp_h))))))
set_option maxRecDepth 20000 in
theorem tw_1057 : (Cond.code yX9_isLane cX9_isLane 5 ( some .boolean )) ∈ lw_tbl := gt_5 _ (gp_16 (gp_16 (gp_16 (gp_4 (gp_1 gp_h)))))
set_option maxRecDepth 20000 in
theorem tw_1056 : (Cond.instanceMethod yX9_isLane) ∈ lw_tbl := gt_5 _ (gp_16 (gp_16 (gp_16 (gp_4 gp_h))))
set_option maxRecDepth 20000 in
theorem tw_1054 : (Cond.methodLink RX9 197 yX9_isLane) ∈ lw_tbl := gt_5 _ (gp_16 (gp_16 (gp_16 (gp_1 (gp_1 gp_h)))))
set_option maxRecDepth 20000 in
theorem tw_1058 : (Cond.constantLong RX9 201 ( 12 )) ∈ lw_tbl := gt_5 _ (gp_16 (gp_16 (gp_16 (gp_4 (gp_1 (gp_1 gp_h))))))
set_option maxRecDepth 20000 in
theorem tw_1045 : (Cond.code yX9_judge cX9_judge 3 ( some .int )) ∈ lw_tbl := gt_5 _ (gp_16 (gp_16 (gp_4 (gp_4 (gp_1 gp_h)))))
set_option maxRecDepth 20000 in
theorem gr_X9_judge_r1 : GoodIn lw_tbl wsX9_judge_r1 := gp_s (gp_c (tw_779) (gp_c (tw_986) (gp_c (tw_988) (gp_c (gq_26) (gp_c (tw_51) (gp_c (tw_989) (gp_c (tw_792) (gp_c (tw_1046) (gp_c (tw_1048) (gp_c (gq_31) (gp_c (tw_1049) (gp_c (tw_793) (gp_c (tw_787) (gp_c (tw_807) (gp_c (tw_1050) (gp_c (tw_1052) (gp_c (gq_32) (gp_c (tw_1053) (gp_c (tw_788) (gp_c (tw_789) (gp_c (tw_790) (gp_c (tw_794) (gp_c (tw_782) (gp_c (tw_791) (gp_n))))))))))))))))))))))))) (by decide +kernel)
set_option maxRecDepth 20000 in
theorem gr_X9_judge_r2 : GoodIn lw_tbl wsX9_judge_r2 := gp_s (gp_c (tw_796) (gp_c (tw_797) (gp_c (tw_1058) (gp_c (tw_783) (gp_c (tw_1054) (gp_c (tw_1056) (gp_c (gq_33) (gp_c (tw_1057) (gp_c (tw_990) (gp_c (tw_992) (gp_c (gq_27) (gp_c (tw_993) (gp_c (tw_784) (gp_c (tw_949) (gp_c (tw_951) (gp_c (gq_24) (gp_c (tw_952) (gp_n)))))))))))))))))) (by decide +kernel)
set_option maxRecDepth 20000 in
theorem ggT_X9_judge : GoodIn lw_tbl wsX9_judge := goodIn_cons (gp_s (gp_c (tw_1045) (gp_n)) (by decide +kernel)) (goodIn_app (goodIn_app gr_X9_judge_r1 gr_X9_judge_r2) gwX90)
set_option maxRecDepth 20000 in
theorem gT_X9_judge : GoodIn lw_tbl (wsV RL 115 RX9 yX9_judge wsX9_judge) := goodIn_app (gp_s (gp_c (gt_5 _ (gp_16 (gp_16 (gp_4 (gp_1 (gp_1 gp_h)))))) (gp_c (gt_5 _ (gp_16 (gp_16 (gp_4 (gp_1 (gp_1 (gp_1 gp_h))))))) (gp_c (gt_5 _ (gp_16 (gp_16 (gp_4 (gp_4 gp_h))))) (gp_c (tw_51) (gp_n))))) (by decide +kernel)) ggT_X9_judge
set_option maxRecDepth 20000 in
theorem tw_531 : (Cond.instanceMethod yX8_forgetNumbers) ∈ lw_tbl := gt_3 _ (gp_4 (gp_1 (gp_1 (gp_1 gp_h))))
set_option maxRecDepth 20000 in
theorem tw_529 : (Cond.methodLink RX8 321 yX8_forgetNumbers) ∈ lw_tbl := gt_3 _ (gp_4 (gp_1 gp_h))
set_option maxRecDepth 20000 in
theorem tw_94 : (Cond.fieldLink RX8 234 "StateRecords$Records" "rowCount" "I") ∈ lw_tbl := gt_1 _ (gp_16 (gp_16 (gp_16 (gp_1 (gp_1 gp_h)))))
set_option maxRecDepth 20000 in
theorem tw_528 : (Cond.code yX8_recordFrom cX8_recordFrom 4 none) ∈ lw_tbl := gt_3 _ (gp_4 gp_h)
set_option maxRecDepth 20000 in
theorem tw_527 : (Cond.instanceMethod yX8_recordFrom) ∈ lw_tbl := gt_3 _ (gp_1 (gp_1 (gp_1 gp_h)))
set_option maxRecDepth 20000 in
theorem tw_525 : (Cond.methodLink RX8 216 yX8_recordFrom) ∈ lw_tbl := gt_3 _ (gp_1 gp_h)
set_option maxRecDepth 20000 in
theorem tw_82 : (Cond.fieldLink RX8 231 "StateRecords$Records" "recordCount" "I") ∈ lw_tbl := gt_1 _ (gp_16 (gp_16 (gp_4 (gp_1 (gp_1 gp_h)))))
set_option maxRecDepth 20000 in
theorem tw_88 : (Cond.fieldLink RX8 224 "StateRecords$Records" "names" "[I") ∈ lw_tbl := gt_1 _ (gp_16 (gp_16 (gp_4 (gp_4 (gp_4 gp_h)))))
set_option maxRecDepth 20000 in
theorem tw_543 : (Cond.instanceMethod yX8_recordFields) ∈ lw_tbl := gt_3 _ (gp_16 (gp_1 (gp_1 (gp_1 gp_h))))
set_option maxRecDepth 20000 in
theorem tw_541 : (Cond.methodLink RX8 328 yX8_recordFields) ∈ lw_tbl := gt_3 _ (gp_16 (gp_1 gp_h))
set_option maxRecDepth 20000 in
theorem tw_86 : (Cond.fieldLink RX8 338 "StateRecords$Records" "fieldCounts" "[I") ∈ lw_tbl := gt_1 _ (gp_16 (gp_16 (gp_4 (gp_4 (gp_1 (gp_1 gp_h))))))
set_option maxRecDepth 20000 in
theorem tw_84 : (Cond.fieldLink RX8 336 "StateRecords$Records" "types" "[I") ∈ lw_tbl := gt_1 _ (gp_16 (gp_16 (gp_4 (gp_4 gp_h))))
set_option maxRecDepth 20000 in
theorem tw_206 : (Cond.fieldLink RX8 333 "StateRecords$Thing" "recordNumber" "I") ∈ lw_tbl := gt_1 _ (gp_64 (gp_64 (gp_16 (gp_16 (gp_1 (gp_1 gp_h))))))
set_option maxRecDepth 20000 in
theorem tw_540 : (Cond.code yX8_recordNumberOf cX8_recordNumberOf 3 ( some .int )) ∈ lw_tbl := gt_3 _ (gp_16 gp_h)
set_option maxRecDepth 20000 in
theorem tw_539 : (Cond.instanceMethod yX8_recordNumberOf) ∈ lw_tbl := gt_3 _ (gp_4 (gp_4 (gp_4 (gp_1 (gp_1 (gp_1 gp_h))))))
set_option maxRecDepth 20000 in
theorem tw_537 : (Cond.methodLink RX8 324 yX8_recordNumberOf) ∈ lw_tbl := gt_3 _ (gp_4 (gp_4 (gp_4 (gp_1 gp_h))))
set_option maxRecDepth 20000 in
theorem tw_445 : (Cond.fieldLink RX6 41 "StateRecords$Row" "number" "I") ∈ lw_tbl := gt_2 _ (gp_64 (gp_64 (gp_16 (gp_16 (gp_1 gp_h)))))
set_option maxRecDepth 20000 in
theorem tw_205 : (Cond.fieldLink RX6 38 "StateRecords$Thing" "recordNumber" "I") ∈ lw_tbl := gt_1 _ (gp_64 (gp_64 (gp_16 (gp_16 (gp_1 gp_h)))))
set_option maxRecDepth 20000 in
theorem tw_536 : (Cond.code yX6_forgetNumbers cX6_forgetNumbers 2 none) ∈ lw_tbl := gt_3 _ (gp_4 (gp_4 (gp_4 gp_h)))
set_option maxRecDepth 20000 in
theorem tw_535 : (Cond.selects RX6 yX6_forgetNumbers yX6_forgetNumbers) ∈ lw_tbl := gt_3 _ (gp_4 (gp_4 (gp_1 (gp_1 (gp_1 gp_h)))))
set_option maxRecDepth 20000 in
theorem tw_534 : (Cond.instanceMethod yX6_forgetNumbers) ∈ lw_tbl := gt_3 _ (gp_4 (gp_4 (gp_1 (gp_1 gp_h))))
set_option maxRecDepth 20000 in
theorem tw_533 : (Cond.methodLink RX8 332 yX6_forgetNumbers) ∈ lw_tbl := gt_3 _ (gp_4 (gp_4 (gp_1 gp_h)))
set_option maxRecDepth 20000 in
theorem tw_532 : (Cond.code yX8_forgetNumbers cX8_forgetNumbers 2 none) ∈ lw_tbl := gt_3 _ (gp_4 (gp_4 gp_h))
set_option maxRecDepth 20000 in
theorem tw_440 : (Cond.fieldLink RX4 43 "StateRecords$Row" "items" "[J") ∈ lw_tbl := gt_2 _ (gp_64 (gp_64 (gp_16 (gp_4 (gp_4 (gp_4 gp_h))))))
set_option maxRecDepth 20000 in
theorem tw_93 : (Cond.fieldLink RX4 40 "StateRecords$Records" "rowCount" "I") ∈ lw_tbl := gt_1 _ (gp_16 (gp_16 (gp_16 (gp_1 gp_h))))
set_option maxRecDepth 20000 in
theorem tw_444 : (Cond.fieldLink RX4 34 "StateRecords$Row" "number" "I") ∈ lw_tbl := gt_2 _ (gp_64 (gp_64 (gp_16 (gp_16 gp_h))))
set_option maxRecDepth 20000 in
theorem tw_552 : (Cond.code yX4_numberOf cX4_numberOf 3 ( some .int )) ∈ lw_tbl := gt_3 _ (gp_16 (gp_4 (gp_4 (gp_4 gp_h))))
set_option maxRecDepth 20000 in
theorem tw_551 : (Cond.selects RX4 yX4_numberOf yX4_numberOf) ∈ lw_tbl := gt_3 _ (gp_16 (gp_4 (gp_4 (gp_1 (gp_1 (gp_1 gp_h))))))
set_option maxRecDepth 20000 in
theorem tw_550 : (Cond.instanceMethod yX4_numberOf) ∈ lw_tbl := gt_3 _ (gp_16 (gp_4 (gp_4 (gp_1 (gp_1 gp_h)))))
set_option maxRecDepth 20000 in
theorem tw_549 : (Cond.methodLink RX8 347 yX4_numberOf) ∈ lw_tbl := gt_3 _ (gp_16 (gp_4 (gp_4 (gp_1 gp_h))))
set_option maxRecDepth 20000 in
theorem tw_548 : (Cond.code yX8_recordedValue cX8_recordedValue 6 ( some .long )) ∈ lw_tbl := gt_3 _ (gp_16 (gp_4 (gp_4 gp_h)))
set_option maxRecDepth 20000 in
theorem tw_547 : (Cond.instanceMethod yX8_recordedValue) ∈ lw_tbl := gt_3 _ (gp_16 (gp_4 (gp_1 (gp_1 (gp_1 gp_h)))))
set_option maxRecDepth 20000 in
theorem tw_545 : (Cond.methodLink RX8 343 yX8_recordedValue) ∈ lw_tbl := gt_3 _ (gp_16 (gp_4 (gp_1 gp_h)))
set_option maxRecDepth 20000 in
theorem tw_92 : (Cond.fieldLink RX8 342 "StateRecords$Records" "values" "[J") ∈ lw_tbl := gt_1 _ (gp_16 (gp_16 (gp_16 gp_h)))
set_option maxRecDepth 20000 in
theorem tw_90 : (Cond.fieldLink RX8 341 "StateRecords$Records" "lanes" "[I") ∈ lw_tbl := gt_1 _ (gp_16 (gp_16 (gp_4 (gp_4 (gp_4 (gp_1 (gp_1 gp_h)))))))
set_option maxRecDepth 20000 in
theorem tw_544 : (Cond.code yX8_recordFields cX8_recordFields 6 none) ∈ lw_tbl := gt_3 _ (gp_16 (gp_4 gp_h))
set_option maxRecDepth 20000 in
theorem tw_178 : (Cond.fieldLink RX1 20 "StateRecords$Fault" "check" "I") ∈ lw_tbl := gt_1 _ (gp_64 (gp_64 (gp_4 (gp_1 (gp_1 gp_h)))))
set_option maxRecDepth 20000 in
theorem tw_176 : (Cond.fieldLink RX1 17 "StateRecords$Fault" "name" "I") ∈ lw_tbl := gt_1 _ (gp_64 (gp_64 (gp_4 gp_h)))
set_option maxRecDepth 20000 in
theorem tw_174 : (Cond.fieldLink RX1 13 "StateRecords$Fault" "record" "I") ∈ lw_tbl := gt_1 _ (gp_64 (gp_64 (gp_1 (gp_1 gp_h))))
set_option maxRecDepth 20000 in
theorem tw_172 : (Cond.fieldLink RX1 7 "StateRecords$Fault" "isTold" "Z") ∈ lw_tbl := gt_1 _ (gp_64 (gp_64 gp_h))
set_option maxRecDepth 20000 in
theorem tw_560 : (Cond.code yX1_tell cX1_tell 4 none) ∈ lw_tbl := gt_3 _ (gp_16 (gp_16 (gp_4 gp_h)))
set_option maxRecDepth 20000 in
theorem tw_559 : (Cond.selects RX1 yX1_tell yX1_tell) ∈ lw_tbl := gt_3 _ (gp_16 (gp_16 (gp_1 (gp_1 (gp_1 gp_h)))))
set_option maxRecDepth 20000 in
theorem tw_558 : (Cond.instanceMethod yX1_tell) ∈ lw_tbl := gt_3 _ (gp_16 (gp_16 (gp_1 (gp_1 gp_h))))
set_option maxRecDepth 20000 in
theorem tw_557 : (Cond.methodLink RX8 227 yX1_tell) ∈ lw_tbl := gt_3 _ (gp_16 (gp_16 (gp_1 gp_h)))
set_option maxRecDepth 20000 in
theorem tw_556 : (Cond.code yX8_firstShutSlot cX8_firstShutSlot 5 ( some .int )) ∈ lw_tbl := gt_3 _ (gp_16 (gp_16 gp_h))
set_option maxRecDepth 20000 in
theorem tw_555 : (Cond.instanceMethod yX8_firstShutSlot) ∈ lw_tbl := gt_3 _ (gp_16 (gp_4 (gp_4 (gp_4 (gp_1 (gp_1 (gp_1 gp_h)))))))
set_option maxRecDepth 20000 in
theorem tw_553 : (Cond.methodLink RX8 220 yX8_firstShutSlot) ∈ lw_tbl := gt_3 _ (gp_16 (gp_4 (gp_4 (gp_4 (gp_1 gp_h)))))
set_option maxRecDepth 20000 in
theorem tw_524 : (Cond.code yX8_save cX8_save 6 ( some .int )) ∈ lw_tbl := gt_3 _ (gp_h)
set_option maxRecDepth 20000 in
theorem gr_X8_save_r1 : GoodIn lw_tbl wsX8_save_r1 := gp_s (gp_c (tw_222) (gp_c (tw_227) (gp_c (tw_88) (gp_c (tw_221) (gp_c (tw_82) (gp_c (tw_394) (gp_c (tw_396) (gp_c (gq_2) (gp_c (tw_45) (gp_c (tw_397) (gp_c (tw_219) (gp_c (tw_218) (gp_c (tw_305) (gp_c (tw_306) (gp_c (tw_307) (gp_c (tw_525) (gp_c (tw_527) (gp_c (gq_11) (gp_c (tw_528) (gp_c (tw_94) (gp_c (tw_224) (gp_c (tw_529) (gp_c (tw_531) (gp_c (gq_12) (gp_n))))))))))))))))))))))))) (by decide +kernel)
set_option maxRecDepth 20000 in
theorem gr_X8_save_r2 : GoodIn lw_tbl wsX8_save_r2 := gp_s (gp_c (tw_532) (gp_c (tw_533) (gp_c (tw_534) (gp_c (tw_535) (gp_c (tw_50) (gp_c (tw_536) (gp_c (tw_205) (gp_c (tw_195) (gp_c (tw_267) (gp_c (tw_201) (gp_c (tw_445) (gp_c (tw_537) (gp_c (tw_539) (gp_c (gq_13) (gp_c (tw_540) (gp_c (tw_206) (gp_c (tw_84) (gp_c (tw_196) (gp_c (tw_265) (gp_c (tw_86) (gp_c (tw_268) (gp_c (tw_541) (gp_c (tw_543) (gp_c (gq_14) (gp_n))))))))))))))))))))))))) (by decide +kernel)
set_option maxRecDepth 20000 in
theorem gr_X8_save_r3 : GoodIn lw_tbl wsX8_save_r3 := gp_s (gp_c (tw_544) (gp_c (tw_270) (gp_c (tw_90) (gp_c (tw_272) (gp_c (tw_92) (gp_c (tw_545) (gp_c (tw_547) (gp_c (gq_15) (gp_c (tw_548) (gp_c (tw_204) (gp_c (tw_312) (gp_c (tw_200) (gp_c (tw_431) (gp_c (tw_432) (gp_c (tw_433) (gp_c (tw_549) (gp_c (tw_550) (gp_c (tw_551) (gp_c (tw_46) (gp_c (tw_552) (gp_c (tw_444) (gp_c (tw_93) (gp_c (tw_95) (gp_c (tw_440) (gp_n))))))))))))))))))))))))) (by decide +kernel)
set_option maxRecDepth 20000 in
theorem gr_X8_save_r4 : GoodIn lw_tbl wsX8_save_r4 := gp_s (gp_c (tw_96) (gp_c (tw_553) (gp_c (tw_555) (gp_c (gq_16) (gp_c (tw_556) (gp_c (tw_276) (gp_c (tw_557) (gp_c (tw_558) (gp_c (tw_559) (gp_c (tw_49) (gp_c (tw_560) (gp_c (tw_172) (gp_c (tw_174) (gp_c (tw_176) (gp_c (tw_178) (gp_c (tw_398) (gp_c (tw_399) (gp_c (tw_400) (gp_n))))))))))))))))))) (by decide +kernel)
set_option maxRecDepth 20000 in
theorem ggT_X8_save : GoodIn lw_tbl wsX8_save := goodIn_cons (gp_s (gp_c (tw_524) (gp_n)) (by decide +kernel)) (goodIn_app (goodIn_app (goodIn_app (goodIn_app (goodIn_app (goodIn_app (goodIn_app gr_X8_save_r1 (goodIn_app gr_X8_save_r2 (goodIn_app gr_X8_save_r3 gr_X8_save_r4))) gwX80) gwX40) gwX60) gwX70) gwX50) gwX10)
set_option maxRecDepth 20000 in
theorem gT_X8_save : GoodIn lw_tbl (wsV RL 116 RX8 yX8_save wsX8_save) := goodIn_app (gp_s (gp_c (gt_2 _ (gp_64 (gp_64 (gp_64 (gp_16 (gp_16 (gp_4 (gp_4 (gp_4 (gp_1 gp_h)))))))))) (gp_c (gt_2 _ (gp_64 (gp_64 (gp_64 (gp_16 (gp_16 (gp_4 (gp_4 (gp_4 (gp_1 (gp_1 gp_h))))))))))) (gp_c (gt_2 _ (gp_64 (gp_64 (gp_64 (gp_16 (gp_16 (gp_4 (gp_4 (gp_4 (gp_1 (gp_1 (gp_1 gp_h)))))))))))) (gp_c (tw_45) (gp_n))))) (by decide +kernel)) ggT_X8_save
set_option maxRecDepth 20000 in
theorem tw_1069 : (Cond.instanceMethod yX9_saves) ∈ lw_tbl := gt_5 _ (gp_64 (gp_1 gp_h))
set_option maxRecDepth 20000 in
theorem tw_1067 : (Cond.methodLink RX9 226 yX9_saves) ∈ lw_tbl := gt_5 _ (gp_16 (gp_16 (gp_16 (gp_4 (gp_4 (gp_4 (gp_1 (gp_1 (gp_1 gp_h)))))))))
set_option maxRecDepth 20000 in
theorem tw_1066 : (Cond.code yX9_isSave cX9_isSave 2 ( some .boolean )) ∈ lw_tbl := gt_5 _ (gp_16 (gp_16 (gp_16 (gp_4 (gp_4 (gp_4 (gp_1 (gp_1 gp_h))))))))
set_option maxRecDepth 20000 in
theorem tw_1065 : (Cond.instanceMethod yX9_isSave) ∈ lw_tbl := gt_5 _ (gp_16 (gp_16 (gp_16 (gp_4 (gp_4 (gp_4 (gp_1 gp_h)))))))
set_option maxRecDepth 20000 in
theorem tw_1063 : (Cond.methodLink RX9 223 yX9_isSave) ∈ lw_tbl := gt_5 _ (gp_16 (gp_16 (gp_16 (gp_4 (gp_4 (gp_1 (gp_1 (gp_1 gp_h))))))))
set_option maxRecDepth 20000 in
theorem tw_1082 : (Cond.code yX9_rowOf cX9_rowOf 5 ( some .int )) ∈ lw_tbl := gt_5 _ (gp_64 (gp_4 (gp_4 (gp_4 (gp_1 (gp_1 gp_h))))))
set_option maxRecDepth 20000 in
theorem tw_1081 : (Cond.instanceMethod yX9_rowOf) ∈ lw_tbl := gt_5 _ (gp_64 (gp_4 (gp_4 (gp_4 (gp_1 gp_h)))))
set_option maxRecDepth 20000 in
theorem tw_1079 : (Cond.methodLink RX9 220 yX9_rowOf) ∈ lw_tbl := gt_5 _ (gp_64 (gp_4 (gp_4 (gp_1 (gp_1 (gp_1 gp_h))))))
set_option maxRecDepth 20000 in
theorem tw_1078 : (Cond.code yX9_faulty cX9_faulty 5 ( some .int )) ∈ lw_tbl := gt_5 _ (gp_64 (gp_4 (gp_4 (gp_1 (gp_1 gp_h)))))
set_option maxRecDepth 20000 in
theorem tw_1077 : (Cond.instanceMethod yX9_faulty) ∈ lw_tbl := gt_5 _ (gp_64 (gp_4 (gp_4 (gp_1 gp_h))))
set_option maxRecDepth 20000 in
theorem tw_1075 : (Cond.methodLink RX9 216 yX9_faulty) ∈ lw_tbl := gt_5 _ (gp_64 (gp_4 (gp_1 (gp_1 (gp_1 gp_h)))))
set_option maxRecDepth 20000 in
theorem tw_1074 : (Cond.code yX9_recordOf cX9_recordOf 4 ( some .int )) ∈ lw_tbl := gt_5 _ (gp_64 (gp_4 (gp_1 (gp_1 gp_h))))
set_option maxRecDepth 20000 in
theorem tw_1073 : (Cond.instanceMethod yX9_recordOf) ∈ lw_tbl := gt_5 _ (gp_64 (gp_4 (gp_1 gp_h)))
set_option maxRecDepth 20000 in
theorem tw_1071 : (Cond.methodLink RX9 213 yX9_recordOf) ∈ lw_tbl := gt_5 _ (gp_64 (gp_1 (gp_1 (gp_1 gp_h))))
set_option maxRecDepth 20000 in
theorem tw_1070 : (Cond.code yX9_saves cX9_saves 10 ( some .int )) ∈ lw_tbl := gt_5 _ (gp_64 (gp_1 (gp_1 gp_h)))
set_option maxRecDepth 20000 in
theorem tw_1062 : (Cond.code yX9_save cX9_save 6 ( some .int )) ∈ lw_tbl := gt_5 _ (gp_16 (gp_16 (gp_16 (gp_4 (gp_4 (gp_1 (gp_1 gp_h)))))))
set_option maxRecDepth 20000 in
theorem gr_X9_save_r1 : GoodIn lw_tbl wsX9_save_r1 := gp_s (gp_c (tw_779) (gp_c (tw_808) (gp_c (tw_814) (gp_c (tw_809) (gp_c (tw_810) (gp_c (tw_811) (gp_c (tw_812) (gp_c (tw_813) (gp_c (tw_815) (gp_c (tw_816) (gp_c (tw_817) (gp_c (tw_1063) (gp_c (tw_1065) (gp_c (gq_34) (gp_c (tw_51) (gp_c (tw_1066) (gp_c (tw_986) (gp_c (tw_988) (gp_c (gq_26) (gp_c (tw_989) (gp_c (tw_792) (gp_c (tw_1067) (gp_c (tw_1069) (gp_c (gq_35) (gp_n))))))))))))))))))))))))) (by decide +kernel)
set_option maxRecDepth 20000 in
theorem gr_X9_save_r2 : GoodIn lw_tbl wsX9_save_r2 := gp_s (gp_c (tw_1070) (gp_c (tw_818) (gp_c (tw_793) (gp_c (tw_782) (gp_c (tw_786) (gp_c (tw_783) (gp_c (tw_794) (gp_c (tw_784) (gp_c (tw_1071) (gp_c (tw_1073) (gp_c (gq_36) (gp_c (tw_1074) (gp_c (tw_1075) (gp_c (tw_1077) (gp_c (gq_37) (gp_c (tw_1078) (gp_c (tw_820) (gp_c (tw_821) (gp_c (tw_822) (gp_c (tw_1079) (gp_c (tw_1081) (gp_c (gq_38) (gp_c (tw_1082) (gp_c (tw_819) (gp_n))))))))))))))))))))))))) (by decide +kernel)
set_option maxRecDepth 20000 in
theorem gr_X9_save_r3 : GoodIn lw_tbl wsX9_save_r3 := gp_s (gp_c (tw_795) (gp_c (tw_796) (gp_c (tw_797) (gp_n)))) (by decide +kernel)
set_option maxRecDepth 20000 in
theorem ggT_X9_save : GoodIn lw_tbl wsX9_save := goodIn_cons (gp_s (gp_c (tw_1062) (gp_n)) (by decide +kernel)) (goodIn_app (goodIn_app gr_X9_save_r1 (goodIn_app gr_X9_save_r2 gr_X9_save_r3)) gwX90)
set_option maxRecDepth 20000 in
theorem gT_X9_save : GoodIn lw_tbl (wsV RL 119 RX9 yX9_save wsX9_save) := goodIn_app (gp_s (gp_c (gt_5 _ (gp_16 (gp_16 (gp_16 (gp_4 (gp_1 (gp_1 (gp_1 gp_h)))))))) (gp_c (gt_5 _ (gp_16 (gp_16 (gp_16 (gp_4 (gp_4 gp_h)))))) (gp_c (gt_5 _ (gp_16 (gp_16 (gp_16 (gp_4 (gp_4 (gp_1 gp_h))))))) (gp_c (tw_51) (gp_n))))) (by decide +kernel)) ggT_X9_save
set_option maxRecDepth 20000 in
theorem tw_564 : (Cond.code yX8_saved cX8_saved 3 ( some .int )) ∈ lw_tbl := gt_3 _ (gp_16 (gp_16 (gp_4 (gp_4 gp_h))))
set_option maxRecDepth 20000 in
theorem ggT_X8_saved : GoodIn lw_tbl wsX8_saved := goodIn_cons (gp_s (gp_c (tw_564) (gp_n)) (by decide +kernel)) (goodIn_app (goodIn_app (gp_s (gp_c (tw_221) (gp_c (tw_82) (gp_c (tw_94) (gp_c (tw_305) (gp_c (tw_306) (gp_c (tw_45) (gp_c (tw_307) (gp_n)))))))) (by decide +kernel)) gwX80) gwX40)
set_option maxRecDepth 20000 in
theorem gT_X8_saved : GoodIn lw_tbl (wsV RL 120 RX8 yX8_saved wsX8_saved) := goodIn_app (gp_s (gp_c (gt_3 _ (gp_16 (gp_16 (gp_4 (gp_1 gp_h))))) (gp_c (gt_3 _ (gp_16 (gp_16 (gp_4 (gp_1 (gp_1 gp_h)))))) (gp_c (gt_3 _ (gp_16 (gp_16 (gp_4 (gp_1 (gp_1 (gp_1 gp_h))))))) (gp_c (tw_45) (gp_n))))) (by decide +kernel)) ggT_X8_saved
set_option maxRecDepth 20000 in
theorem tw_1086 : (Cond.code yX9_saved cX9_saved 3 ( some .int )) ∈ lw_tbl := gt_5 _ (gp_64 (gp_16 (gp_1 (gp_1 gp_h))))
set_option maxRecDepth 20000 in
theorem ggT_X9_saved : GoodIn lw_tbl wsX9_saved := goodIn_cons (gp_s (gp_c (tw_1086) (gp_n)) (by decide +kernel)) (goodIn_app (gp_s (gp_c (tw_779) (gp_c (tw_808) (gp_c (tw_814) (gp_c (tw_1063) (gp_c (tw_1065) (gp_c (gq_34) (gp_c (tw_51) (gp_c (tw_1066) (gp_n))))))))) (by decide +kernel)) gwX90)
set_option maxRecDepth 20000 in
theorem gT_X9_saved : GoodIn lw_tbl (wsV RL 123 RX9 yX9_saved wsX9_saved) := goodIn_app (gp_s (gp_c (gt_5 _ (gp_64 (gp_4 (gp_4 (gp_4 (gp_1 (gp_1 (gp_1 gp_h)))))))) (gp_c (gt_5 _ (gp_64 (gp_16 gp_h))) (gp_c (gt_5 _ (gp_64 (gp_16 (gp_1 gp_h)))) (gp_c (tw_51) (gp_n))))) (by decide +kernel)) ggT_X9_saved
set_option maxRecDepth 20000 in
theorem tw_572 : (Cond.code yX8_addThings cX8_addThings 3 none) ∈ lw_tbl := gt_3 _ (gp_16 (gp_16 (gp_16 gp_h)))
set_option maxRecDepth 20000 in
theorem tw_571 : (Cond.instanceMethod yX8_addThings) ∈ lw_tbl := gt_3 _ (gp_16 (gp_16 (gp_4 (gp_4 (gp_4 (gp_1 (gp_1 (gp_1 gp_h))))))))
set_option maxRecDepth 20000 in
theorem tw_569 : (Cond.methodLink RX8 237 yX8_addThings) ∈ lw_tbl := gt_3 _ (gp_16 (gp_16 (gp_4 (gp_4 (gp_4 (gp_1 gp_h))))))
set_option maxRecDepth 20000 in
theorem tw_580 : (Cond.code yX8_fillField cX8_fillField 10 ( some .int )) ∈ lw_tbl := gt_3 _ (gp_16 (gp_16 (gp_16 (gp_4 (gp_4 gp_h)))))
set_option maxRecDepth 20000 in
theorem tw_579 : (Cond.instanceMethod yX8_fillField) ∈ lw_tbl := gt_3 _ (gp_16 (gp_16 (gp_16 (gp_4 (gp_1 (gp_1 (gp_1 gp_h)))))))
set_option maxRecDepth 20000 in
theorem tw_577 : (Cond.methodLink RX8 364 yX8_fillField) ∈ lw_tbl := gt_3 _ (gp_16 (gp_16 (gp_16 (gp_4 (gp_1 gp_h)))))
set_option maxRecDepth 20000 in
theorem tw_576 : (Cond.code yX8_fillThings cX8_fillThings 8 ( some .int )) ∈ lw_tbl := gt_3 _ (gp_16 (gp_16 (gp_16 (gp_4 gp_h))))
set_option maxRecDepth 20000 in
theorem tw_575 : (Cond.instanceMethod yX8_fillThings) ∈ lw_tbl := gt_3 _ (gp_16 (gp_16 (gp_16 (gp_1 (gp_1 (gp_1 gp_h))))))
set_option maxRecDepth 20000 in
theorem tw_573 : (Cond.methodLink RX8 241 yX8_fillThings) ∈ lw_tbl := gt_3 _ (gp_16 (gp_16 (gp_16 (gp_1 gp_h))))
set_option maxRecDepth 20000 in
theorem tw_588 : (Cond.methodLink RX8 375 yX4_copyOfRow) ∈ lw_tbl := gt_3 _ (gp_64 gp_h)
set_option maxRecDepth 20000 in
theorem tw_587 : (Cond.code yX8_rowPutBack cX8_rowPutBack 5 ( some ( .object "StateRecords$Row" ) )) ∈ lw_tbl := gt_3 _ (gp_16 (gp_16 (gp_16 (gp_4 (gp_4 (gp_4 (gp_1 (gp_1 (gp_1 gp_h)))))))))
set_option maxRecDepth 20000 in
theorem tw_586 : (Cond.instanceMethod yX8_rowPutBack) ∈ lw_tbl := gt_3 _ (gp_16 (gp_16 (gp_16 (gp_4 (gp_4 (gp_4 (gp_1 (gp_1 gp_h))))))))
set_option maxRecDepth 20000 in
theorem tw_584 : (Cond.methodLink RX8 371 yX8_rowPutBack) ∈ lw_tbl := gt_3 _ (gp_16 (gp_16 (gp_16 (gp_4 (gp_4 (gp_4 gp_h))))))
set_option maxRecDepth 20000 in
theorem tw_583 : (Cond.code yX8_mayCome cX8_mayCome 2 ( some .boolean )) ∈ lw_tbl := gt_3 _ (gp_16 (gp_16 (gp_16 (gp_4 (gp_4 (gp_1 (gp_1 (gp_1 gp_h))))))))
set_option maxRecDepth 20000 in
theorem tw_582 : (Cond.static yX8_mayCome) ∈ lw_tbl := gt_3 _ (gp_16 (gp_16 (gp_16 (gp_4 (gp_4 (gp_1 (gp_1 gp_h)))))))
set_option maxRecDepth 20000 in
theorem tw_581 : (Cond.methodLink RX8 368 yX8_mayCome) ∈ lw_tbl := gt_3 _ (gp_16 (gp_16 (gp_16 (gp_4 (gp_4 (gp_1 gp_h))))))
set_option maxRecDepth 20000 in
theorem tw_593 : (Cond.methodLink RX4 44 yX5_init) ∈ lw_tbl := gt_3 _ (gp_64 (gp_4 (gp_1 gp_h)))
set_option maxRecDepth 20000 in
theorem tw_592 : (Cond.classLink RX4 35 RX5) ∈ lw_tbl := gt_3 _ (gp_64 (gp_4 gp_h))
set_option maxRecDepth 20000 in
theorem tw_591 : (Cond.code yX4_copyOfRow cX4_copyOfRow 4 ( some ( .object "StateRecords$Row" ) )) ∈ lw_tbl := gt_3 _ (gp_64 (gp_1 (gp_1 (gp_1 gp_h))))
set_option maxRecDepth 20000 in
theorem tw_590 : (Cond.selects RX4 yX4_copyOfRow yX4_copyOfRow) ∈ lw_tbl := gt_3 _ (gp_64 (gp_1 (gp_1 gp_h)))
set_option maxRecDepth 20000 in
theorem tw_589 : (Cond.instanceMethod yX4_copyOfRow) ∈ lw_tbl := gt_3 _ (gp_64 (gp_1 gp_h))
set_option maxRecDepth 20000 in
theorem tw_597 : (Cond.code yX8_judgeThings cX8_judgeThings 4 ( some .int )) ∈ lw_tbl := gt_3 _ (gp_64 (gp_4 (gp_4 (gp_1 gp_h))))
set_option maxRecDepth 20000 in
theorem tw_596 : (Cond.instanceMethod yX8_judgeThings) ∈ lw_tbl := gt_3 _ (gp_64 (gp_4 (gp_4 gp_h)))
set_option maxRecDepth 20000 in
theorem tw_594 : (Cond.methodLink RX8 245 yX8_judgeThings) ∈ lw_tbl := gt_3 _ (gp_64 (gp_4 (gp_1 (gp_1 gp_h))))
set_option maxRecDepth 20000 in
theorem tw_568 : (Cond.code yX8_restore cX8_restore 5 ( some .int )) ∈ lw_tbl := gt_3 _ (gp_16 (gp_16 (gp_4 (gp_4 (gp_4 gp_h)))))
set_option maxRecDepth 20000 in
theorem gr_X8_restore_r1 : GoodIn lw_tbl wsX8_restore_r1 := gp_s (gp_c (tw_221) (gp_c (tw_82) (gp_c (tw_219) (gp_c (tw_305) (gp_c (tw_306) (gp_c (tw_45) (gp_c (tw_307) (gp_c (tw_569) (gp_c (tw_571) (gp_c (gq_17) (gp_c (tw_572) (gp_c (tw_218) (gp_c (tw_216) (gp_c (tw_84) (gp_c (tw_381) (gp_c (tw_382) (gp_c (tw_383) (gp_c (tw_50) (gp_c (tw_384) (gp_c (tw_195) (gp_c (tw_267) (gp_c (tw_385) (gp_c (tw_318) (gp_c (tw_319) (gp_n))))))))))))))))))))))))) (by decide +kernel)
set_option maxRecDepth 20000 in
theorem gr_X8_restore_r2 : GoodIn lw_tbl wsX8_restore_r2 := gp_s (gp_c (tw_320) (gp_c (tw_197) (gp_c (tw_274) (gp_c (tw_201) (gp_c (tw_573) (gp_c (tw_575) (gp_c (gq_18) (gp_c (tw_576) (gp_c (tw_94) (gp_c (tw_225) (gp_c (tw_86) (gp_c (tw_227) (gp_c (tw_88) (gp_c (tw_577) (gp_c (tw_579) (gp_c (gq_19) (gp_c (tw_580) (gp_c (tw_196) (gp_c (tw_272) (gp_c (tw_90) (gp_c (tw_92) (gp_c (tw_312) (gp_c (tw_204) (gp_c (tw_200) (gp_n))))))))))))))))))))))))) (by decide +kernel)
set_option maxRecDepth 20000 in
theorem gr_X8_restore_r3 : GoodIn lw_tbl wsX8_restore_r3 := gp_s (gp_c (tw_308) (gp_c (tw_309) (gp_c (tw_310) (gp_c (tw_52) (gp_c (tw_311) (gp_c (tw_266) (gp_c (tw_269) (gp_c (tw_581) (gp_c (tw_582) (gp_c (tw_583) (gp_c (tw_431) (gp_c (tw_432) (gp_c (tw_433) (gp_c (tw_401) (gp_c (tw_403) (gp_c (gq_3) (gp_c (tw_404) (gp_c (tw_405) (gp_c (tw_220) (gp_c (tw_584) (gp_c (tw_586) (gp_c (gq_20) (gp_c (tw_587) (gp_c (tw_588) (gp_n))))))))))))))))))))))))) (by decide +kernel)
set_option maxRecDepth 20000 in
theorem gr_X8_restore_r4 : GoodIn lw_tbl wsX8_restore_r4 := gp_s (gp_c (tw_589) (gp_c (tw_590) (gp_c (tw_46) (gp_c (tw_591) (gp_c (tw_592) (gp_c (tw_434) (gp_c (tw_54) (gp_c (tw_95) (gp_c (tw_440) (gp_c (tw_96) (gp_c (tw_593) (gp_c (tw_436) (gp_c (tw_437) (gp_c (tw_438) (gp_c (tw_68) (gp_c (tw_69) (gp_c (tw_118) (gp_c (tw_439) (gp_c (tw_557) (gp_c (tw_558) (gp_c (tw_559) (gp_c (tw_49) (gp_c (tw_560) (gp_c (tw_172) (gp_n))))))))))))))))))))))))) (by decide +kernel)
set_option maxRecDepth 20000 in
theorem gr_X8_restore_r5 : GoodIn lw_tbl wsX8_restore_r5 := gp_s (gp_c (tw_174) (gp_c (tw_176) (gp_c (tw_178) (gp_c (tw_594) (gp_c (tw_596) (gp_c (gq_21) (gp_c (tw_597) (gp_c (tw_279) (gp_c (tw_482) (gp_c (tw_484) (gp_c (gq_7) (gp_c (tw_485) (gp_c (tw_277) (gp_c (tw_486) (gp_c (tw_488) (gp_c (gq_8) (gp_c (tw_489) (gp_c (tw_353) (gp_c (tw_490) (gp_c (tw_491) (gp_c (tw_492) (gp_c (tw_355) (gp_c (tw_357) (gp_c (tw_493) (gp_n))))))))))))))))))))))))) (by decide +kernel)
set_option maxRecDepth 20000 in
theorem gr_X8_restore_r6 : GoodIn lw_tbl wsX8_restore_r6 := gp_s (gp_c (tw_494) (gp_c (tw_495) (gp_c (tw_496) (gp_c (tw_271) (gp_c (tw_497) (gp_c (tw_326) (gp_c (tw_327) (gp_c (tw_328) (gp_c (tw_498) (gp_c (tw_500) (gp_c (gq_9) (gp_c (tw_501) (gp_c (tw_265) (gp_c (tw_359) (gp_c (tw_394) (gp_c (tw_396) (gp_c (gq_2) (gp_c (tw_397) (gp_c (tw_502) (gp_c (tw_503) (gp_c (tw_504) (gp_c (tw_443) (gp_c (tw_505) (gp_c (tw_506) (gp_n))))))))))))))))))))))))) (by decide +kernel)
set_option maxRecDepth 20000 in
theorem gr_X8_restore_r7 : GoodIn lw_tbl wsX8_restore_r7 := gp_s (gp_c (tw_507) (gp_c (tw_508) (gp_c (tw_510) (gp_c (tw_511) (gp_c (tw_512) (gp_c (tw_513) (gp_c (tw_514) (gp_c (tw_515) (gp_c (tw_516) (gp_c (tw_517) (gp_c (tw_519) (gp_c (gq_10) (gp_c (tw_520) (gp_c (tw_270) (gp_c (tw_398) (gp_c (tw_399) (gp_c (tw_400) (gp_n)))))))))))))))))) (by decide +kernel)
set_option maxRecDepth 20000 in
theorem ggT_X8_restore : GoodIn lw_tbl wsX8_restore := goodIn_cons (gp_s (gp_c (tw_568) (gp_n)) (by decide +kernel)) (goodIn_app (goodIn_app (goodIn_app (goodIn_app (goodIn_app (goodIn_app (goodIn_app (goodIn_app gr_X8_restore_r1 (goodIn_app gr_X8_restore_r2 (goodIn_app gr_X8_restore_r3 (goodIn_app gr_X8_restore_r4 (goodIn_app gr_X8_restore_r5 (goodIn_app gr_X8_restore_r6 gr_X8_restore_r7)))))) gwX80) gwX40) gwX60) gwX70) gwX50) gwX10) gwX00)
set_option maxRecDepth 20000 in
theorem gT_X8_restore : GoodIn lw_tbl (wsV RL 124 RX8 yX8_restore wsX8_restore) := goodIn_app (gp_s (gp_c (gt_3 _ (gp_16 (gp_16 (gp_4 (gp_4 (gp_1 gp_h)))))) (gp_c (gt_3 _ (gp_16 (gp_16 (gp_4 (gp_4 (gp_1 (gp_1 gp_h))))))) (gp_c (gt_3 _ (gp_16 (gp_16 (gp_4 (gp_4 (gp_1 (gp_1 (gp_1 gp_h)))))))) (gp_c (tw_45) (gp_n))))) (by decide +kernel)) ggT_X8_restore
set_option maxRecDepth 20000 in
theorem tw_1094 : (Cond.code yX9_fieldsBack cX9_fieldsBack 13 ( some .int )) ∈ lw_tbl := gt_5 _ (gp_64 (gp_16 (gp_4 (gp_4 (gp_1 (gp_1 gp_h))))))
set_option maxRecDepth 20000 in
theorem tw_1093 : (Cond.instanceMethod yX9_fieldsBack) ∈ lw_tbl := gt_5 _ (gp_64 (gp_16 (gp_4 (gp_4 (gp_1 gp_h)))))
set_option maxRecDepth 20000 in
theorem tw_1091 : (Cond.methodLink RX9 237 yX9_fieldsBack) ∈ lw_tbl := gt_5 _ (gp_64 (gp_16 (gp_4 (gp_1 (gp_1 (gp_1 gp_h))))))
set_option maxRecDepth 20000 in
theorem tw_1101 : (Cond.code yX9_rowBack cX9_rowBack 8 ( some .int )) ∈ lw_tbl := gt_5 _ (gp_64 (gp_16 (gp_16 (gp_1 gp_h))))
set_option maxRecDepth 20000 in
theorem tw_1100 : (Cond.instanceMethod yX9_rowBack) ∈ lw_tbl := gt_5 _ (gp_64 (gp_16 (gp_16 gp_h)))
set_option maxRecDepth 20000 in
theorem tw_1098 : (Cond.methodLink RX9 233 yX9_rowBack) ∈ lw_tbl := gt_5 _ (gp_64 (gp_16 (gp_4 (gp_4 (gp_4 (gp_1 (gp_1 gp_h)))))))
set_option maxRecDepth 20000 in
theorem tw_1097 : (Cond.code yX9_goes cX9_goes 2 ( some .boolean )) ∈ lw_tbl := gt_5 _ (gp_64 (gp_16 (gp_4 (gp_4 (gp_4 (gp_1 gp_h))))))
set_option maxRecDepth 20000 in
theorem tw_1096 : (Cond.static yX9_goes) ∈ lw_tbl := gt_5 _ (gp_64 (gp_16 (gp_4 (gp_4 (gp_4 gp_h)))))
set_option maxRecDepth 20000 in
theorem tw_1095 : (Cond.methodLink RX9 230 yX9_goes) ∈ lw_tbl := gt_5 _ (gp_64 (gp_16 (gp_4 (gp_4 (gp_1 (gp_1 (gp_1 gp_h)))))))
set_option maxRecDepth 20000 in
theorem tw_1090 : (Cond.code yX9_restore cX9_restore 8 ( some .int )) ∈ lw_tbl := gt_5 _ (gp_64 (gp_16 (gp_4 (gp_1 (gp_1 gp_h)))))
set_option maxRecDepth 20000 in
theorem gr_X9_restore_r1 : GoodIn lw_tbl wsX9_restore_r1 := gp_s (gp_c (tw_779) (gp_c (tw_808) (gp_c (tw_792) (gp_c (tw_823) (gp_c (tw_809) (gp_c (tw_793) (gp_c (tw_782) (gp_c (tw_794) (gp_c (tw_785) (gp_c (tw_807) (gp_c (tw_1063) (gp_c (tw_1065) (gp_c (gq_34) (gp_c (tw_51) (gp_c (tw_1066) (gp_c (tw_1091) (gp_c (tw_1093) (gp_c (gq_39) (gp_c (tw_1094) (gp_c (tw_810) (gp_c (tw_811) (gp_c (tw_784) (gp_c (tw_812) (gp_c (tw_813) (gp_n))))))))))))))))))))))))) (by decide +kernel)
set_option maxRecDepth 20000 in
theorem gr_X9_restore_r2 : GoodIn lw_tbl wsX9_restore_r2 := gp_s (gp_c (tw_780) (gp_c (tw_953) (gp_c (tw_949) (gp_c (tw_951) (gp_c (gq_24) (gp_c (tw_952) (gp_c (tw_783) (gp_c (tw_1075) (gp_c (tw_1077) (gp_c (gq_37) (gp_c (tw_1078) (gp_c (tw_820) (gp_c (tw_821) (gp_c (tw_822) (gp_c (tw_1095) (gp_c (tw_1096) (gp_c (tw_1097) (gp_c (tw_1098) (gp_c (tw_1100) (gp_c (gq_40) (gp_c (tw_1101) (gp_c (tw_816) (gp_c (tw_797) (gp_c (tw_817) (gp_n))))))))))))))))))))))))) (by decide +kernel)
set_option maxRecDepth 20000 in
theorem gr_X9_restore_r3 : GoodIn lw_tbl wsX9_restore_r3 := gp_s (gp_c (tw_1011) (gp_c (tw_1013) (gp_c (gq_30) (gp_c (tw_1014) (gp_c (tw_798) (gp_c (tw_801) (gp_c (tw_804) (gp_c (tw_795) (gp_c (tw_796) (gp_c (tw_990) (gp_c (tw_992) (gp_c (gq_27) (gp_c (tw_993) (gp_c (tw_1046) (gp_c (tw_1048) (gp_c (gq_31) (gp_c (tw_1049) (gp_c (tw_787) (gp_c (tw_1050) (gp_c (tw_1052) (gp_c (gq_32) (gp_c (tw_1053) (gp_c (tw_788) (gp_c (tw_789) (gp_n))))))))))))))))))))))))) (by decide +kernel)
set_option maxRecDepth 20000 in
theorem gr_X9_restore_r4 : GoodIn lw_tbl wsX9_restore_r4 := gp_s (gp_c (tw_790) (gp_c (tw_791) (gp_c (tw_1058) (gp_c (tw_1054) (gp_c (tw_1056) (gp_c (gq_33) (gp_c (tw_1057) (gp_n)))))))) (by decide +kernel)
set_option maxRecDepth 20000 in
theorem ggT_X9_restore : GoodIn lw_tbl wsX9_restore := goodIn_cons (gp_s (gp_c (tw_1090) (gp_n)) (by decide +kernel)) (goodIn_app (goodIn_app gr_X9_restore_r1 (goodIn_app gr_X9_restore_r2 (goodIn_app gr_X9_restore_r3 gr_X9_restore_r4))) gwX90)
set_option maxRecDepth 20000 in
theorem gT_X9_restore : GoodIn lw_tbl (wsV RL 127 RX9 yX9_restore wsX9_restore) := goodIn_app (gp_s (gp_c (gt_5 _ (gp_64 (gp_16 (gp_1 (gp_1 (gp_1 gp_h)))))) (gp_c (gt_5 _ (gp_64 (gp_16 (gp_4 gp_h)))) (gp_c (gt_5 _ (gp_64 (gp_16 (gp_4 (gp_1 gp_h))))) (gp_c (tw_51) (gp_n))))) (by decide +kernel)) ggT_X9_restore
set_option maxRecDepth 20000 in
theorem tw_179 : (Cond.fieldLink RX8 258 "StateRecords$Fault" "check" "I") ∈ lw_tbl := gt_1 _ (gp_64 (gp_64 (gp_4 (gp_1 (gp_1 (gp_1 gp_h))))))
set_option maxRecDepth 20000 in
theorem tw_177 : (Cond.fieldLink RX8 255 "StateRecords$Fault" "name" "I") ∈ lw_tbl := gt_1 _ (gp_64 (gp_64 (gp_4 (gp_1 gp_h))))
set_option maxRecDepth 20000 in
theorem tw_175 : (Cond.fieldLink RX8 252 "StateRecords$Fault" "record" "I") ∈ lw_tbl := gt_1 _ (gp_64 (gp_64 (gp_1 (gp_1 (gp_1 gp_h)))))
set_option maxRecDepth 20000 in
theorem tw_173 : (Cond.fieldLink RX8 248 "StateRecords$Fault" "isTold" "Z") ∈ lw_tbl := gt_1 _ (gp_64 (gp_64 (gp_1 gp_h)))
set_option maxRecDepth 20000 in
theorem tw_601 : (Cond.code yX8_fault cX8_fault 2 ( some .int )) ∈ lw_tbl := gt_3 _ (gp_64 (gp_4 (gp_4 (gp_4 (gp_1 gp_h)))))
set_option maxRecDepth 20000 in
theorem ggT_X8_fault : GoodIn lw_tbl wsX8_fault := goodIn_cons (gp_s (gp_c (tw_601) (gp_n)) (by decide +kernel)) (goodIn_app (goodIn_app (gp_s (gp_c (tw_227) (gp_c (tw_173) (gp_c (tw_175) (gp_c (tw_177) (gp_c (tw_179) (gp_n)))))) (by decide +kernel)) gwX80) gwX10)
set_option maxRecDepth 20000 in
theorem gT_X8_fault : GoodIn lw_tbl (wsV RL 128 RX8 yX8_fault wsX8_fault) := goodIn_app (gp_s (gp_c (gt_3 _ (gp_64 (gp_4 (gp_4 (gp_1 (gp_1 gp_h)))))) (gp_c (gt_3 _ (gp_64 (gp_4 (gp_4 (gp_1 (gp_1 (gp_1 gp_h))))))) (gp_c (gt_3 _ (gp_64 (gp_4 (gp_4 (gp_4 gp_h))))) (gp_c (tw_45) (gp_n))))) (by decide +kernel)) ggT_X8_fault
set_option maxRecDepth 20000 in
theorem tw_1105 : (Cond.code yX9_fault cX9_fault 2 ( some .int )) ∈ lw_tbl := gt_5 _ (gp_64 (gp_16 (gp_16 (gp_4 (gp_1 gp_h)))))
set_option maxRecDepth 20000 in
theorem ggT_X9_fault : GoodIn lw_tbl wsX9_fault := goodIn_cons (gp_s (gp_c (tw_1105) (gp_n)) (by decide +kernel)) (goodIn_app (gp_s (gp_c (tw_779) (gp_c (tw_820) (gp_c (tw_821) (gp_c (tw_822) (gp_n))))) (by decide +kernel)) gwX90)
set_option maxRecDepth 20000 in
theorem gT_X9_fault : GoodIn lw_tbl (wsV RL 131 RX9 yX9_fault wsX9_fault) := goodIn_app (gp_s (gp_c (gt_5 _ (gp_64 (gp_16 (gp_16 (gp_1 (gp_1 gp_h)))))) (gp_c (gt_5 _ (gp_64 (gp_16 (gp_16 (gp_1 (gp_1 (gp_1 gp_h))))))) (gp_c (gt_5 _ (gp_64 (gp_16 (gp_16 (gp_4 gp_h))))) (gp_c (tw_51) (gp_n))))) (by decide +kernel)) ggT_X9_fault
set_option maxRecDepth 20000 in
theorem tw_608 : (Cond.code yX8_firstDifference cX8_firstDifference 6 ( some .int )) ∈ lw_tbl := gt_3 _ (gp_64 (gp_16 (gp_4 gp_h)))
set_option maxRecDepth 20000 in
theorem tw_607 : (Cond.static yX8_firstDifference) ∈ lw_tbl := gt_3 _ (gp_64 (gp_16 (gp_1 (gp_1 (gp_1 gp_h)))))
set_option maxRecDepth 20000 in
theorem tw_606 : (Cond.methodLink RX8 261 yX8_firstDifference) ∈ lw_tbl := gt_3 _ (gp_64 (gp_16 (gp_1 (gp_1 gp_h))))
set_option maxRecDepth 20000 in
theorem tw_625 : (Cond.code yX4_hasItemsOf cX4_hasItemsOf 4 ( some .boolean )) ∈ lw_tbl := gt_3 _ (gp_64 (gp_16 (gp_16 (gp_4 (gp_1 gp_h)))))
set_option maxRecDepth 20000 in
theorem tw_624 : (Cond.selects RX4 yX4_hasItemsOf yX4_hasItemsOf) ∈ lw_tbl := gt_3 _ (gp_64 (gp_16 (gp_16 (gp_4 gp_h))))
set_option maxRecDepth 20000 in
theorem tw_623 : (Cond.instanceMethod yX4_hasItemsOf) ∈ lw_tbl := gt_3 _ (gp_64 (gp_16 (gp_16 (gp_1 (gp_1 (gp_1 gp_h))))))
set_option maxRecDepth 20000 in
theorem tw_622 : (Cond.methodLink RX4 56 yX4_hasItemsOf) ∈ lw_tbl := gt_3 _ (gp_64 (gp_16 (gp_16 (gp_1 (gp_1 gp_h)))))
set_option maxRecDepth 20000 in
theorem tw_621 : (Cond.constantLong RX4 54 ( -1 )) ∈ lw_tbl := gt_3 _ (gp_64 (gp_16 (gp_16 (gp_1 gp_h))))
set_option maxRecDepth 20000 in
theorem tw_619 : (Cond.code yX4_hasValueOf cX4_hasValueOf 5 ( some .boolean )) ∈ lw_tbl := gt_3 _ (gp_64 (gp_16 (gp_4 (gp_4 (gp_4 (gp_1 (gp_1 (gp_1 gp_h))))))))
set_option maxRecDepth 20000 in
theorem tw_618 : (Cond.selects RX4 yX4_hasValueOf yX4_hasValueOf) ∈ lw_tbl := gt_3 _ (gp_64 (gp_16 (gp_4 (gp_4 (gp_4 (gp_1 (gp_1 gp_h)))))))
set_option maxRecDepth 20000 in
theorem tw_617 : (Cond.instanceMethod yX4_hasValueOf) ∈ lw_tbl := gt_3 _ (gp_64 (gp_16 (gp_4 (gp_4 (gp_4 (gp_1 gp_h))))))
set_option maxRecDepth 20000 in
theorem tw_616 : (Cond.methodLink RX8 361 yX4_hasValueOf) ∈ lw_tbl := gt_3 _ (gp_64 (gp_16 (gp_4 (gp_4 (gp_4 gp_h)))))
set_option maxRecDepth 20000 in
theorem tw_81 : (Cond.fieldLink RX4 47 "StateRecords$Records" "recordCount" "I") ∈ lw_tbl := gt_1 _ (gp_16 (gp_16 (gp_4 (gp_1 gp_h))))
set_option maxRecDepth 20000 in
theorem tw_615 : (Cond.code yX4_hasShapeOf cX4_hasShapeOf 5 ( some .boolean )) ∈ lw_tbl := gt_3 _ (gp_64 (gp_16 (gp_4 (gp_4 (gp_1 (gp_1 (gp_1 gp_h)))))))
set_option maxRecDepth 20000 in
theorem tw_614 : (Cond.selects RX4 yX4_hasShapeOf yX4_hasShapeOf) ∈ lw_tbl := gt_3 _ (gp_64 (gp_16 (gp_4 (gp_4 (gp_1 (gp_1 gp_h))))))
set_option maxRecDepth 20000 in
theorem tw_613 : (Cond.instanceMethod yX4_hasShapeOf) ∈ lw_tbl := gt_3 _ (gp_64 (gp_16 (gp_4 (gp_4 (gp_1 gp_h)))))
set_option maxRecDepth 20000 in
theorem tw_612 : (Cond.methodLink RX8 357 yX4_hasShapeOf) ∈ lw_tbl := gt_3 _ (gp_64 (gp_16 (gp_4 (gp_4 gp_h))))
set_option maxRecDepth 20000 in
theorem tw_611 : (Cond.code Lib.Math.max.name Lib.Math.max.code 2 ( some .int )) ∈ lw_tbl := gt_3 _ (gp_64 (gp_16 (gp_4 (gp_1 (gp_1 (gp_1 gp_h))))))
set_option maxRecDepth 20000 in
theorem tw_61 : (Cond.initialized "java/lang/Math") ∈ lw_tbl := gt_1 _ (gp_16 (gp_1 gp_h))
set_option maxRecDepth 20000 in
theorem tw_610 : (Cond.static Lib.Math.max.name) ∈ lw_tbl := gt_3 _ (gp_64 (gp_16 (gp_4 (gp_1 (gp_1 gp_h)))))
set_option maxRecDepth 20000 in
theorem tw_609 : (Cond.methodLink RX8 351 Lib.Math.max.name) ∈ lw_tbl := gt_3 _ (gp_64 (gp_16 (gp_4 (gp_1 gp_h))))
set_option maxRecDepth 20000 in
theorem tw_605 : (Cond.code yX8_like cX8_like 5 ( some .int )) ∈ lw_tbl := gt_3 _ (gp_64 (gp_16 (gp_1 gp_h)))
set_option maxRecDepth 20000 in
theorem gr_X8_like_r1 : GoodIn lw_tbl wsX8_like_r1 := gp_s (gp_c (tw_222) (gp_c (tw_223) (gp_c (tw_394) (gp_c (tw_396) (gp_c (gq_2) (gp_c (tw_45) (gp_c (tw_397) (gp_c (tw_219) (gp_c (tw_218) (gp_c (tw_525) (gp_c (tw_527) (gp_c (gq_11) (gp_c (tw_528) (gp_c (tw_82) (gp_c (tw_94) (gp_c (tw_224) (gp_c (tw_529) (gp_c (tw_531) (gp_c (gq_12) (gp_c (tw_532) (gp_c (tw_533) (gp_c (tw_534) (gp_c (tw_535) (gp_c (tw_50) (gp_n))))))))))))))))))))))))) (by decide +kernel)
set_option maxRecDepth 20000 in
theorem gr_X8_like_r2 : GoodIn lw_tbl wsX8_like_r2 := gp_s (gp_c (tw_536) (gp_c (tw_205) (gp_c (tw_195) (gp_c (tw_267) (gp_c (tw_201) (gp_c (tw_445) (gp_c (tw_537) (gp_c (tw_539) (gp_c (gq_13) (gp_c (tw_540) (gp_c (tw_206) (gp_c (tw_84) (gp_c (tw_196) (gp_c (tw_265) (gp_c (tw_86) (gp_c (tw_268) (gp_c (tw_541) (gp_c (tw_543) (gp_c (gq_14) (gp_c (tw_544) (gp_c (tw_88) (gp_c (tw_270) (gp_c (tw_90) (gp_c (tw_272) (gp_n))))))))))))))))))))))))) (by decide +kernel)
set_option maxRecDepth 20000 in
theorem gr_X8_like_r3 : GoodIn lw_tbl wsX8_like_r3 := gp_s (gp_c (tw_92) (gp_c (tw_545) (gp_c (tw_547) (gp_c (gq_15) (gp_c (tw_548) (gp_c (tw_204) (gp_c (tw_312) (gp_c (tw_200) (gp_c (tw_431) (gp_c (tw_432) (gp_c (tw_433) (gp_c (tw_549) (gp_c (tw_550) (gp_c (tw_551) (gp_c (tw_46) (gp_c (tw_552) (gp_c (tw_444) (gp_c (tw_93) (gp_c (tw_95) (gp_c (tw_440) (gp_c (tw_96) (gp_c (tw_606) (gp_c (tw_607) (gp_c (tw_608) (gp_n))))))))))))))))))))))))) (by decide +kernel)
set_option maxRecDepth 20000 in
theorem gr_X8_like_r4 : GoodIn lw_tbl wsX8_like_r4 := gp_s (gp_c (tw_609) (gp_c (tw_610) (gp_c (tw_61) (gp_c (tw_611) (gp_c (tw_612) (gp_c (tw_613) (gp_c (tw_614) (gp_c (tw_615) (gp_c (tw_81) (gp_c (tw_83) (gp_c (tw_85) (gp_c (tw_87) (gp_c (tw_89) (gp_c (tw_616) (gp_c (tw_617) (gp_c (tw_618) (gp_c (tw_619) (gp_c (tw_91) (gp_c (tw_621) (gp_c (tw_622) (gp_c (tw_623) (gp_c (tw_624) (gp_c (tw_625) (gp_n)))))))))))))))))))))))) (by decide +kernel)
set_option maxRecDepth 20000 in
theorem ggT_X8_like : GoodIn lw_tbl wsX8_like := goodIn_cons (gp_s (gp_c (tw_605) (gp_n)) (by decide +kernel)) (goodIn_app (goodIn_app (goodIn_app (goodIn_app (goodIn_app (goodIn_app gr_X8_like_r1 (goodIn_app gr_X8_like_r2 (goodIn_app gr_X8_like_r3 gr_X8_like_r4))) gwX80) gwX40) gwX60) gwX70) gwX50)
set_option maxRecDepth 20000 in
theorem gT_X8_like : GoodIn lw_tbl (wsV RL 132 RX8 yX8_like wsX8_like) := goodIn_app (gp_s (gp_c (gt_3 _ (gp_64 (gp_4 (gp_4 (gp_4 (gp_1 (gp_1 gp_h))))))) (gp_c (gt_3 _ (gp_64 (gp_4 (gp_4 (gp_4 (gp_1 (gp_1 (gp_1 gp_h)))))))) (gp_c (gt_3 _ (gp_64 (gp_16 gp_h))) (gp_c (tw_45) (gp_n))))) (by decide +kernel)) ggT_X8_like
set_option maxRecDepth 20000 in
theorem tw_1113 : (Cond.code yX9_meets cX9_meets 3 ( some .boolean )) ∈ lw_tbl := gt_5 _ (gp_64 (gp_16 (gp_16 (gp_4 (gp_4 (gp_4 (gp_1 gp_h)))))))
set_option maxRecDepth 20000 in
theorem tw_1112 : (Cond.instanceMethod yX9_meets) ∈ lw_tbl := gt_5 _ (gp_64 (gp_16 (gp_16 (gp_4 (gp_4 (gp_4 gp_h))))))
set_option maxRecDepth 20000 in
theorem tw_1110 : (Cond.methodLink RX9 243 yX9_meets) ∈ lw_tbl := gt_5 _ (gp_64 (gp_16 (gp_16 (gp_4 (gp_4 (gp_1 (gp_1 gp_h)))))))
set_option maxRecDepth 20000 in
theorem tw_829 : (Cond.fieldLink RX9 240 "StateRecordsModel" "queued" "I") ∈ lw_tbl := gt_4 _ (gp_64 (gp_1 gp_h))
set_option maxRecDepth 20000 in
theorem tw_1117 : (Cond.code yX9_rowsMeet cX9_rowsMeet 5 ( some .boolean )) ∈ lw_tbl := gt_5 _ (gp_64 (gp_16 (gp_16 (gp_16 (gp_1 gp_h)))))
set_option maxRecDepth 20000 in
theorem tw_1116 : (Cond.instanceMethod yX9_rowsMeet) ∈ lw_tbl := gt_5 _ (gp_64 (gp_16 (gp_16 (gp_16 gp_h))))
set_option maxRecDepth 20000 in
theorem tw_1114 : (Cond.methodLink RX9 246 yX9_rowsMeet) ∈ lw_tbl := gt_5 _ (gp_64 (gp_16 (gp_16 (gp_4 (gp_4 (gp_4 (gp_1 (gp_1 gp_h))))))))
set_option maxRecDepth 20000 in
theorem tw_1109 : (Cond.code yX9_like cX9_like 12 ( some .int )) ∈ lw_tbl := gt_5 _ (gp_64 (gp_16 (gp_16 (gp_4 (gp_4 (gp_1 gp_h))))))
set_option maxRecDepth 20000 in
theorem gr_X9_like_r1 : GoodIn lw_tbl wsX9_like_r1 := gp_s (gp_c (tw_779) (gp_c (tw_824) (gp_c (tw_825) (gp_c (tw_826) (gp_c (tw_827) (gp_c (tw_829) (gp_c (tw_828) (gp_c (tw_793) (gp_c (tw_782) (gp_c (tw_794) (gp_c (tw_986) (gp_c (tw_988) (gp_c (gq_26) (gp_c (tw_51) (gp_c (tw_989) (gp_c (tw_792) (gp_c (tw_1110) (gp_c (tw_1112) (gp_c (gq_41) (gp_c (tw_1113) (gp_c (tw_990) (gp_c (tw_992) (gp_c (gq_27) (gp_c (tw_993) (gp_n))))))))))))))))))))))))) (by decide +kernel)
set_option maxRecDepth 20000 in
theorem gr_X9_like_r2 : GoodIn lw_tbl wsX9_like_r2 := gp_s (gp_c (tw_784) (gp_c (tw_1114) (gp_c (tw_1116) (gp_c (gq_42) (gp_c (tw_1117) (gp_c (tw_796) (gp_c (tw_797) (gp_n)))))))) (by decide +kernel)
set_option maxRecDepth 20000 in
theorem ggT_X9_like : GoodIn lw_tbl wsX9_like := goodIn_cons (gp_s (gp_c (tw_1109) (gp_n)) (by decide +kernel)) (goodIn_app (goodIn_app gr_X9_like_r1 gr_X9_like_r2) gwX90)
set_option maxRecDepth 20000 in
theorem gT_X9_like : GoodIn lw_tbl (wsV RL 135 RX9 yX9_like wsX9_like) := goodIn_app (gp_s (gp_c (gt_5 _ (gp_64 (gp_16 (gp_16 (gp_4 (gp_1 (gp_1 gp_h))))))) (gp_c (gt_5 _ (gp_64 (gp_16 (gp_16 (gp_4 (gp_1 (gp_1 (gp_1 gp_h)))))))) (gp_c (gt_5 _ (gp_64 (gp_16 (gp_16 (gp_4 (gp_4 gp_h)))))) (gp_c (tw_51) (gp_n))))) (by decide +kernel)) ggT_X9_like
set_option maxRecDepth 20000 in
theorem tw_629 : (Cond.code yX8_differs cX8_differs 4 ( some .int )) ∈ lw_tbl := gt_3 _ (gp_64 (gp_16 (gp_16 (gp_4 (gp_4 (gp_1 gp_h))))))
set_option maxRecDepth 20000 in
theorem gr_X8_differs_r1 : GoodIn lw_tbl wsX8_differs_r1 := gp_s (gp_c (tw_221) (gp_c (tw_82) (gp_c (tw_222) (gp_c (tw_394) (gp_c (tw_396) (gp_c (gq_2) (gp_c (tw_45) (gp_c (tw_397) (gp_c (tw_219) (gp_c (tw_218) (gp_c (tw_305) (gp_c (tw_306) (gp_c (tw_307) (gp_c (tw_525) (gp_c (tw_527) (gp_c (gq_11) (gp_c (tw_528) (gp_c (tw_94) (gp_c (tw_224) (gp_c (tw_529) (gp_c (tw_531) (gp_c (gq_12) (gp_c (tw_532) (gp_c (tw_533) (gp_n))))))))))))))))))))))))) (by decide +kernel)
set_option maxRecDepth 20000 in
theorem gr_X8_differs_r2 : GoodIn lw_tbl wsX8_differs_r2 := gp_s (gp_c (tw_534) (gp_c (tw_535) (gp_c (tw_50) (gp_c (tw_536) (gp_c (tw_205) (gp_c (tw_195) (gp_c (tw_267) (gp_c (tw_201) (gp_c (tw_445) (gp_c (tw_537) (gp_c (tw_539) (gp_c (gq_13) (gp_c (tw_540) (gp_c (tw_206) (gp_c (tw_84) (gp_c (tw_196) (gp_c (tw_265) (gp_c (tw_86) (gp_c (tw_268) (gp_c (tw_541) (gp_c (tw_543) (gp_c (gq_14) (gp_c (tw_544) (gp_c (tw_88) (gp_n))))))))))))))))))))))))) (by decide +kernel)
set_option maxRecDepth 20000 in
theorem gr_X8_differs_r3 : GoodIn lw_tbl wsX8_differs_r3 := gp_s (gp_c (tw_270) (gp_c (tw_90) (gp_c (tw_272) (gp_c (tw_92) (gp_c (tw_545) (gp_c (tw_547) (gp_c (gq_15) (gp_c (tw_548) (gp_c (tw_204) (gp_c (tw_312) (gp_c (tw_200) (gp_c (tw_431) (gp_c (tw_432) (gp_c (tw_433) (gp_c (tw_549) (gp_c (tw_550) (gp_c (tw_551) (gp_c (tw_46) (gp_c (tw_552) (gp_c (tw_444) (gp_c (tw_93) (gp_c (tw_95) (gp_c (tw_440) (gp_c (tw_96) (gp_n))))))))))))))))))))))))) (by decide +kernel)
set_option maxRecDepth 20000 in
theorem gr_X8_differs_r4 : GoodIn lw_tbl wsX8_differs_r4 := gp_s (gp_c (tw_606) (gp_c (tw_607) (gp_c (tw_608) (gp_c (tw_609) (gp_c (tw_610) (gp_c (tw_61) (gp_c (tw_611) (gp_c (tw_612) (gp_c (tw_613) (gp_c (tw_614) (gp_c (tw_615) (gp_c (tw_81) (gp_c (tw_83) (gp_c (tw_85) (gp_c (tw_87) (gp_c (tw_89) (gp_c (tw_616) (gp_c (tw_617) (gp_c (tw_618) (gp_c (tw_619) (gp_c (tw_91) (gp_c (tw_621) (gp_c (tw_622) (gp_c (tw_623) (gp_n))))))))))))))))))))))))) (by decide +kernel)
set_option maxRecDepth 20000 in
theorem gr_X8_differs_r5 : GoodIn lw_tbl wsX8_differs_r5 := gp_s (gp_c (tw_624) (gp_c (tw_625) (gp_n))) (by decide +kernel)
set_option maxRecDepth 20000 in
theorem ggT_X8_differs : GoodIn lw_tbl wsX8_differs := goodIn_cons (gp_s (gp_c (tw_629) (gp_n)) (by decide +kernel)) (goodIn_app (goodIn_app (goodIn_app (goodIn_app (goodIn_app (goodIn_app gr_X8_differs_r1 (goodIn_app gr_X8_differs_r2 (goodIn_app gr_X8_differs_r3 (goodIn_app gr_X8_differs_r4 gr_X8_differs_r5)))) gwX80) gwX40) gwX60) gwX70) gwX50)
set_option maxRecDepth 20000 in
theorem gT_X8_differs : GoodIn lw_tbl (wsV RL 136 RX8 yX8_differs wsX8_differs) := goodIn_app (gp_s (gp_c (gt_3 _ (gp_64 (gp_16 (gp_16 (gp_4 (gp_1 (gp_1 gp_h))))))) (gp_c (gt_3 _ (gp_64 (gp_16 (gp_16 (gp_4 (gp_1 (gp_1 (gp_1 gp_h)))))))) (gp_c (gt_3 _ (gp_64 (gp_16 (gp_16 (gp_4 (gp_4 gp_h)))))) (gp_c (tw_45) (gp_n))))) (by decide +kernel)) ggT_X8_differs
set_option maxRecDepth 20000 in
theorem tw_1125 : (Cond.code yX9_rowsDiffer cX9_rowsDiffer 5 ( some .boolean )) ∈ lw_tbl := gt_5 _ (gp_64 (gp_16 (gp_16 (gp_16 (gp_4 (gp_4 (gp_1 gp_h)))))))
set_option maxRecDepth 20000 in
theorem tw_1124 : (Cond.instanceMethod yX9_rowsDiffer) ∈ lw_tbl := gt_5 _ (gp_64 (gp_16 (gp_16 (gp_16 (gp_4 (gp_4 gp_h))))))
set_option maxRecDepth 20000 in
theorem tw_1122 : (Cond.methodLink RX9 249 yX9_rowsDiffer) ∈ lw_tbl := gt_5 _ (gp_64 (gp_16 (gp_16 (gp_16 (gp_4 (gp_1 (gp_1 gp_h)))))))
set_option maxRecDepth 20000 in
theorem tw_1121 : (Cond.code yX9_differs cX9_differs 12 ( some .int )) ∈ lw_tbl := gt_5 _ (gp_64 (gp_16 (gp_16 (gp_16 (gp_4 (gp_1 gp_h))))))
set_option maxRecDepth 20000 in
theorem gr_X9_differs_r1 : GoodIn lw_tbl wsX9_differs_r1 := gp_s (gp_c (tw_779) (gp_c (tw_808) (gp_c (tw_809) (gp_c (tw_810) (gp_c (tw_811) (gp_c (tw_812) (gp_c (tw_813) (gp_c (tw_1063) (gp_c (tw_1065) (gp_c (gq_34) (gp_c (tw_51) (gp_c (tw_1066) (gp_c (tw_986) (gp_c (tw_988) (gp_c (gq_26) (gp_c (tw_989) (gp_c (tw_792) (gp_c (tw_1067) (gp_c (tw_1069) (gp_c (gq_35) (gp_c (tw_1070) (gp_c (tw_814) (gp_c (tw_818) (gp_c (tw_793) (gp_n))))))))))))))))))))))))) (by decide +kernel)
set_option maxRecDepth 20000 in
theorem gr_X9_differs_r2 : GoodIn lw_tbl wsX9_differs_r2 := gp_s (gp_c (tw_782) (gp_c (tw_786) (gp_c (tw_783) (gp_c (tw_794) (gp_c (tw_784) (gp_c (tw_1071) (gp_c (tw_1073) (gp_c (gq_36) (gp_c (tw_1074) (gp_c (tw_1075) (gp_c (tw_1077) (gp_c (gq_37) (gp_c (tw_1078) (gp_c (tw_820) (gp_c (tw_821) (gp_c (tw_822) (gp_c (tw_1079) (gp_c (tw_1081) (gp_c (gq_38) (gp_c (tw_1082) (gp_c (tw_819) (gp_c (tw_815) (gp_c (tw_795) (gp_c (tw_816) (gp_n))))))))))))))))))))))))) (by decide +kernel)
set_option maxRecDepth 20000 in
theorem gr_X9_differs_r3 : GoodIn lw_tbl wsX9_differs_r3 := gp_s (gp_c (tw_796) (gp_c (tw_817) (gp_c (tw_797) (gp_c (tw_1122) (gp_c (tw_1124) (gp_c (gq_43) (gp_c (tw_1125) (gp_n)))))))) (by decide +kernel)
set_option maxRecDepth 20000 in
theorem ggT_X9_differs : GoodIn lw_tbl wsX9_differs := goodIn_cons (gp_s (gp_c (tw_1121) (gp_n)) (by decide +kernel)) (goodIn_app (goodIn_app gr_X9_differs_r1 (goodIn_app gr_X9_differs_r2 gr_X9_differs_r3)) gwX90)
set_option maxRecDepth 20000 in
theorem gT_X9_differs : GoodIn lw_tbl (wsV RL 139 RX9 yX9_differs wsX9_differs) := goodIn_app (gp_s (gp_c (gt_5 _ (gp_64 (gp_16 (gp_16 (gp_16 (gp_1 (gp_1 gp_h))))))) (gp_c (gt_5 _ (gp_64 (gp_16 (gp_16 (gp_16 (gp_1 (gp_1 (gp_1 gp_h)))))))) (gp_c (gt_5 _ (gp_64 (gp_16 (gp_16 (gp_16 (gp_4 gp_h)))))) (gp_c (tw_51) (gp_n))))) (by decide +kernel)) ggT_X9_differs
set_option maxRecDepth 20000 in
theorem tw_637 : (Cond.code yX2_addMark cX2_addMark 1 none) ∈ lw_tbl := gt_3 _ (gp_64 (gp_16 (gp_16 (gp_16 (gp_1 gp_h)))))
set_option maxRecDepth 20000 in
theorem tw_636 : (Cond.selects RX2 yX2_addMark yX2_addMark) ∈ lw_tbl := gt_3 _ (gp_64 (gp_16 (gp_16 (gp_16 gp_h))))
set_option maxRecDepth 20000 in
theorem tw_635 : (Cond.instanceMethod yX2_addMark) ∈ lw_tbl := gt_3 _ (gp_64 (gp_16 (gp_16 (gp_4 (gp_4 (gp_4 (gp_1 (gp_1 (gp_1 gp_h)))))))))
set_option maxRecDepth 20000 in
theorem tw_634 : (Cond.methodLink RX8 265 yX2_addMark) ∈ lw_tbl := gt_3 _ (gp_64 (gp_16 (gp_16 (gp_4 (gp_4 (gp_4 (gp_1 (gp_1 gp_h))))))))
set_option maxRecDepth 20000 in
theorem tw_633 : (Cond.code yX8_mark cX8_mark 1 ( some .int )) ∈ lw_tbl := gt_3 _ (gp_64 (gp_16 (gp_16 (gp_4 (gp_4 (gp_4 (gp_1 gp_h)))))))
set_option maxRecDepth 20000 in
theorem ggT_X8_mark : GoodIn lw_tbl wsX8_mark := goodIn_cons (gp_s (gp_c (tw_633) (gp_n)) (by decide +kernel)) (goodIn_app (goodIn_app (gp_s (gp_c (tw_226) (gp_c (tw_155) (gp_c (tw_634) (gp_c (tw_635) (gp_c (tw_636) (gp_c (tw_47) (gp_c (tw_637) (gp_c (tw_154) (gp_c (tw_156) (gp_c (tw_152) (gp_n))))))))))) (by decide +kernel)) gwX80) gwX20)
set_option maxRecDepth 20000 in
theorem gT_X8_mark : GoodIn lw_tbl (wsV RL 140 RX8 yX8_mark wsX8_mark) := goodIn_app (gp_s (gp_c (gt_3 _ (gp_64 (gp_16 (gp_16 (gp_4 (gp_4 (gp_1 (gp_1 gp_h)))))))) (gp_c (gt_3 _ (gp_64 (gp_16 (gp_16 (gp_4 (gp_4 (gp_1 (gp_1 (gp_1 gp_h))))))))) (gp_c (gt_3 _ (gp_64 (gp_16 (gp_16 (gp_4 (gp_4 (gp_4 gp_h))))))) (gp_c (tw_45) (gp_n))))) (by decide +kernel)) ggT_X8_mark
set_option maxRecDepth 20000 in
theorem tw_1129 : (Cond.code yX9_mark cX9_mark 1 ( some .int )) ∈ lw_tbl := gt_5 _ (gp_64 (gp_16 (gp_16 (gp_16 (gp_4 (gp_4 (gp_4 (gp_1 gp_h))))))))
set_option maxRecDepth 20000 in
theorem ggT_X9_mark : GoodIn lw_tbl wsX9_mark := goodIn_cons (gp_s (gp_c (tw_1129) (gp_n)) (by decide +kernel)) (goodIn_app (gp_s (gp_c (tw_779) (gp_c (tw_799) (gp_c (tw_800) (gp_c (tw_801) (gp_n))))) (by decide +kernel)) gwX90)
set_option maxRecDepth 20000 in
theorem gT_X9_mark : GoodIn lw_tbl (wsV RL 143 RX9 yX9_mark wsX9_mark) := goodIn_app (gp_s (gp_c (gt_5 _ (gp_64 (gp_16 (gp_16 (gp_16 (gp_4 (gp_4 (gp_1 (gp_1 gp_h))))))))) (gp_c (gt_5 _ (gp_64 (gp_16 (gp_16 (gp_16 (gp_4 (gp_4 (gp_1 (gp_1 (gp_1 gp_h)))))))))) (gp_c (gt_5 _ (gp_64 (gp_16 (gp_16 (gp_16 (gp_4 (gp_4 (gp_4 gp_h)))))))) (gp_c (tw_51) (gp_n))))) (by decide +kernel)) ggT_X9_mark
set_option maxRecDepth 20000 in
theorem tw_441 : (Cond.fieldLink RX3 35 "StateRecords$Row" "items" "[J") ∈ lw_tbl := gt_2 _ (gp_64 (gp_64 (gp_16 (gp_4 (gp_4 (gp_4 (gp_1 gp_h)))))))
set_option maxRecDepth 20000 in
theorem tw_140 : (Cond.fieldLink RX3 31 "StateRecords$Note" "row" "LStateRecords$Row;") ∈ lw_tbl := gt_1 _ (gp_64 (gp_16 (gp_16 gp_h)))
set_option maxRecDepth 20000 in
theorem tw_202 : (Cond.fieldLink RX3 27 "StateRecords$Thing" "rows" "[LStateRecords$Row;") ∈ lw_tbl := gt_1 _ (gp_64 (gp_64 (gp_16 (gp_4 (gp_4 (gp_4 (gp_1 (gp_1 gp_h))))))))
set_option maxRecDepth 20000 in
theorem tw_138 : (Cond.fieldLink RX3 23 "StateRecords$Note" "value" "J") ∈ lw_tbl := gt_1 _ (gp_64 (gp_16 (gp_4 (gp_4 (gp_4 (gp_1 (gp_1 gp_h)))))))
set_option maxRecDepth 20000 in
theorem tw_136 : (Cond.fieldLink RX3 19 "StateRecords$Note" "index" "I") ∈ lw_tbl := gt_1 _ (gp_64 (gp_16 (gp_4 (gp_4 (gp_4 gp_h)))))
set_option maxRecDepth 20000 in
theorem tw_198 : (Cond.fieldLink RX3 13 "StateRecords$Thing" "values" "[J") ∈ lw_tbl := gt_1 _ (gp_64 (gp_64 (gp_16 (gp_4 (gp_4 (gp_1 (gp_1 gp_h)))))))
set_option maxRecDepth 20000 in
theorem tw_134 : (Cond.fieldLink RX3 7 "StateRecords$Note" "thing" "LStateRecords$Thing;") ∈ lw_tbl := gt_1 _ (gp_64 (gp_16 (gp_4 (gp_4 (gp_1 (gp_1 gp_h))))))
set_option maxRecDepth 20000 in
theorem tw_649 : (Cond.code yX3_takeBack cX3_takeBack 1 none) ∈ lw_tbl := gt_3 _ (gp_64 (gp_16 (gp_16 (gp_16 (gp_4 (gp_4 (gp_4 (gp_1 gp_h))))))))
set_option maxRecDepth 20000 in
theorem tw_648 : (Cond.selects RX3 yX3_takeBack yX3_takeBack) ∈ lw_tbl := gt_3 _ (gp_64 (gp_16 (gp_16 (gp_16 (gp_4 (gp_4 (gp_4 gp_h)))))))
set_option maxRecDepth 20000 in
theorem tw_647 : (Cond.instanceMethod yX3_takeBack) ∈ lw_tbl := gt_3 _ (gp_64 (gp_16 (gp_16 (gp_16 (gp_4 (gp_4 (gp_1 (gp_1 (gp_1 gp_h)))))))))
set_option maxRecDepth 20000 in
theorem tw_646 : (Cond.methodLink RX2 67 yX3_takeBack) ∈ lw_tbl := gt_3 _ (gp_64 (gp_16 (gp_16 (gp_16 (gp_4 (gp_4 (gp_1 (gp_1 gp_h))))))))
set_option maxRecDepth 20000 in
theorem tw_645 : (Cond.code yX2_undoLatestMark cX2_undoLatestMark 4 ( some .int )) ∈ lw_tbl := gt_3 _ (gp_64 (gp_16 (gp_16 (gp_16 (gp_4 (gp_4 (gp_1 gp_h)))))))
set_option maxRecDepth 20000 in
theorem tw_644 : (Cond.selects RX2 yX2_undoLatestMark yX2_undoLatestMark) ∈ lw_tbl := gt_3 _ (gp_64 (gp_16 (gp_16 (gp_16 (gp_4 (gp_4 gp_h))))))
set_option maxRecDepth 20000 in
theorem tw_643 : (Cond.instanceMethod yX2_undoLatestMark) ∈ lw_tbl := gt_3 _ (gp_64 (gp_16 (gp_16 (gp_16 (gp_4 (gp_1 (gp_1 (gp_1 gp_h))))))))
set_option maxRecDepth 20000 in
theorem tw_642 : (Cond.methodLink RX8 268 yX2_undoLatestMark) ∈ lw_tbl := gt_3 _ (gp_64 (gp_16 (gp_16 (gp_16 (gp_4 (gp_1 (gp_1 gp_h)))))))
set_option maxRecDepth 20000 in
theorem tw_641 : (Cond.code yX8_undo cX8_undo 1 ( some .int )) ∈ lw_tbl := gt_3 _ (gp_64 (gp_16 (gp_16 (gp_16 (gp_4 (gp_1 gp_h))))))
set_option maxRecDepth 20000 in
theorem ggT_X8_undo : GoodIn lw_tbl wsX8_undo := goodIn_cons (gp_s (gp_c (tw_641) (gp_n)) (by decide +kernel)) (goodIn_app (goodIn_app (goodIn_app (goodIn_app (goodIn_app (gp_s (gp_c (tw_226) (gp_c (tw_155) (gp_c (tw_642) (gp_c (tw_643) (gp_c (tw_644) (gp_c (tw_47) (gp_c (tw_645) (gp_c (tw_156) (gp_c (tw_154) (gp_c (tw_152) (gp_c (tw_151) (gp_c (tw_646) (gp_c (tw_647) (gp_c (tw_648) (gp_c (tw_48) (gp_c (tw_649) (gp_c (tw_134) (gp_c (tw_198) (gp_c (tw_136) (gp_c (tw_138) (gp_c (tw_202) (gp_c (tw_140) (gp_c (tw_441) (gp_n)))))))))))))))))))))))) (by decide +kernel)) gwX80) gwX20) gwX30) gwX60) gwX50)
set_option maxRecDepth 20000 in
theorem gT_X8_undo : GoodIn lw_tbl (wsV RL 144 RX8 yX8_undo wsX8_undo) := goodIn_app (gp_s (gp_c (gt_3 _ (gp_64 (gp_16 (gp_16 (gp_16 (gp_1 (gp_1 gp_h))))))) (gp_c (gt_3 _ (gp_64 (gp_16 (gp_16 (gp_16 (gp_1 (gp_1 (gp_1 gp_h)))))))) (gp_c (gt_3 _ (gp_64 (gp_16 (gp_16 (gp_16 (gp_4 gp_h)))))) (gp_c (tw_45) (gp_n))))) (by decide +kernel)) ggT_X8_undo
set_option maxRecDepth 20000 in
theorem tw_1133 : (Cond.code yX9_undo cX9_undo 2 ( some .int )) ∈ lw_tbl := gt_5 _ (gp_64 (gp_64 (gp_1 gp_h)))
set_option maxRecDepth 20000 in
theorem ggT_X9_undo : GoodIn lw_tbl wsX9_undo := goodIn_cons (gp_s (gp_c (tw_1133) (gp_n)) (by decide +kernel)) (goodIn_app (gp_s (gp_c (tw_779) (gp_c (tw_799) (gp_c (tw_801) (gp_c (tw_800) (gp_c (tw_805) (gp_c (tw_794) (gp_c (tw_802) (gp_c (tw_803) (gp_c (tw_806) (gp_c (tw_797) (gp_c (tw_804) (gp_n)))))))))))) (by decide +kernel)) gwX90)
set_option maxRecDepth 20000 in
theorem gT_X9_undo : GoodIn lw_tbl (wsV RL 147 RX9 yX9_undo wsX9_undo) := goodIn_app (gp_s (gp_c (gt_5 _ (gp_64 (gp_16 (gp_16 (gp_16 (gp_4 (gp_4 (gp_4 (gp_1 (gp_1 gp_h)))))))))) (gp_c (gt_5 _ (gp_64 (gp_16 (gp_16 (gp_16 (gp_4 (gp_4 (gp_4 (gp_1 (gp_1 (gp_1 gp_h))))))))))) (gp_c (gt_5 _ (gp_64 (gp_64 gp_h))) (gp_c (tw_51) (gp_n))))) (by decide +kernel)) ggT_X9_undo
set_option maxRecDepth 20000 in
theorem tw_153 : (Cond.fieldLink RX8 272 "StateRecords$Journal" "noteCount" "I") ∈ lw_tbl := gt_1 _ (gp_64 (gp_16 (gp_16 (gp_4 (gp_4 (gp_4 (gp_1 gp_h)))))))
set_option maxRecDepth 20000 in
theorem tw_653 : (Cond.code yX8_count cX8_count 2 ( some .int )) ∈ lw_tbl := gt_3 _ (gp_64 (gp_64 (gp_1 gp_h)))
set_option maxRecDepth 20000 in
theorem ggT_X8_count : GoodIn lw_tbl wsX8_count := goodIn_cons (gp_s (gp_c (tw_653) (gp_n)) (by decide +kernel)) (goodIn_app (goodIn_app (gp_s (gp_c (tw_217) (gp_c (tw_219) (gp_c (tw_226) (gp_c (tw_155) (gp_c (tw_153) (gp_n)))))) (by decide +kernel)) gwX80) gwX20)
set_option maxRecDepth 20000 in
theorem gT_X8_count : GoodIn lw_tbl (wsV RL 148 RX8 yX8_count wsX8_count) := goodIn_app (gp_s (gp_c (gt_3 _ (gp_64 (gp_16 (gp_16 (gp_16 (gp_4 (gp_4 (gp_4 (gp_1 (gp_1 gp_h)))))))))) (gp_c (gt_3 _ (gp_64 (gp_16 (gp_16 (gp_16 (gp_4 (gp_4 (gp_4 (gp_1 (gp_1 (gp_1 gp_h))))))))))) (gp_c (gt_3 _ (gp_64 (gp_64 gp_h))) (gp_c (tw_45) (gp_n))))) (by decide +kernel)) ggT_X8_count
set_option maxRecDepth 20000 in
theorem tw_1137 : (Cond.code yX9_count cX9_count 2 ( some .int )) ∈ lw_tbl := gt_5 _ (gp_64 (gp_64 (gp_4 (gp_1 gp_h))))
set_option maxRecDepth 20000 in
theorem ggT_X9_count : GoodIn lw_tbl wsX9_count := goodIn_cons (gp_s (gp_c (tw_1137) (gp_n)) (by decide +kernel)) (goodIn_app (gp_s (gp_c (tw_779) (gp_c (tw_781) (gp_c (tw_792) (gp_c (tw_799) (gp_c (tw_801) (gp_n)))))) (by decide +kernel)) gwX90)
set_option maxRecDepth 20000 in
theorem gT_X9_count : GoodIn lw_tbl (wsV RL 151 RX9 yX9_count wsX9_count) := goodIn_app (gp_s (gp_c (gt_5 _ (gp_64 (gp_64 (gp_1 (gp_1 gp_h))))) (gp_c (gt_5 _ (gp_64 (gp_64 (gp_1 (gp_1 (gp_1 gp_h)))))) (gp_c (gt_5 _ (gp_64 (gp_64 (gp_4 gp_h)))) (gp_c (tw_51) (gp_n))))) (by decide +kernel)) ggT_X9_count
