set_option maxRecDepth 20000 in
theorem tw_167 : (Cond.instantiable RX1 4) ∈ lw_tbl := gt_1 _ (gp_64 (gp_16 (gp_16 (gp_16 (gp_4 (gp_4 (gp_1 (gp_1 (gp_1 gp_h)))))))))
set_option maxRecDepth 20000 in
theorem tw_166 : (Cond.classLink RX8 55 RX1) ∈ lw_tbl := gt_1 _ (gp_64 (gp_16 (gp_16 (gp_16 (gp_4 (gp_4 (gp_1 (gp_1 gp_h))))))))
set_option maxRecDepth 20000 in
theorem tw_226 : (Cond.fieldLink RX8 51 "StateRecords" "journal" "LStateRecords$Journal;") ∈ lw_tbl := gt_1 _ (gp_64 (gp_64 (gp_16 (gp_16 (gp_16 (gp_4 (gp_1 (gp_1 gp_h))))))))
set_option maxRecDepth 20000 in
theorem tw_47 : (Cond.initialized RX2) ∈ lw_tbl := gt_1 _ (gp_1 (gp_1 (gp_1 gp_h)))
set_option maxRecDepth 20000 in
theorem tw_122 : (Cond.instantiable RX2 4) ∈ lw_tbl := gt_1 _ (gp_64 (gp_4 (gp_4 (gp_4 (gp_1 (gp_1 gp_h))))))
set_option maxRecDepth 20000 in
theorem tw_121 : (Cond.classLink RX8 48 RX2) ∈ lw_tbl := gt_1 _ (gp_64 (gp_4 (gp_4 (gp_4 (gp_1 gp_h)))))
set_option maxRecDepth 20000 in
theorem tw_225 : (Cond.fieldLink RX8 44 "StateRecords" "rowsPutBack" "[LStateRecords$Row;") ∈ lw_tbl := gt_1 _ (gp_64 (gp_64 (gp_16 (gp_16 (gp_16 (gp_4 (gp_1 gp_h)))))))
set_option maxRecDepth 20000 in
theorem tw_119 : (Cond.classLink RX8 42 RX5) ∈ lw_tbl := gt_1 _ (gp_64 (gp_4 (gp_4 (gp_1 (gp_1 (gp_1 gp_h))))))
set_option maxRecDepth 20000 in
theorem tw_224 : (Cond.fieldLink RX8 39 "StateRecords" "recorded" "[LStateRecords$Thing;") ∈ lw_tbl := gt_1 _ (gp_64 (gp_64 (gp_16 (gp_16 (gp_16 (gp_4 gp_h))))))
set_option maxRecDepth 20000 in
theorem tw_223 : (Cond.fieldLink RX8 36 "StateRecords" "secondSpare" "LStateRecords$Records;") ∈ lw_tbl := gt_1 _ (gp_64 (gp_64 (gp_16 (gp_16 (gp_16 (gp_1 (gp_1 (gp_1 gp_h))))))))
set_option maxRecDepth 20000 in
theorem tw_222 : (Cond.fieldLink RX8 32 "StateRecords" "spare" "LStateRecords$Records;") ∈ lw_tbl := gt_1 _ (gp_64 (gp_64 (gp_16 (gp_16 (gp_16 (gp_1 (gp_1 gp_h)))))))
set_option maxRecDepth 20000 in
theorem tw_46 : (Cond.initialized RX4) ∈ lw_tbl := gt_1 _ (gp_1 (gp_1 gp_h))
set_option maxRecDepth 20000 in
theorem tw_76 : (Cond.instantiable RX4 9) ∈ lw_tbl := gt_1 _ (gp_16 (gp_16 gp_h))
set_option maxRecDepth 20000 in
theorem tw_221 : (Cond.fieldLink RX8 27 "StateRecords" "saves" "[LStateRecords$Records;") ∈ lw_tbl := gt_1 _ (gp_64 (gp_64 (gp_16 (gp_16 (gp_16 (gp_1 gp_h))))))
set_option maxRecDepth 20000 in
theorem tw_74 : (Cond.classLink RX8 25 RX4) ∈ lw_tbl := gt_1 _ (gp_16 (gp_4 (gp_4 (gp_4 (gp_1 (gp_1 gp_h))))))
set_option maxRecDepth 20000 in
theorem tw_220 : (Cond.fieldLink RX8 21 "StateRecords" "wordsInUse" "[Z") ∈ lw_tbl := gt_1 _ (gp_64 (gp_64 (gp_16 (gp_16 (gp_16 gp_h)))))
set_option maxRecDepth 20000 in
theorem tw_116 : (Cond.arrayClass .boolean) ∈ lw_tbl := gt_1 _ (gp_64 (gp_4 (gp_4 gp_h)))
set_option maxRecDepth 20000 in
theorem tw_218 : (Cond.fieldLink RX8 17 "StateRecords" "things" "[LStateRecords$Thing;") ∈ lw_tbl := gt_1 _ (gp_64 (gp_64 (gp_16 (gp_16 (gp_4 (gp_4 (gp_4 (gp_1 (gp_1 gp_h)))))))))
set_option maxRecDepth 20000 in
theorem tw_72 : (Cond.classLink RX8 15 RX6) ∈ lw_tbl := gt_1 _ (gp_16 (gp_4 (gp_4 (gp_4 gp_h))))
set_option maxRecDepth 20000 in
theorem tw_216 : (Cond.fieldLink RX8 11 "StateRecords" "types" "[LStateRecords$Type;") ∈ lw_tbl := gt_1 _ (gp_64 (gp_64 (gp_16 (gp_16 (gp_4 (gp_4 (gp_4 gp_h)))))))
set_option maxRecDepth 20000 in
theorem tw_70 : (Cond.classLink RX8 9 RX7) ∈ lw_tbl := gt_1 _ (gp_16 (gp_4 (gp_4 (gp_1 (gp_1 gp_h)))))
set_option maxRecDepth 20000 in
theorem tw_69 : (Cond.code objectInit ⟨ #[ 0xb1 ] ⟩ 1 none) ∈ lw_tbl := gt_1 _ (gp_16 (gp_4 (gp_4 (gp_1 gp_h))))
set_option maxRecDepth 20000 in
theorem tw_68 : (Cond.instanceMethod objectInit) ∈ lw_tbl := gt_1 _ (gp_16 (gp_4 (gp_4 gp_h)))
set_option maxRecDepth 20000 in
theorem tw_67 : (Cond.methodLink RX8 3 objectInit) ∈ lw_tbl := gt_1 _ (gp_16 (gp_4 (gp_1 (gp_1 (gp_1 gp_h)))))
set_option maxRecDepth 20000 in
theorem tw_129 : (Cond.instantiable RX3 4) ∈ lw_tbl := gt_1 _ (gp_64 (gp_16 (gp_4 (gp_1 gp_h))))
set_option maxRecDepth 20000 in
theorem tw_154 : (Cond.fieldLink RX2 17 "StateRecords$Journal" "starts" "[I") ∈ lw_tbl := gt_1 _ (gp_64 (gp_16 (gp_16 (gp_4 (gp_4 (gp_4 (gp_1 (gp_1 gp_h))))))))
set_option maxRecDepth 20000 in
theorem tw_151 : (Cond.fieldLink RX2 11 "StateRecords$Journal" "notes" "[LStateRecords$Note;") ∈ lw_tbl := gt_1 _ (gp_64 (gp_16 (gp_16 (gp_4 (gp_4 (gp_1 (gp_1 (gp_1 gp_h))))))))
set_option maxRecDepth 20000 in
theorem tw_127 : (Cond.classLink RX2 9 RX3) ∈ lw_tbl := gt_1 _ (gp_64 (gp_16 (gp_1 (gp_1 (gp_1 gp_h)))))
set_option maxRecDepth 20000 in
theorem tw_126 : (Cond.methodLink RX2 3 objectInit) ∈ lw_tbl := gt_1 _ (gp_64 (gp_16 (gp_1 (gp_1 gp_h))))
set_option maxRecDepth 20000 in
theorem tw_125 : (Cond.code yX2_init cX2_init 2 none) ∈ lw_tbl := gt_1 _ (gp_64 (gp_16 (gp_1 gp_h)))
set_option maxRecDepth 20000 in
theorem tw_124 : (Cond.instanceMethod yX2_init) ∈ lw_tbl := gt_1 _ (gp_64 (gp_16 gp_h))
set_option maxRecDepth 20000 in
theorem tw_123 : (Cond.methodLink RX8 50 yX2_init) ∈ lw_tbl := gt_1 _ (gp_64 (gp_4 (gp_4 (gp_4 (gp_1 (gp_1 (gp_1 gp_h)))))))
set_option maxRecDepth 20000 in
theorem tw_96 : (Cond.fieldLink RX4 31 "StateRecords$Records" "items" "[J") ∈ lw_tbl := gt_1 _ (gp_16 (gp_16 (gp_16 (gp_4 gp_h))))
set_option maxRecDepth 20000 in
theorem tw_95 : (Cond.fieldLink RX4 28 "StateRecords$Records" "rowLengths" "[I") ∈ lw_tbl := gt_1 _ (gp_16 (gp_16 (gp_16 (gp_1 (gp_1 (gp_1 gp_h))))))
set_option maxRecDepth 20000 in
theorem tw_91 : (Cond.fieldLink RX4 24 "StateRecords$Records" "values" "[J") ∈ lw_tbl := gt_1 _ (gp_16 (gp_16 (gp_4 (gp_4 (gp_4 (gp_1 (gp_1 (gp_1 gp_h))))))))
set_option maxRecDepth 20000 in
theorem tw_118 : (Cond.arrayClass .long) ∈ lw_tbl := gt_1 _ (gp_64 (gp_4 (gp_4 (gp_1 (gp_1 gp_h)))))
set_option maxRecDepth 20000 in
theorem tw_89 : (Cond.fieldLink RX4 21 "StateRecords$Records" "lanes" "[I") ∈ lw_tbl := gt_1 _ (gp_16 (gp_16 (gp_4 (gp_4 (gp_4 (gp_1 gp_h))))))
set_option maxRecDepth 20000 in
theorem tw_87 : (Cond.fieldLink RX4 18 "StateRecords$Records" "names" "[I") ∈ lw_tbl := gt_1 _ (gp_16 (gp_16 (gp_4 (gp_4 (gp_1 (gp_1 (gp_1 gp_h)))))))
set_option maxRecDepth 20000 in
theorem tw_85 : (Cond.fieldLink RX4 15 "StateRecords$Records" "fieldCounts" "[I") ∈ lw_tbl := gt_1 _ (gp_16 (gp_16 (gp_4 (gp_4 (gp_1 gp_h)))))
set_option maxRecDepth 20000 in
theorem tw_83 : (Cond.fieldLink RX4 9 "StateRecords$Records" "types" "[I") ∈ lw_tbl := gt_1 _ (gp_16 (gp_16 (gp_4 (gp_1 (gp_1 (gp_1 gp_h))))))
set_option maxRecDepth 20000 in
theorem tw_117 : (Cond.arrayClass .int) ∈ lw_tbl := gt_1 _ (gp_64 (gp_4 (gp_4 (gp_1 gp_h))))
set_option maxRecDepth 20000 in
theorem tw_80 : (Cond.methodLink RX4 3 objectInit) ∈ lw_tbl := gt_1 _ (gp_16 (gp_16 (gp_4 gp_h)))
set_option maxRecDepth 20000 in
theorem tw_79 : (Cond.code yX4_init cX4_init 1 none) ∈ lw_tbl := gt_1 _ (gp_16 (gp_16 (gp_1 (gp_1 (gp_1 gp_h)))))
set_option maxRecDepth 20000 in
theorem tw_78 : (Cond.instanceMethod yX4_init) ∈ lw_tbl := gt_1 _ (gp_16 (gp_16 (gp_1 (gp_1 gp_h))))
set_option maxRecDepth 20000 in
theorem tw_50 : (Cond.initialized RX6) ∈ lw_tbl := gt_1 _ (gp_4 (gp_1 (gp_1 gp_h)))
set_option maxRecDepth 20000 in
theorem tw_189 : (Cond.instantiable RX6 4) ∈ lw_tbl := gt_1 _ (gp_64 (gp_64 (gp_16 (gp_1 gp_h))))
set_option maxRecDepth 20000 in
theorem tw_227 : (Cond.fieldLink RX8 58 "StateRecords" "latestFault" "LStateRecords$Fault;") ∈ lw_tbl := gt_1 _ (gp_64 (gp_64 (gp_16 (gp_16 (gp_16 (gp_4 (gp_1 (gp_1 (gp_1 gp_h)))))))))
set_option maxRecDepth 20000 in
theorem tw_49 : (Cond.initialized RX1) ∈ lw_tbl := gt_1 _ (gp_4 (gp_1 gp_h))
set_option maxRecDepth 20000 in
theorem tw_201 : (Cond.fieldLink RX6 17 "StateRecords$Thing" "rows" "[LStateRecords$Row;") ∈ lw_tbl := gt_1 _ (gp_64 (gp_64 (gp_16 (gp_4 (gp_4 (gp_4 (gp_1 gp_h)))))))
set_option maxRecDepth 20000 in
theorem tw_194 : (Cond.classLink RX6 15 RX5) ∈ lw_tbl := gt_1 _ (gp_64 (gp_64 (gp_16 (gp_4 (gp_1 (gp_1 gp_h))))))
set_option maxRecDepth 20000 in
theorem tw_197 : (Cond.fieldLink RX6 9 "StateRecords$Thing" "values" "[J") ∈ lw_tbl := gt_1 _ (gp_64 (gp_64 (gp_16 (gp_4 (gp_4 (gp_1 gp_h))))))
set_option maxRecDepth 20000 in
theorem tw_193 : (Cond.methodLink RX6 3 objectInit) ∈ lw_tbl := gt_1 _ (gp_64 (gp_64 (gp_16 (gp_4 (gp_1 gp_h)))))
set_option maxRecDepth 20000 in
theorem tw_192 : (Cond.code yX6_init cX6_init 1 none) ∈ lw_tbl := gt_1 _ (gp_64 (gp_64 (gp_16 (gp_4 gp_h))))
set_option maxRecDepth 20000 in
theorem tw_191 : (Cond.instanceMethod yX6_init) ∈ lw_tbl := gt_1 _ (gp_64 (gp_64 (gp_16 (gp_1 (gp_1 (gp_1 gp_h))))))
set_option maxRecDepth 20000 in
theorem tw_171 : (Cond.methodLink RX1 1 objectInit) ∈ lw_tbl := gt_1 _ (gp_64 (gp_16 (gp_16 (gp_16 (gp_4 (gp_4 (gp_4 (gp_1 (gp_1 (gp_1 gp_h))))))))))
set_option maxRecDepth 20000 in
theorem tw_170 : (Cond.code yX1_init cX1_init 1 none) ∈ lw_tbl := gt_1 _ (gp_64 (gp_16 (gp_16 (gp_16 (gp_4 (gp_4 (gp_4 (gp_1 (gp_1 gp_h)))))))))
set_option maxRecDepth 20000 in
theorem tw_169 : (Cond.instanceMethod yX1_init) ∈ lw_tbl := gt_1 _ (gp_64 (gp_16 (gp_16 (gp_16 (gp_4 (gp_4 (gp_4 (gp_1 gp_h))))))))
set_option maxRecDepth 20000 in
theorem tw_133 : (Cond.methodLink RX3 1 objectInit) ∈ lw_tbl := gt_1 _ (gp_64 (gp_16 (gp_4 (gp_4 (gp_1 gp_h)))))
set_option maxRecDepth 20000 in
theorem tw_132 : (Cond.code yX3_init cX3_init 1 none) ∈ lw_tbl := gt_1 _ (gp_64 (gp_16 (gp_4 (gp_4 gp_h))))
set_option maxRecDepth 20000 in
theorem tw_131 : (Cond.instanceMethod yX3_init) ∈ lw_tbl := gt_1 _ (gp_64 (gp_16 (gp_4 (gp_1 (gp_1 (gp_1 gp_h))))))
set_option maxRecDepth 20000 in
theorem tw_48 : (Cond.initialized RX3) ∈ lw_tbl := gt_1 _ (gp_4 gp_h)
set_option maxRecDepth 20000 in
theorem tw_66 : (Cond.code yX8_init cX8_init 2 none) ∈ lw_tbl := gt_1 _ (gp_16 (gp_4 (gp_1 (gp_1 gp_h))))
set_option maxRecDepth 20000 in
theorem gr_X8_init_r1 : GoodIn lw_tbl wsX8_init_r1 := gp_s (gp_c (tw_67) (gp_c (tw_68) (gp_c (tw_69) (gp_c (tw_70) (gp_c (tw_216) (gp_c (tw_72) (gp_c (tw_218) (gp_c (tw_116) (gp_c (tw_220) (gp_c (tw_74) (gp_c (tw_221) (gp_c (tw_76) (gp_c (tw_46) (gp_c (tw_222) (gp_c (tw_223) (gp_c (tw_224) (gp_c (tw_119) (gp_c (tw_225) (gp_c (tw_121) (gp_c (tw_122) (gp_c (tw_47) (gp_c (tw_226) (gp_c (tw_166) (gp_c (tw_167) (gp_n))))))))))))))))))))))))) (by decide +kernel)
set_option maxRecDepth 20000 in
theorem gr_X8_init_r2 : GoodIn lw_tbl wsX8_init_r2 := gp_s (gp_c (tw_49) (gp_c (tw_227) (gp_c (tw_189) (gp_c (tw_50) (gp_c (tw_78) (gp_c (tw_79) (gp_c (tw_80) (gp_c (tw_117) (gp_c (tw_83) (gp_c (tw_85) (gp_c (tw_87) (gp_c (tw_89) (gp_c (tw_118) (gp_c (tw_91) (gp_c (tw_95) (gp_c (tw_96) (gp_c (tw_123) (gp_c (tw_124) (gp_c (tw_125) (gp_c (tw_126) (gp_c (tw_127) (gp_c (tw_151) (gp_c (tw_154) (gp_c (tw_129) (gp_n))))))))))))))))))))))))) (by decide +kernel)
set_option maxRecDepth 20000 in
theorem gr_X8_init_r3 : GoodIn lw_tbl wsX8_init_r3 := gp_s (gp_c (tw_48) (gp_c (tw_131) (gp_c (tw_132) (gp_c (tw_133) (gp_c (tw_169) (gp_c (tw_170) (gp_c (tw_171) (gp_c (tw_191) (gp_c (tw_192) (gp_c (tw_193) (gp_c (tw_197) (gp_c (tw_194) (gp_c (tw_201) (gp_n)))))))))))))) (by decide +kernel)
set_option maxRecDepth 20000 in
theorem ggT_X8_init : GoodIn lw_tbl wsX8_init := goodIn_cons (gp_s (gp_c (tw_66) (gp_n)) (by decide +kernel)) (goodIn_app (goodIn_app (goodIn_app (goodIn_app (goodIn_app (goodIn_app (goodIn_app gr_X8_init_r1 (goodIn_app gr_X8_init_r2 gr_X8_init_r3)) gwX80) gwX40) gwX20) gwX10) gwX60) gwX30)
set_option maxRecDepth 20000 in
theorem tw_800 : (Cond.fieldLink RX9 63 "StateRecordsModel" "markAt" "[I") ∈ lw_tbl := gt_4 _ (gp_16 (gp_16 (gp_4 gp_h)))
set_option maxRecDepth 20000 in
theorem tw_798 : (Cond.fieldLink RX9 60 "StateRecordsModel" "rUsed" "[Z") ∈ lw_tbl := gt_4 _ (gp_16 (gp_16 (gp_1 (gp_1 gp_h))))
set_option maxRecDepth 20000 in
theorem tw_797 : (Cond.fieldLink RX9 57 "StateRecordsModel" "rItems" "[J") ∈ lw_tbl := gt_4 _ (gp_16 (gp_16 (gp_1 gp_h)))
set_option maxRecDepth 20000 in
theorem tw_796 : (Cond.fieldLink RX9 54 "StateRecordsModel" "rMany" "[I") ∈ lw_tbl := gt_4 _ (gp_16 (gp_16 gp_h))
set_option maxRecDepth 20000 in
theorem tw_795 : (Cond.fieldLink RX9 51 "StateRecordsModel" "rLane" "[I") ∈ lw_tbl := gt_4 _ (gp_16 (gp_4 (gp_4 (gp_4 (gp_1 (gp_1 (gp_1 gp_h)))))))
set_option maxRecDepth 20000 in
theorem tw_794 : (Cond.fieldLink RX9 48 "StateRecordsModel" "xVal" "[J") ∈ lw_tbl := gt_4 _ (gp_16 (gp_4 (gp_4 (gp_4 (gp_1 (gp_1 gp_h))))))
set_option maxRecDepth 20000 in
theorem tw_793 : (Cond.fieldLink RX9 45 "StateRecordsModel" "xType" "[I") ∈ lw_tbl := gt_4 _ (gp_16 (gp_4 (gp_4 (gp_4 (gp_1 gp_h)))))
set_option maxRecDepth 20000 in
theorem tw_791 : (Cond.fieldLink RX9 42 "StateRecordsModel" "cV" "[J") ∈ lw_tbl := gt_4 _ (gp_16 (gp_4 (gp_4 (gp_1 (gp_1 (gp_1 gp_h))))))
set_option maxRecDepth 20000 in
theorem tw_790 : (Cond.fieldLink RX9 39 "StateRecordsModel" "cB" "[I") ∈ lw_tbl := gt_4 _ (gp_16 (gp_4 (gp_4 (gp_1 (gp_1 gp_h)))))
set_option maxRecDepth 20000 in
theorem tw_789 : (Cond.fieldLink RX9 36 "StateRecordsModel" "cA" "[I") ∈ lw_tbl := gt_4 _ (gp_16 (gp_4 (gp_4 (gp_1 gp_h))))
set_option maxRecDepth 20000 in
theorem tw_788 : (Cond.fieldLink RX9 33 "StateRecordsModel" "cKind" "[I") ∈ lw_tbl := gt_4 _ (gp_16 (gp_4 (gp_4 gp_h)))
set_option maxRecDepth 20000 in
theorem tw_787 : (Cond.fieldLink RX9 30 "StateRecordsModel" "cMany" "[I") ∈ lw_tbl := gt_4 _ (gp_16 (gp_4 (gp_1 (gp_1 (gp_1 gp_h)))))
set_option maxRecDepth 20000 in
theorem tw_786 : (Cond.fieldLink RX9 27 "StateRecordsModel" "fShut" "[Z") ∈ lw_tbl := gt_4 _ (gp_16 (gp_4 (gp_1 (gp_1 gp_h))))
set_option maxRecDepth 20000 in
theorem tw_785 : (Cond.fieldLink RX9 23 "StateRecordsModel" "fFirst" "[J") ∈ lw_tbl := gt_4 _ (gp_16 (gp_4 (gp_1 gp_h)))
set_option maxRecDepth 20000 in
theorem tw_784 : (Cond.fieldLink RX9 20 "StateRecordsModel" "fLane" "[I") ∈ lw_tbl := gt_4 _ (gp_16 (gp_4 gp_h))
set_option maxRecDepth 20000 in
theorem tw_783 : (Cond.fieldLink RX9 17 "StateRecordsModel" "fName" "[I") ∈ lw_tbl := gt_4 _ (gp_16 (gp_1 (gp_1 (gp_1 gp_h))))
set_option maxRecDepth 20000 in
theorem tw_782 : (Cond.fieldLink RX9 13 "StateRecordsModel" "fMany" "[I") ∈ lw_tbl := gt_4 _ (gp_16 (gp_1 (gp_1 gp_h)))
set_option maxRecDepth 20000 in
theorem tw_780 : (Cond.fieldLink RX9 7 "StateRecordsModel" "isOut" "[Z") ∈ lw_tbl := gt_4 _ (gp_16 gp_h)
set_option maxRecDepth 20000 in
theorem tw_778 : (Cond.methodLink RX9 1 objectInit) ∈ lw_tbl := gt_4 _ (gp_4 (gp_4 (gp_4 (gp_1 (gp_1 gp_h)))))
set_option maxRecDepth 20000 in
theorem tw_826 : (Cond.fieldLink RX9 136 "StateRecordsModel" "rowMate" "[I") ∈ lw_tbl := gt_4 _ (gp_16 (gp_16 (gp_16 (gp_4 (gp_4 (gp_4 (gp_1 (gp_1 gp_h))))))))
set_option maxRecDepth 20000 in
theorem tw_825 : (Cond.fieldLink RX9 133 "StateRecordsModel" "mateBack" "[I") ∈ lw_tbl := gt_4 _ (gp_16 (gp_16 (gp_16 (gp_4 (gp_4 (gp_4 (gp_1 gp_h)))))))
set_option maxRecDepth 20000 in
theorem tw_824 : (Cond.fieldLink RX9 130 "StateRecordsModel" "mate" "[I") ∈ lw_tbl := gt_4 _ (gp_16 (gp_16 (gp_16 (gp_4 (gp_4 (gp_4 gp_h))))))
set_option maxRecDepth 20000 in
theorem tw_823 : (Cond.fieldLink RX9 127 "StateRecordsModel" "back" "[I") ∈ lw_tbl := gt_4 _ (gp_16 (gp_16 (gp_16 (gp_4 (gp_4 (gp_1 (gp_1 (gp_1 gp_h))))))))
set_option maxRecDepth 20000 in
theorem tw_822 : (Cond.fieldLink RX9 124 "StateRecordsModel" "faultCheck" "I") ∈ lw_tbl := gt_4 _ (gp_16 (gp_16 (gp_16 (gp_4 (gp_4 (gp_1 (gp_1 gp_h)))))))
set_option maxRecDepth 20000 in
theorem tw_821 : (Cond.fieldLink RX9 121 "StateRecordsModel" "faultName" "I") ∈ lw_tbl := gt_4 _ (gp_16 (gp_16 (gp_16 (gp_4 (gp_4 (gp_1 gp_h))))))
set_option maxRecDepth 20000 in
theorem tw_820 : (Cond.fieldLink RX9 117 "StateRecordsModel" "faultRecord" "I") ∈ lw_tbl := gt_4 _ (gp_16 (gp_16 (gp_16 (gp_4 (gp_4 gp_h)))))
set_option maxRecDepth 20000 in
theorem tw_819 : (Cond.fieldLink RX9 114 "StateRecordsModel" "rowOrder" "[I") ∈ lw_tbl := gt_4 _ (gp_16 (gp_16 (gp_16 (gp_4 (gp_1 (gp_1 (gp_1 gp_h)))))))
set_option maxRecDepth 20000 in
theorem tw_818 : (Cond.fieldLink RX9 111 "StateRecordsModel" "order" "[I") ∈ lw_tbl := gt_4 _ (gp_16 (gp_16 (gp_16 (gp_4 (gp_1 (gp_1 gp_h))))))
set_option maxRecDepth 20000 in
theorem tw_817 : (Cond.fieldLink RX9 108 "StateRecordsModel" "sRowItems" "[J") ∈ lw_tbl := gt_4 _ (gp_16 (gp_16 (gp_16 (gp_4 (gp_1 gp_h)))))
set_option maxRecDepth 20000 in
theorem tw_816 : (Cond.fieldLink RX9 105 "StateRecordsModel" "sRowMany" "[I") ∈ lw_tbl := gt_4 _ (gp_16 (gp_16 (gp_16 (gp_4 gp_h))))
set_option maxRecDepth 20000 in
theorem tw_815 : (Cond.fieldLink RX9 102 "StateRecordsModel" "sRowLane" "[I") ∈ lw_tbl := gt_4 _ (gp_16 (gp_16 (gp_16 (gp_1 (gp_1 (gp_1 gp_h))))))
set_option maxRecDepth 20000 in
theorem tw_814 : (Cond.fieldLink RX9 99 "StateRecordsModel" "sRows" "[I") ∈ lw_tbl := gt_4 _ (gp_16 (gp_16 (gp_16 (gp_1 (gp_1 gp_h)))))
set_option maxRecDepth 20000 in
theorem tw_813 : (Cond.fieldLink RX9 96 "StateRecordsModel" "sVal" "[J") ∈ lw_tbl := gt_4 _ (gp_16 (gp_16 (gp_16 (gp_1 gp_h))))
set_option maxRecDepth 20000 in
theorem tw_812 : (Cond.fieldLink RX9 93 "StateRecordsModel" "sLane" "[I") ∈ lw_tbl := gt_4 _ (gp_16 (gp_16 (gp_16 gp_h)))
set_option maxRecDepth 20000 in
theorem tw_811 : (Cond.fieldLink RX9 90 "StateRecordsModel" "sName" "[I") ∈ lw_tbl := gt_4 _ (gp_16 (gp_16 (gp_4 (gp_4 (gp_4 (gp_1 (gp_1 (gp_1 gp_h))))))))
set_option maxRecDepth 20000 in
theorem tw_810 : (Cond.fieldLink RX9 87 "StateRecordsModel" "sFields" "[I") ∈ lw_tbl := gt_4 _ (gp_16 (gp_16 (gp_4 (gp_4 (gp_4 (gp_1 (gp_1 gp_h)))))))
set_option maxRecDepth 20000 in
theorem tw_809 : (Cond.fieldLink RX9 84 "StateRecordsModel" "sType" "[I") ∈ lw_tbl := gt_4 _ (gp_16 (gp_16 (gp_4 (gp_4 (gp_4 (gp_1 gp_h))))))
set_option maxRecDepth 20000 in
theorem tw_808 : (Cond.fieldLink RX9 81 "StateRecordsModel" "sMany" "[I") ∈ lw_tbl := gt_4 _ (gp_16 (gp_16 (gp_4 (gp_4 (gp_4 gp_h)))))
set_option maxRecDepth 20000 in
theorem tw_806 : (Cond.fieldLink RX9 78 "StateRecordsModel" "noteWas" "[J") ∈ lw_tbl := gt_4 _ (gp_16 (gp_16 (gp_4 (gp_4 (gp_1 (gp_1 gp_h))))))
set_option maxRecDepth 20000 in
theorem tw_805 : (Cond.fieldLink RX9 75 "StateRecordsModel" "noteItem" "[I") ∈ lw_tbl := gt_4 _ (gp_16 (gp_16 (gp_4 (gp_4 (gp_1 gp_h)))))
set_option maxRecDepth 20000 in
theorem tw_804 : (Cond.fieldLink RX9 72 "StateRecordsModel" "noteRow" "[I") ∈ lw_tbl := gt_4 _ (gp_16 (gp_16 (gp_4 (gp_4 gp_h))))
set_option maxRecDepth 20000 in
theorem tw_803 : (Cond.fieldLink RX9 69 "StateRecordsModel" "noteField" "[I") ∈ lw_tbl := gt_4 _ (gp_16 (gp_16 (gp_4 (gp_1 (gp_1 (gp_1 gp_h))))))
set_option maxRecDepth 20000 in
theorem tw_802 : (Cond.fieldLink RX9 66 "StateRecordsModel" "noteThing" "[I") ∈ lw_tbl := gt_4 _ (gp_16 (gp_16 (gp_4 (gp_1 (gp_1 gp_h)))))
set_option maxRecDepth 20000 in
theorem tw_828 : (Cond.fieldLink RX9 142 "StateRecordsModel" "queue" "[I") ∈ lw_tbl := gt_4 _ (gp_64 gp_h)
set_option maxRecDepth 20000 in
theorem tw_827 : (Cond.fieldLink RX9 139 "StateRecordsModel" "rowMateBack" "[I") ∈ lw_tbl := gt_4 _ (gp_16 (gp_16 (gp_16 (gp_4 (gp_4 (gp_4 (gp_1 (gp_1 (gp_1 gp_h)))))))))
set_option maxRecDepth 20000 in
theorem tw_777 : (Cond.code yX9_init cX9_init 1 none) ∈ lw_tbl := gt_4 _ (gp_4 (gp_4 (gp_4 (gp_1 gp_h))))
set_option maxRecDepth 20000 in
theorem gr_X9_init_r1 : GoodIn lw_tbl wsX9_init_r1 := gp_s (gp_c (tw_778) (gp_c (tw_68) (gp_c (tw_69) (gp_c (tw_116) (gp_c (tw_780) (gp_c (tw_117) (gp_c (tw_782) (gp_c (tw_783) (gp_c (tw_784) (gp_c (tw_118) (gp_c (tw_785) (gp_c (tw_786) (gp_c (tw_787) (gp_c (tw_788) (gp_c (tw_789) (gp_c (tw_790) (gp_c (tw_791) (gp_c (tw_793) (gp_c (tw_794) (gp_c (tw_795) (gp_c (tw_796) (gp_c (tw_797) (gp_c (tw_798) (gp_c (tw_800) (gp_n))))))))))))))))))))))))) (by decide +kernel)
set_option maxRecDepth 20000 in
theorem gr_X9_init_r2 : GoodIn lw_tbl wsX9_init_r2 := gp_s (gp_c (tw_802) (gp_c (tw_803) (gp_c (tw_804) (gp_c (tw_805) (gp_c (tw_806) (gp_c (tw_808) (gp_c (tw_809) (gp_c (tw_810) (gp_c (tw_811) (gp_c (tw_812) (gp_c (tw_813) (gp_c (tw_814) (gp_c (tw_815) (gp_c (tw_816) (gp_c (tw_817) (gp_c (tw_818) (gp_c (tw_819) (gp_c (tw_820) (gp_c (tw_821) (gp_c (tw_822) (gp_c (tw_823) (gp_c (tw_824) (gp_c (tw_825) (gp_c (tw_826) (gp_n))))))))))))))))))))))))) (by decide +kernel)
set_option maxRecDepth 20000 in
theorem gr_X9_init_r3 : GoodIn lw_tbl wsX9_init_r3 := gp_s (gp_c (tw_827) (gp_c (tw_828) (gp_n))) (by decide +kernel)
set_option maxRecDepth 20000 in
theorem ggT_X9_init : GoodIn lw_tbl wsX9_init := goodIn_cons (gp_s (gp_c (tw_777) (gp_n)) (by decide +kernel)) (goodIn_app (goodIn_app gr_X9_init_r1 (goodIn_app gr_X9_init_r2 gr_X9_init_r3)) gwX90)
set_option maxRecDepth 20000 in
theorem tw_264 : (Cond.fieldLink RX7 32 "StateRecords$Type" "number" "I") ∈ lw_tbl := gt_1 _ (gp_64 (gp_64 (gp_64 (gp_16 (gp_4 (gp_4 (gp_4 gp_h)))))))
set_option maxRecDepth 20000 in
theorem tw_278 : (Cond.fieldLink RX7 28 "StateRecords$Type" "checks" "[LStateRecords$Check;") ∈ lw_tbl := gt_1 _ (gp_64 (gp_64 (gp_64 (gp_16 (gp_16 (gp_4 (gp_4 (gp_1 (gp_1 gp_h)))))))))
set_option maxRecDepth 20000 in
theorem tw_262 : (Cond.classLink RX7 26 RX0) ∈ lw_tbl := gt_1 _ (gp_64 (gp_64 (gp_64 (gp_16 (gp_4 (gp_4 (gp_1 (gp_1 gp_h))))))))
set_option maxRecDepth 20000 in
theorem tw_275 : (Cond.fieldLink RX7 22 "StateRecords$Type" "shuts" "[Z") ∈ lw_tbl := gt_1 _ (gp_64 (gp_64 (gp_64 (gp_16 (gp_16 (gp_4 (gp_1 (gp_1 (gp_1 gp_h)))))))))
set_option maxRecDepth 20000 in
theorem tw_273 : (Cond.fieldLink RX7 18 "StateRecords$Type" "defaults" "[J") ∈ lw_tbl := gt_1 _ (gp_64 (gp_64 (gp_64 (gp_16 (gp_16 (gp_4 (gp_1 gp_h)))))))
set_option maxRecDepth 20000 in
theorem tw_271 : (Cond.fieldLink RX7 15 "StateRecords$Type" "lanes" "[I") ∈ lw_tbl := gt_1 _ (gp_64 (gp_64 (gp_64 (gp_16 (gp_16 (gp_1 (gp_1 (gp_1 gp_h))))))))
set_option maxRecDepth 20000 in
theorem tw_269 : (Cond.fieldLink RX7 9 "StateRecords$Type" "names" "[I") ∈ lw_tbl := gt_1 _ (gp_64 (gp_64 (gp_64 (gp_16 (gp_16 (gp_1 gp_h))))))
set_option maxRecDepth 20000 in
theorem tw_261 : (Cond.methodLink RX7 3 objectInit) ∈ lw_tbl := gt_1 _ (gp_64 (gp_64 (gp_64 (gp_16 (gp_4 (gp_4 (gp_1 gp_h)))))))
set_option maxRecDepth 20000 in
theorem tw_260 : (Cond.code yX7_init cX7_init 2 none) ∈ lw_tbl := gt_1 _ (gp_64 (gp_64 (gp_64 (gp_16 (gp_4 (gp_4 gp_h))))))
set_option maxRecDepth 20000 in
theorem tw_259 : (Cond.instanceMethod yX7_init) ∈ lw_tbl := gt_1 _ (gp_64 (gp_64 (gp_64 (gp_16 (gp_4 (gp_1 (gp_1 (gp_1 gp_h))))))))
set_option maxRecDepth 20000 in
theorem tw_258 : (Cond.methodLink RX8 67 yX7_init) ∈ lw_tbl := gt_1 _ (gp_64 (gp_64 (gp_64 (gp_16 (gp_4 (gp_1 (gp_1 gp_h)))))))
set_option maxRecDepth 20000 in
theorem tw_52 : (Cond.initialized RX7) ∈ lw_tbl := gt_1 _ (gp_4 (gp_4 gp_h))
set_option maxRecDepth 20000 in
theorem tw_257 : (Cond.instantiable RX7 8) ∈ lw_tbl := gt_1 _ (gp_64 (gp_64 (gp_64 (gp_16 (gp_4 (gp_1 gp_h))))))
set_option maxRecDepth 20000 in
theorem tw_217 : (Cond.fieldLink RX8 63 "StateRecords" "typeCount" "I") ∈ lw_tbl := gt_1 _ (gp_64 (gp_64 (gp_16 (gp_16 (gp_4 (gp_4 (gp_4 (gp_1 gp_h))))))))
set_option maxRecDepth 20000 in
theorem tw_256 : (Cond.code yX8_type cX8_type 1 ( some .int )) ∈ lw_tbl := gt_1 _ (gp_64 (gp_64 (gp_64 (gp_16 (gp_4 gp_h)))))
set_option maxRecDepth 20000 in
theorem ggT_X8_type : GoodIn lw_tbl wsX8_type := goodIn_cons (gp_s (gp_c (tw_256) (gp_n)) (by decide +kernel)) (goodIn_app (goodIn_app (gp_s (gp_c (tw_217) (gp_c (tw_216) (gp_c (tw_70) (gp_c (tw_257) (gp_c (tw_52) (gp_c (tw_258) (gp_c (tw_259) (gp_c (tw_260) (gp_c (tw_261) (gp_c (tw_68) (gp_c (tw_69) (gp_c (tw_117) (gp_c (tw_269) (gp_c (tw_271) (gp_c (tw_118) (gp_c (tw_273) (gp_c (tw_116) (gp_c (tw_275) (gp_c (tw_262) (gp_c (tw_278) (gp_c (tw_264) (gp_n)))))))))))))))))))))) (by decide +kernel)) gwX80) gwX70)
set_option maxRecDepth 20000 in
theorem gT_X8_type : GoodIn lw_tbl (wsV RL 27 RX8 yX8_type wsX8_type) := goodIn_app (gp_s (gp_c (gt_1 _ (gp_64 (gp_64 (gp_64 (gp_16 (gp_1 gp_h)))))) (gp_c (gt_1 _ (gp_64 (gp_64 (gp_64 (gp_16 (gp_1 (gp_1 gp_h))))))) (gp_c (gt_1 _ (gp_64 (gp_64 (gp_64 (gp_16 (gp_1 (gp_1 (gp_1 gp_h)))))))) (gp_c (gt_1 _ (gp_1 gp_h)) (gp_n))))) (by decide +kernel)) ggT_X8_type
set_option maxRecDepth 20000 in
theorem tw_781 : (Cond.fieldLink RX9 148 "StateRecordsModel" "types" "I") ∈ lw_tbl := gt_4 _ (gp_16 (gp_1 gp_h))
set_option maxRecDepth 20000 in
theorem tw_779 : (Cond.fieldLink RX9 145 "StateRecordsModel" "code" "I") ∈ lw_tbl := gt_4 _ (gp_4 (gp_4 (gp_4 (gp_1 (gp_1 (gp_1 gp_h))))))
set_option maxRecDepth 20000 in
theorem tw_940 : (Cond.code yX9_type cX9_type 1 ( some .int )) ∈ lw_tbl := gt_4 _ (gp_64 (gp_64 (gp_16 (gp_16 (gp_16 gp_h)))))
set_option maxRecDepth 20000 in
theorem ggT_X9_type : GoodIn lw_tbl wsX9_type := goodIn_cons (gp_s (gp_c (tw_940) (gp_n)) (by decide +kernel)) (goodIn_app (gp_s (gp_c (tw_779) (gp_c (tw_781) (gp_c (tw_782) (gp_c (tw_787) (gp_n))))) (by decide +kernel)) gwX90)
set_option maxRecDepth 20000 in
theorem gT_X9_type : GoodIn lw_tbl (wsV RL 31 RX9 yX9_type wsX9_type) := goodIn_app (gp_s (gp_c (gt_4 _ (gp_64 (gp_64 (gp_16 (gp_16 (gp_4 (gp_4 (gp_4 (gp_1 gp_h))))))))) (gp_c (gt_4 _ (gp_64 (gp_64 (gp_16 (gp_16 (gp_4 (gp_4 (gp_4 (gp_1 (gp_1 gp_h)))))))))) (gp_c (gt_4 _ (gp_64 (gp_64 (gp_16 (gp_16 (gp_4 (gp_4 (gp_4 (gp_1 (gp_1 (gp_1 gp_h))))))))))) (gp_c (gt_1 _ (gp_4 (gp_1 (gp_1 (gp_1 gp_h))))) (gp_n))))) (by decide +kernel)) ggT_X9_type
set_option maxRecDepth 20000 in
theorem tw_266 : (Cond.fieldLink RX7 36 "StateRecords$Type" "fieldCount" "I") ∈ lw_tbl := gt_1 _ (gp_64 (gp_64 (gp_64 (gp_16 (gp_4 (gp_4 (gp_4 (gp_1 (gp_1 gp_h)))))))))
set_option maxRecDepth 20000 in
theorem tw_311 : (Cond.code yX7_fieldNamed cX7_fieldNamed 3 ( some .int )) ∈ lw_tbl := gt_2 _ (gp_16 (gp_4 (gp_4 (gp_1 (gp_1 (gp_1 gp_h))))))
set_option maxRecDepth 20000 in
theorem tw_310 : (Cond.selects RX7 yX7_fieldNamed yX7_fieldNamed) ∈ lw_tbl := gt_2 _ (gp_16 (gp_4 (gp_4 (gp_1 (gp_1 gp_h)))))
set_option maxRecDepth 20000 in
theorem tw_309 : (Cond.instanceMethod yX7_fieldNamed) ∈ lw_tbl := gt_2 _ (gp_16 (gp_4 (gp_4 (gp_1 gp_h))))
set_option maxRecDepth 20000 in
theorem tw_308 : (Cond.methodLink RX8 78 yX7_fieldNamed) ∈ lw_tbl := gt_2 _ (gp_16 (gp_4 (gp_4 gp_h)))
set_option maxRecDepth 20000 in
theorem tw_307 : (Cond.code yX8_isBelow cX8_isBelow 2 ( some .boolean )) ∈ lw_tbl := gt_2 _ (gp_16 (gp_4 (gp_1 (gp_1 (gp_1 gp_h)))))
set_option maxRecDepth 20000 in
theorem tw_306 : (Cond.static yX8_isBelow) ∈ lw_tbl := gt_2 _ (gp_16 (gp_4 (gp_1 (gp_1 gp_h))))
set_option maxRecDepth 20000 in
theorem tw_305 : (Cond.methodLink RX8 74 yX8_isBelow) ∈ lw_tbl := gt_2 _ (gp_16 (gp_4 (gp_1 gp_h)))
set_option maxRecDepth 20000 in
theorem tw_304 : (Cond.code yX8_typeNumbered cX8_typeNumbered 2 ( some ( .object "StateRecords$Type" ) )) ∈ lw_tbl := gt_2 _ (gp_16 (gp_4 gp_h))
set_option maxRecDepth 20000 in
theorem tw_45 : (Cond.initialized RX8) ∈ lw_tbl := gt_1 _ (gp_1 gp_h)
set_option maxRecDepth 20000 in
theorem tw_303 : (Cond.instanceMethod yX8_typeNumbered) ∈ lw_tbl := gt_2 _ (gp_16 (gp_1 (gp_1 (gp_1 gp_h))))
set_option maxRecDepth 20000 in
theorem tw_301 : (Cond.methodLink RX8 70 yX8_typeNumbered) ∈ lw_tbl := gt_2 _ (gp_16 (gp_1 gp_h))
set_option maxRecDepth 20000 in
theorem tw_196 : (Cond.fieldLink RX8 97 "StateRecords$Thing" "type" "LStateRecords$Type;") ∈ lw_tbl := gt_1 _ (gp_64 (gp_64 (gp_16 (gp_4 (gp_4 gp_h)))))
set_option maxRecDepth 20000 in
theorem tw_219 : (Cond.fieldLink RX8 94 "StateRecords" "thingCount" "I") ∈ lw_tbl := gt_1 _ (gp_64 (gp_64 (gp_16 (gp_16 (gp_4 (gp_4 (gp_4 (gp_1 (gp_1 (gp_1 gp_h))))))))))
set_option maxRecDepth 20000 in
theorem tw_312 : (Cond.constantLong RX8 88 ( -1 )) ∈ lw_tbl := gt_2 _ (gp_16 (gp_4 (gp_4 (gp_4 gp_h))))
set_option maxRecDepth 20000 in
theorem tw_268 : (Cond.fieldLink RX8 85 "StateRecords$Type" "fieldCount" "I") ∈ lw_tbl := gt_1 _ (gp_64 (gp_64 (gp_64 (gp_16 (gp_16 gp_h)))))
set_option maxRecDepth 20000 in
theorem tw_155 : (Cond.fieldLink RX8 82 "StateRecords$Journal" "markCount" "I") ∈ lw_tbl := gt_1 _ (gp_64 (gp_16 (gp_16 (gp_4 (gp_4 (gp_4 (gp_1 (gp_1 (gp_1 gp_h)))))))))
set_option maxRecDepth 20000 in
theorem tw_274 : (Cond.fieldLink RX6 35 "StateRecords$Type" "defaults" "[J") ∈ lw_tbl := gt_1 _ (gp_64 (gp_64 (gp_64 (gp_16 (gp_16 (gp_4 (gp_1 (gp_1 gp_h))))))))
set_option maxRecDepth 20000 in
theorem tw_195 : (Cond.fieldLink RX6 21 "StateRecords$Thing" "type" "LStateRecords$Type;") ∈ lw_tbl := gt_1 _ (gp_64 (gp_64 (gp_16 (gp_4 (gp_1 (gp_1 (gp_1 gp_h)))))))
set_option maxRecDepth 20000 in
theorem tw_320 : (Cond.code yX6_setDefault cX6_setDefault 2 none) ∈ lw_tbl := gt_2 _ (gp_16 (gp_16 (gp_4 gp_h)))
set_option maxRecDepth 20000 in
theorem tw_319 : (Cond.selects RX6 yX6_setDefault yX6_setDefault) ∈ lw_tbl := gt_2 _ (gp_16 (gp_16 (gp_1 (gp_1 (gp_1 gp_h)))))
set_option maxRecDepth 20000 in
theorem tw_318 : (Cond.instanceMethod yX6_setDefault) ∈ lw_tbl := gt_2 _ (gp_16 (gp_16 (gp_1 (gp_1 gp_h))))
set_option maxRecDepth 20000 in
theorem tw_317 : (Cond.methodLink RX8 101 yX6_setDefault) ∈ lw_tbl := gt_2 _ (gp_16 (gp_16 (gp_1 gp_h)))
set_option maxRecDepth 20000 in
theorem tw_316 : (Cond.code yX7_addField cX7_addField 6 ( some .int )) ∈ lw_tbl := gt_2 _ (gp_16 (gp_16 gp_h))
set_option maxRecDepth 20000 in
theorem tw_315 : (Cond.selects RX7 yX7_addField yX7_addField) ∈ lw_tbl := gt_2 _ (gp_16 (gp_4 (gp_4 (gp_4 (gp_1 (gp_1 (gp_1 gp_h)))))))
set_option maxRecDepth 20000 in
theorem tw_314 : (Cond.instanceMethod yX7_addField) ∈ lw_tbl := gt_2 _ (gp_16 (gp_4 (gp_4 (gp_4 (gp_1 (gp_1 gp_h))))))
set_option maxRecDepth 20000 in
theorem tw_313 : (Cond.methodLink RX8 90 yX7_addField) ∈ lw_tbl := gt_2 _ (gp_16 (gp_4 (gp_4 (gp_4 (gp_1 gp_h)))))
set_option maxRecDepth 20000 in
theorem tw_300 : (Cond.code yX8_field cX8_field 9 ( some .int )) ∈ lw_tbl := gt_2 _ (gp_16 gp_h)
set_option maxRecDepth 20000 in
theorem gr_X8_field_r1 : GoodIn lw_tbl wsX8_field_r1 := gp_s (gp_c (tw_226) (gp_c (tw_155) (gp_c (tw_268) (gp_c (tw_312) (gp_c (tw_219) (gp_c (tw_218) (gp_c (tw_196) (gp_c (tw_301) (gp_c (tw_303) (gp_c (gq_0) (gp_c (tw_45) (gp_c (tw_304) (gp_c (tw_217) (gp_c (tw_216) (gp_c (tw_305) (gp_c (tw_306) (gp_c (tw_307) (gp_c (tw_308) (gp_c (tw_309) (gp_c (tw_310) (gp_c (tw_52) (gp_c (tw_311) (gp_c (tw_266) (gp_c (tw_269) (gp_n))))))))))))))))))))))))) (by decide +kernel)
set_option maxRecDepth 20000 in
theorem gr_X8_field_r2 : GoodIn lw_tbl wsX8_field_r2 := gp_s (gp_c (tw_313) (gp_c (tw_314) (gp_c (tw_315) (gp_c (tw_316) (gp_c (tw_271) (gp_c (tw_273) (gp_c (tw_275) (gp_c (tw_317) (gp_c (tw_318) (gp_c (tw_319) (gp_c (tw_50) (gp_c (tw_320) (gp_c (tw_197) (gp_c (tw_195) (gp_c (tw_274) (gp_c (tw_201) (gp_n))))))))))))))))) (by decide +kernel)
set_option maxRecDepth 20000 in
theorem ggT_X8_field : GoodIn lw_tbl wsX8_field := goodIn_cons (gp_s (gp_c (tw_300) (gp_n)) (by decide +kernel)) (goodIn_app (goodIn_app (goodIn_app (goodIn_app (goodIn_app gr_X8_field_r1 gr_X8_field_r2) gwX80) gwX20) gwX70) gwX60)
set_option maxRecDepth 20000 in
theorem gT_X8_field : GoodIn lw_tbl (wsV RL 34 RX8 yX8_field wsX8_field) := goodIn_app (gp_s (gp_c (gt_2 _ (gp_4 (gp_4 (gp_4 (gp_1 gp_h))))) (gp_c (gt_2 _ (gp_4 (gp_4 (gp_4 (gp_1 (gp_1 gp_h)))))) (gp_c (gt_2 _ (gp_4 (gp_4 (gp_4 (gp_1 (gp_1 (gp_1 gp_h))))))) (gp_c (tw_45) (gp_n))))) (by decide +kernel)) ggT_X8_field
set_option maxRecDepth 20000 in
theorem tw_952 : (Cond.code yX9_named cX9_named 4 ( some .int )) ∈ lw_tbl := gt_4 _ (gp_64 (gp_64 (gp_16 (gp_16 (gp_16 (gp_4 (gp_4 (gp_4 gp_h))))))))
set_option maxRecDepth 20000 in
theorem tw_951 : (Cond.instanceMethod yX9_named) ∈ lw_tbl := gt_4 _ (gp_64 (gp_64 (gp_16 (gp_16 (gp_16 (gp_4 (gp_4 (gp_1 (gp_1 (gp_1 gp_h))))))))))
set_option maxRecDepth 20000 in
theorem tw_949 : (Cond.methodLink RX9 161 yX9_named) ∈ lw_tbl := gt_4 _ (gp_64 (gp_64 (gp_16 (gp_16 (gp_16 (gp_4 (gp_4 (gp_1 gp_h))))))))
set_option maxRecDepth 20000 in
theorem tw_948 : (Cond.code yX9_isType cX9_isType 2 ( some .boolean )) ∈ lw_tbl := gt_4 _ (gp_64 (gp_64 (gp_16 (gp_16 (gp_16 (gp_4 (gp_4 gp_h)))))))
set_option maxRecDepth 20000 in
theorem tw_51 : (Cond.initialized RX9) ∈ lw_tbl := gt_1 _ (gp_4 (gp_1 (gp_1 (gp_1 gp_h))))
set_option maxRecDepth 20000 in
theorem tw_947 : (Cond.instanceMethod yX9_isType) ∈ lw_tbl := gt_4 _ (gp_64 (gp_64 (gp_16 (gp_16 (gp_16 (gp_4 (gp_1 (gp_1 (gp_1 gp_h)))))))))
set_option maxRecDepth 20000 in
theorem tw_945 : (Cond.methodLink RX9 158 yX9_isType) ∈ lw_tbl := gt_4 _ (gp_64 (gp_64 (gp_16 (gp_16 (gp_16 (gp_4 (gp_1 gp_h)))))))
set_option maxRecDepth 20000 in
theorem tw_792 : (Cond.fieldLink RX9 151 "StateRecordsModel" "things" "I") ∈ lw_tbl := gt_4 _ (gp_16 (gp_4 (gp_4 (gp_4 gp_h))))
set_option maxRecDepth 20000 in
theorem tw_953 : (Cond.constantLong RX9 168 ( -1 )) ∈ lw_tbl := gt_4 _ (gp_64 (gp_64 (gp_16 (gp_16 (gp_16 (gp_4 (gp_4 (gp_4 (gp_1 gp_h)))))))))
set_option maxRecDepth 20000 in
theorem tw_799 : (Cond.fieldLink RX9 165 "StateRecordsModel" "marks" "I") ∈ lw_tbl := gt_4 _ (gp_16 (gp_16 (gp_1 (gp_1 (gp_1 gp_h)))))
set_option maxRecDepth 20000 in
theorem tw_944 : (Cond.code yX9_field cX9_field 8 ( some .int )) ∈ lw_tbl := gt_4 _ (gp_64 (gp_64 (gp_16 (gp_16 (gp_16 (gp_4 gp_h))))))
set_option maxRecDepth 20000 in
theorem ggT_X9_field : GoodIn lw_tbl wsX9_field := goodIn_cons (gp_s (gp_c (tw_944) (gp_n)) (by decide +kernel)) (goodIn_app (gp_s (gp_c (tw_779) (gp_c (tw_799) (gp_c (tw_782) (gp_c (tw_783) (gp_c (tw_784) (gp_c (tw_785) (gp_c (tw_953) (gp_c (tw_786) (gp_c (tw_792) (gp_c (tw_793) (gp_c (tw_794) (gp_c (tw_945) (gp_c (tw_947) (gp_c (gq_23) (gp_c (tw_51) (gp_c (tw_948) (gp_c (tw_781) (gp_c (tw_949) (gp_c (tw_951) (gp_c (gq_24) (gp_c (tw_952) (gp_n)))))))))))))))))))))) (by decide +kernel)) gwX90)
set_option maxRecDepth 20000 in
theorem gT_X9_field : GoodIn lw_tbl (wsV RL 38 RX9 yX9_field wsX9_field) := goodIn_app (gp_s (gp_c (gt_4 _ (gp_64 (gp_64 (gp_16 (gp_16 (gp_16 (gp_1 gp_h))))))) (gp_c (gt_4 _ (gp_64 (gp_64 (gp_16 (gp_16 (gp_16 (gp_1 (gp_1 gp_h)))))))) (gp_c (gt_4 _ (gp_64 (gp_64 (gp_16 (gp_16 (gp_16 (gp_1 (gp_1 (gp_1 gp_h))))))))) (gp_c (tw_51) (gp_n))))) (by decide +kernel)) ggT_X9_field
set_option maxRecDepth 20000 in
theorem tw_331 : (Cond.instanceMethod yX7_removeField) ∈ lw_tbl := gt_2 _ (gp_16 (gp_16 (gp_4 (gp_4 (gp_4 (gp_1 (gp_1 (gp_1 gp_h))))))))
set_option maxRecDepth 20000 in
theorem tw_330 : (Cond.methodLink RX8 108 yX7_removeField) ∈ lw_tbl := gt_2 _ (gp_16 (gp_16 (gp_4 (gp_4 (gp_4 (gp_1 (gp_1 gp_h)))))))
set_option maxRecDepth 20000 in
theorem tw_328 : (Cond.code yX7_hasField cX7_hasField 2 ( some .boolean )) ∈ lw_tbl := gt_2 _ (gp_16 (gp_16 (gp_4 (gp_4 (gp_4 gp_h)))))
set_option maxRecDepth 20000 in
theorem tw_327 : (Cond.selects RX7 yX7_hasField yX7_hasField) ∈ lw_tbl := gt_2 _ (gp_16 (gp_16 (gp_4 (gp_4 (gp_1 (gp_1 (gp_1 gp_h)))))))
set_option maxRecDepth 20000 in
theorem tw_326 : (Cond.instanceMethod yX7_hasField) ∈ lw_tbl := gt_2 _ (gp_16 (gp_16 (gp_4 (gp_4 (gp_1 (gp_1 gp_h))))))
set_option maxRecDepth 20000 in
theorem tw_325 : (Cond.methodLink RX8 104 yX7_hasField) ∈ lw_tbl := gt_2 _ (gp_16 (gp_16 (gp_4 (gp_4 (gp_1 gp_h)))))
set_option maxRecDepth 20000 in
theorem tw_337 : (Cond.code yX6_removeField cX6_removeField 3 none) ∈ lw_tbl := gt_2 _ (gp_16 (gp_16 (gp_16 (gp_4 (gp_1 gp_h)))))
set_option maxRecDepth 20000 in
theorem tw_336 : (Cond.selects RX6 yX6_removeField yX6_removeField) ∈ lw_tbl := gt_2 _ (gp_16 (gp_16 (gp_16 (gp_4 gp_h))))
set_option maxRecDepth 20000 in
theorem tw_335 : (Cond.instanceMethod yX6_removeField) ∈ lw_tbl := gt_2 _ (gp_16 (gp_16 (gp_16 (gp_1 (gp_1 (gp_1 gp_h))))))
set_option maxRecDepth 20000 in
theorem tw_334 : (Cond.methodLink RX8 111 yX6_removeField) ∈ lw_tbl := gt_2 _ (gp_16 (gp_16 (gp_16 (gp_1 (gp_1 gp_h)))))
set_option maxRecDepth 20000 in
theorem tw_333 : (Cond.code yX7_removeField cX7_removeField 3 none) ∈ lw_tbl := gt_2 _ (gp_16 (gp_16 (gp_16 (gp_1 gp_h))))
set_option maxRecDepth 20000 in
theorem tw_332 : (Cond.selects RX7 yX7_removeField yX7_removeField) ∈ lw_tbl := gt_2 _ (gp_16 (gp_16 (gp_16 gp_h)))
set_option maxRecDepth 20000 in
theorem tw_324 : (Cond.code yX8_drop cX8_drop 5 ( some .int )) ∈ lw_tbl := gt_2 _ (gp_16 (gp_16 (gp_4 (gp_4 gp_h))))
set_option maxRecDepth 20000 in
theorem gr_X8_drop_r1 : GoodIn lw_tbl wsX8_drop_r1 := gp_s (gp_c (tw_226) (gp_c (tw_155) (gp_c (tw_219) (gp_c (tw_218) (gp_c (tw_196) (gp_c (tw_268) (gp_c (tw_301) (gp_c (tw_303) (gp_c (gq_0) (gp_c (tw_45) (gp_c (tw_304) (gp_c (tw_217) (gp_c (tw_216) (gp_c (tw_305) (gp_c (tw_306) (gp_c (tw_307) (gp_c (tw_325) (gp_c (tw_326) (gp_c (tw_327) (gp_c (tw_52) (gp_c (tw_328) (gp_c (tw_266) (gp_c (tw_330) (gp_c (tw_331) (gp_n))))))))))))))))))))))))) (by decide +kernel)
set_option maxRecDepth 20000 in
theorem gr_X8_drop_r2 : GoodIn lw_tbl wsX8_drop_r2 := gp_s (gp_c (tw_332) (gp_c (tw_333) (gp_c (tw_269) (gp_c (tw_271) (gp_c (tw_273) (gp_c (tw_275) (gp_c (tw_334) (gp_c (tw_335) (gp_c (tw_336) (gp_c (tw_50) (gp_c (tw_337) (gp_c (tw_197) (gp_c (tw_201) (gp_n)))))))))))))) (by decide +kernel)
set_option maxRecDepth 20000 in
theorem ggT_X8_drop : GoodIn lw_tbl wsX8_drop := goodIn_cons (gp_s (gp_c (tw_324) (gp_n)) (by decide +kernel)) (goodIn_app (goodIn_app (goodIn_app (goodIn_app (goodIn_app gr_X8_drop_r1 gr_X8_drop_r2) gwX80) gwX20) gwX60) gwX70)
set_option maxRecDepth 20000 in
theorem gT_X8_drop : GoodIn lw_tbl (wsV RL 39 RX8 yX8_drop wsX8_drop) := goodIn_app (gp_s (gp_c (gt_2 _ (gp_16 (gp_16 (gp_4 (gp_1 gp_h))))) (gp_c (gt_2 _ (gp_16 (gp_16 (gp_4 (gp_1 (gp_1 gp_h)))))) (gp_c (gt_2 _ (gp_16 (gp_16 (gp_4 (gp_1 (gp_1 (gp_1 gp_h))))))) (gp_c (tw_45) (gp_n))))) (by decide +kernel)) ggT_X8_drop
set_option maxRecDepth 20000 in
theorem tw_957 : (Cond.code yX9_drop cX9_drop 5 ( some .int )) ∈ lw_tbl := gt_4 _ (gp_64 (gp_64 (gp_64 (gp_1 gp_h))))
set_option maxRecDepth 20000 in
theorem ggT_X9_drop : GoodIn lw_tbl wsX9_drop := goodIn_cons (gp_s (gp_c (tw_957) (gp_n)) (by decide +kernel)) (goodIn_app (gp_s (gp_c (tw_779) (gp_c (tw_782) (gp_c (tw_799) (gp_c (tw_783) (gp_c (tw_784) (gp_c (tw_785) (gp_c (tw_786) (gp_c (tw_792) (gp_c (tw_794) (gp_c (tw_793) (gp_c (tw_945) (gp_c (tw_947) (gp_c (gq_23) (gp_c (tw_51) (gp_c (tw_948) (gp_c (tw_781) (gp_n))))))))))))))))) (by decide +kernel)) gwX90)
set_option maxRecDepth 20000 in
theorem gT_X9_drop : GoodIn lw_tbl (wsV RL 43 RX9 yX9_drop wsX9_drop) := goodIn_app (gp_s (gp_c (gt_4 _ (gp_64 (gp_64 (gp_16 (gp_16 (gp_16 (gp_4 (gp_4 (gp_4 (gp_1 (gp_1 gp_h))))))))))) (gp_c (gt_4 _ (gp_64 (gp_64 (gp_16 (gp_16 (gp_16 (gp_4 (gp_4 (gp_4 (gp_1 (gp_1 (gp_1 gp_h)))))))))))) (gp_c (gt_4 _ (gp_64 (gp_64 (gp_64 gp_h)))) (gp_c (tw_51) (gp_n))))) (by decide +kernel)) ggT_X9_drop
set_option maxRecDepth 20000 in
theorem tw_276 : (Cond.fieldLink RX8 112 "StateRecords$Type" "shuts" "[Z") ∈ lw_tbl := gt_1 _ (gp_64 (gp_64 (gp_64 (gp_16 (gp_16 (gp_4 (gp_4 gp_h)))))))
set_option maxRecDepth 20000 in
theorem tw_341 : (Cond.code yX8_shut cX8_shut 6 ( some .int )) ∈ lw_tbl := gt_2 _ (gp_16 (gp_16 (gp_16 (gp_4 (gp_4 (gp_1 gp_h))))))
set_option maxRecDepth 20000 in
theorem ggT_X8_shut : GoodIn lw_tbl wsX8_shut := goodIn_cons (gp_s (gp_c (tw_341) (gp_n)) (by decide +kernel)) (goodIn_app (goodIn_app (gp_s (gp_c (tw_276) (gp_c (tw_301) (gp_c (tw_303) (gp_c (gq_0) (gp_c (tw_45) (gp_c (tw_304) (gp_c (tw_217) (gp_c (tw_216) (gp_c (tw_305) (gp_c (tw_306) (gp_c (tw_307) (gp_c (tw_325) (gp_c (tw_326) (gp_c (tw_327) (gp_c (tw_52) (gp_c (tw_328) (gp_c (tw_266) (gp_n)))))))))))))))))) (by decide +kernel)) gwX70) gwX80)
set_option maxRecDepth 20000 in
theorem gT_X8_shut : GoodIn lw_tbl (wsV RL 44 RX8 yX8_shut wsX8_shut) := goodIn_app (gp_s (gp_c (gt_2 _ (gp_16 (gp_16 (gp_16 (gp_4 (gp_1 (gp_1 gp_h))))))) (gp_c (gt_2 _ (gp_16 (gp_16 (gp_16 (gp_4 (gp_1 (gp_1 (gp_1 gp_h)))))))) (gp_c (gt_2 _ (gp_16 (gp_16 (gp_16 (gp_4 (gp_4 gp_h)))))) (gp_c (tw_45) (gp_n))))) (by decide +kernel)) ggT_X8_shut
set_option maxRecDepth 20000 in
theorem tw_961 : (Cond.code yX9_shut cX9_shut 5 ( some .int )) ∈ lw_tbl := gt_4 _ (gp_64 (gp_64 (gp_64 (gp_4 (gp_1 gp_h)))))
set_option maxRecDepth 20000 in
theorem ggT_X9_shut : GoodIn lw_tbl wsX9_shut := goodIn_cons (gp_s (gp_c (tw_961) (gp_n)) (by decide +kernel)) (goodIn_app (gp_s (gp_c (tw_779) (gp_c (tw_782) (gp_c (tw_786) (gp_c (tw_945) (gp_c (tw_947) (gp_c (gq_23) (gp_c (tw_51) (gp_c (tw_948) (gp_c (tw_781) (gp_n)))))))))) (by decide +kernel)) gwX90)
set_option maxRecDepth 20000 in
theorem gT_X9_shut : GoodIn lw_tbl (wsV RL 48 RX9 yX9_shut wsX9_shut) := goodIn_app (gp_s (gp_c (gt_4 _ (gp_64 (gp_64 (gp_64 (gp_1 (gp_1 gp_h)))))) (gp_c (gt_4 _ (gp_64 (gp_64 (gp_64 (gp_1 (gp_1 (gp_1 gp_h))))))) (gp_c (gt_4 _ (gp_64 (gp_64 (gp_64 (gp_4 gp_h))))) (gp_c (tw_51) (gp_n))))) (by decide +kernel)) ggT_X9_shut
set_option maxRecDepth 20000 in
theorem tw_356 : (Cond.fieldLink RX0 16 "StateRecords$Check" "b" "I") ∈ lw_tbl := gt_2 _ (gp_64 (gp_4 (gp_4 gp_h)))
set_option maxRecDepth 20000 in
theorem tw_354 : (Cond.fieldLink RX0 13 "StateRecords$Check" "a" "I") ∈ lw_tbl := gt_2 _ (gp_64 (gp_4 (gp_1 (gp_1 gp_h))))
set_option maxRecDepth 20000 in
theorem tw_352 : (Cond.fieldLink RX0 7 "StateRecords$Check" "kind" "I") ∈ lw_tbl := gt_2 _ (gp_64 (gp_4 gp_h))
set_option maxRecDepth 20000 in
theorem tw_351 : (Cond.methodLink RX0 1 objectInit) ∈ lw_tbl := gt_2 _ (gp_64 (gp_1 (gp_1 (gp_1 gp_h))))
set_option maxRecDepth 20000 in
theorem tw_350 : (Cond.code yX0_init cX0_init 6 none) ∈ lw_tbl := gt_2 _ (gp_64 (gp_1 (gp_1 gp_h)))
set_option maxRecDepth 20000 in
theorem tw_349 : (Cond.instanceMethod yX0_init) ∈ lw_tbl := gt_2 _ (gp_64 (gp_1 gp_h))
set_option maxRecDepth 20000 in
theorem tw_348 : (Cond.methodLink RX8 124 yX0_init) ∈ lw_tbl := gt_2 _ (gp_64 gp_h)
set_option maxRecDepth 20000 in
theorem tw_53 : (Cond.initialized RX0) ∈ lw_tbl := gt_1 _ (gp_4 (gp_4 (gp_1 gp_h)))
set_option maxRecDepth 20000 in
theorem tw_347 : (Cond.instantiable RX0 4) ∈ lw_tbl := gt_2 _ (gp_16 (gp_16 (gp_16 (gp_4 (gp_4 (gp_4 (gp_1 (gp_1 (gp_1 gp_h)))))))))
set_option maxRecDepth 20000 in
theorem tw_346 : (Cond.classLink RX8 122 RX0) ∈ lw_tbl := gt_2 _ (gp_16 (gp_16 (gp_16 (gp_4 (gp_4 (gp_4 (gp_1 (gp_1 gp_h))))))))
set_option maxRecDepth 20000 in
theorem tw_279 : (Cond.fieldLink RX8 118 "StateRecords$Type" "checks" "[LStateRecords$Check;") ∈ lw_tbl := gt_1 _ (gp_64 (gp_64 (gp_64 (gp_16 (gp_16 (gp_4 (gp_4 (gp_1 (gp_1 (gp_1 gp_h))))))))))
set_option maxRecDepth 20000 in
theorem tw_277 : (Cond.fieldLink RX8 115 "StateRecords$Type" "checkCount" "I") ∈ lw_tbl := gt_1 _ (gp_64 (gp_64 (gp_64 (gp_16 (gp_16 (gp_4 (gp_4 (gp_1 gp_h))))))))
set_option maxRecDepth 20000 in
theorem tw_358 : (Cond.fieldLink RX0 19 "StateRecords$Check" "v" "J") ∈ lw_tbl := gt_2 _ (gp_64 (gp_4 (gp_4 (gp_1 (gp_1 gp_h)))))
set_option maxRecDepth 20000 in
theorem tw_345 : (Cond.code yX8_check cX8_check 8 ( some .int )) ∈ lw_tbl := gt_2 _ (gp_16 (gp_16 (gp_16 (gp_4 (gp_4 (gp_4 (gp_1 gp_h)))))))
set_option maxRecDepth 20000 in
theorem gr_X8_check_r1 : GoodIn lw_tbl wsX8_check_r1 := gp_s (gp_c (tw_277) (gp_c (tw_279) (gp_c (tw_346) (gp_c (tw_347) (gp_c (tw_53) (gp_c (tw_301) (gp_c (tw_303) (gp_c (gq_0) (gp_c (tw_45) (gp_c (tw_304) (gp_c (tw_217) (gp_c (tw_216) (gp_c (tw_305) (gp_c (tw_306) (gp_c (tw_307) (gp_c (tw_348) (gp_c (tw_349) (gp_c (tw_350) (gp_c (tw_351) (gp_c (tw_68) (gp_c (tw_69) (gp_c (tw_352) (gp_c (tw_354) (gp_c (tw_356) (gp_n))))))))))))))))))))))))) (by decide +kernel)
set_option maxRecDepth 20000 in
theorem gr_X8_check_r2 : GoodIn lw_tbl wsX8_check_r2 := gp_s (gp_c (tw_358) (gp_n)) (by decide +kernel)
set_option maxRecDepth 20000 in
theorem ggT_X8_check : GoodIn lw_tbl wsX8_check := goodIn_cons (gp_s (gp_c (tw_345) (gp_n)) (by decide +kernel)) (goodIn_app (goodIn_app (goodIn_app (goodIn_app gr_X8_check_r1 gr_X8_check_r2) gwX70) gwX00) gwX80)
set_option maxRecDepth 20000 in
theorem gT_X8_check : GoodIn lw_tbl (wsV RL 49 RX8 yX8_check wsX8_check) := goodIn_app (gp_s (gp_c (gt_2 _ (gp_16 (gp_16 (gp_16 (gp_4 (gp_4 (gp_1 (gp_1 gp_h)))))))) (gp_c (gt_2 _ (gp_16 (gp_16 (gp_16 (gp_4 (gp_4 (gp_1 (gp_1 (gp_1 gp_h))))))))) (gp_c (gt_2 _ (gp_16 (gp_16 (gp_16 (gp_4 (gp_4 (gp_4 gp_h))))))) (gp_c (tw_45) (gp_n))))) (by decide +kernel)) ggT_X8_check
set_option maxRecDepth 20000 in
theorem tw_965 : (Cond.code yX9_check cX9_check 8 ( some .int )) ∈ lw_tbl := gt_4 _ (gp_64 (gp_64 (gp_64 (gp_4 (gp_4 (gp_1 gp_h))))))
set_option maxRecDepth 20000 in
theorem ggT_X9_check : GoodIn lw_tbl wsX9_check := goodIn_cons (gp_s (gp_c (tw_965) (gp_n)) (by decide +kernel)) (goodIn_app (gp_s (gp_c (tw_779) (gp_c (tw_787) (gp_c (tw_788) (gp_c (tw_789) (gp_c (tw_790) (gp_c (tw_791) (gp_c (tw_945) (gp_c (tw_947) (gp_c (gq_23) (gp_c (tw_51) (gp_c (tw_948) (gp_c (tw_781) (gp_n))))))))))))) (by decide +kernel)) gwX90)
set_option maxRecDepth 20000 in
theorem gT_X9_check : GoodIn lw_tbl (wsV RL 53 RX9 yX9_check wsX9_check) := goodIn_app (gp_s (gp_c (gt_4 _ (gp_64 (gp_64 (gp_64 (gp_4 (gp_1 (gp_1 gp_h))))))) (gp_c (gt_4 _ (gp_64 (gp_64 (gp_64 (gp_4 (gp_1 (gp_1 (gp_1 gp_h)))))))) (gp_c (gt_4 _ (gp_64 (gp_64 (gp_64 (gp_4 (gp_4 gp_h)))))) (gp_c (tw_51) (gp_n))))) (by decide +kernel)) ggT_X9_check
set_option maxRecDepth 20000 in
theorem tw_372 : (Cond.code yX8_unchecked cX8_unchecked 4 ( some .int )) ∈ lw_tbl := gt_2 _ (gp_64 (gp_16 (gp_4 (gp_4 gp_h))))
set_option maxRecDepth 20000 in
theorem ggT_X8_unchecked : GoodIn lw_tbl wsX8_unchecked := goodIn_cons (gp_s (gp_c (tw_372) (gp_n)) (by decide +kernel)) (goodIn_app (goodIn_app (gp_s (gp_c (tw_277) (gp_c (tw_301) (gp_c (tw_303) (gp_c (gq_0) (gp_c (tw_45) (gp_c (tw_304) (gp_c (tw_217) (gp_c (tw_216) (gp_c (tw_305) (gp_c (tw_306) (gp_c (tw_307) (gp_n)))))))))))) (by decide +kernel)) gwX70) gwX80)
set_option maxRecDepth 20000 in
theorem gT_X8_unchecked : GoodIn lw_tbl (wsV RL 54 RX8 yX8_unchecked wsX8_unchecked) := goodIn_app (gp_s (gp_c (gt_2 _ (gp_64 (gp_16 (gp_4 (gp_1 gp_h))))) (gp_c (gt_2 _ (gp_64 (gp_16 (gp_4 (gp_1 (gp_1 gp_h)))))) (gp_c (gt_2 _ (gp_64 (gp_16 (gp_4 (gp_1 (gp_1 (gp_1 gp_h))))))) (gp_c (tw_45) (gp_n))))) (by decide +kernel)) ggT_X8_unchecked
set_option maxRecDepth 20000 in
theorem tw_969 : (Cond.code yX9_unchecked cX9_unchecked 3 ( some .int )) ∈ lw_tbl := gt_4 _ (gp_64 (gp_64 (gp_64 (gp_4 (gp_4 (gp_4 (gp_1 gp_h)))))))
set_option maxRecDepth 20000 in
theorem ggT_X9_unchecked : GoodIn lw_tbl wsX9_unchecked := goodIn_cons (gp_s (gp_c (tw_969) (gp_n)) (by decide +kernel)) (goodIn_app (gp_s (gp_c (tw_779) (gp_c (tw_787) (gp_c (tw_945) (gp_c (tw_947) (gp_c (gq_23) (gp_c (tw_51) (gp_c (tw_948) (gp_c (tw_781) (gp_n))))))))) (by decide +kernel)) gwX90)
set_option maxRecDepth 20000 in
theorem gT_X9_unchecked : GoodIn lw_tbl (wsV RL 58 RX9 yX9_unchecked wsX9_unchecked) := goodIn_app (gp_s (gp_c (gt_4 _ (gp_64 (gp_64 (gp_64 (gp_4 (gp_4 (gp_1 (gp_1 gp_h)))))))) (gp_c (gt_4 _ (gp_64 (gp_64 (gp_64 (gp_4 (gp_4 (gp_1 (gp_1 (gp_1 gp_h))))))))) (gp_c (gt_4 _ (gp_64 (gp_64 (gp_64 (gp_4 (gp_4 (gp_4 gp_h))))))) (gp_c (tw_51) (gp_n))))) (by decide +kernel)) ggT_X9_unchecked
set_option maxRecDepth 20000 in
theorem tw_376 : (Cond.code yX8_word cX8_word 4 ( some .int )) ∈ lw_tbl := gt_2 _ (gp_64 (gp_16 (gp_4 (gp_4 (gp_4 gp_h)))))
set_option maxRecDepth 20000 in
theorem ggT_X8_word : GoodIn lw_tbl wsX8_word := goodIn_cons (gp_s (gp_c (tw_376) (gp_n)) (by decide +kernel)) (goodIn_app (gp_s (gp_c (tw_220) (gp_c (tw_305) (gp_c (tw_306) (gp_c (tw_45) (gp_c (tw_307) (gp_n)))))) (by decide +kernel)) gwX80)
set_option maxRecDepth 20000 in
theorem gT_X8_word : GoodIn lw_tbl (wsV RL 59 RX8 yX8_word wsX8_word) := goodIn_app (gp_s (gp_c (gt_2 _ (gp_64 (gp_16 (gp_4 (gp_4 (gp_1 gp_h)))))) (gp_c (gt_2 _ (gp_64 (gp_16 (gp_4 (gp_4 (gp_1 (gp_1 gp_h))))))) (gp_c (gt_2 _ (gp_64 (gp_16 (gp_4 (gp_4 (gp_1 (gp_1 (gp_1 gp_h)))))))) (gp_c (tw_45) (gp_n))))) (by decide +kernel)) ggT_X8_word
set_option maxRecDepth 20000 in
theorem tw_973 : (Cond.code yX9_word cX9_word 4 ( some .int )) ∈ lw_tbl := gt_4 _ (gp_64 (gp_64 (gp_64 (gp_16 (gp_1 gp_h)))))
set_option maxRecDepth 20000 in
theorem ggT_X9_word : GoodIn lw_tbl wsX9_word := goodIn_cons (gp_s (gp_c (tw_973) (gp_n)) (by decide +kernel)) (goodIn_app (gp_s (gp_c (tw_779) (gp_c (tw_780) (gp_n))) (by decide +kernel)) gwX90)
set_option maxRecDepth 20000 in
theorem gT_X9_word : GoodIn lw_tbl (wsV RL 63 RX9 yX9_word wsX9_word) := goodIn_app (gp_s (gp_c (gt_4 _ (gp_64 (gp_64 (gp_64 (gp_4 (gp_4 (gp_4 (gp_1 (gp_1 gp_h))))))))) (gp_c (gt_4 _ (gp_64 (gp_64 (gp_64 (gp_4 (gp_4 (gp_4 (gp_1 (gp_1 (gp_1 gp_h)))))))))) (gp_c (gt_4 _ (gp_64 (gp_64 (gp_64 (gp_16 gp_h))))) (gp_c (tw_51) (gp_n))))) (by decide +kernel)) ggT_X9_word
set_option maxRecDepth 20000 in
theorem tw_385 : (Cond.methodLink RX6 31 yX6_setDefault) ∈ lw_tbl := gt_2 _ (gp_64 (gp_16 (gp_16 (gp_4 (gp_1 gp_h)))))
set_option maxRecDepth 20000 in
theorem tw_267 : (Cond.fieldLink RX6 25 "StateRecords$Type" "fieldCount" "I") ∈ lw_tbl := gt_1 _ (gp_64 (gp_64 (gp_64 (gp_16 (gp_4 (gp_4 (gp_4 (gp_1 (gp_1 (gp_1 gp_h))))))))))
set_option maxRecDepth 20000 in
theorem tw_384 : (Cond.code yX6_become cX6_become 3 none) ∈ lw_tbl := gt_2 _ (gp_64 (gp_16 (gp_16 (gp_4 gp_h))))
set_option maxRecDepth 20000 in
theorem tw_383 : (Cond.selects RX6 yX6_become yX6_become) ∈ lw_tbl := gt_2 _ (gp_64 (gp_16 (gp_16 (gp_1 (gp_1 (gp_1 gp_h))))))
set_option maxRecDepth 20000 in
theorem tw_382 : (Cond.instanceMethod yX6_become) ∈ lw_tbl := gt_2 _ (gp_64 (gp_16 (gp_16 (gp_1 (gp_1 gp_h)))))
set_option maxRecDepth 20000 in
theorem tw_381 : (Cond.methodLink RX8 127 yX6_become) ∈ lw_tbl := gt_2 _ (gp_64 (gp_16 (gp_16 (gp_1 gp_h))))
set_option maxRecDepth 20000 in
theorem tw_380 : (Cond.code yX8_thing cX8_thing 3 ( some .int )) ∈ lw_tbl := gt_2 _ (gp_64 (gp_16 (gp_16 gp_h)))
set_option maxRecDepth 20000 in
theorem gr_X8_thing_r1 : GoodIn lw_tbl wsX8_thing_r1 := gp_s (gp_c (tw_219) (gp_c (tw_218) (gp_c (tw_301) (gp_c (tw_303) (gp_c (gq_0) (gp_c (tw_45) (gp_c (tw_304) (gp_c (tw_217) (gp_c (tw_216) (gp_c (tw_305) (gp_c (tw_306) (gp_c (tw_307) (gp_c (tw_381) (gp_c (tw_382) (gp_c (tw_383) (gp_c (tw_50) (gp_c (tw_384) (gp_c (tw_195) (gp_c (tw_267) (gp_c (tw_385) (gp_c (tw_318) (gp_c (tw_319) (gp_c (tw_320) (gp_c (tw_197) (gp_n))))))))))))))))))))))))) (by decide +kernel)
set_option maxRecDepth 20000 in
theorem gr_X8_thing_r2 : GoodIn lw_tbl wsX8_thing_r2 := gp_s (gp_c (tw_274) (gp_c (tw_201) (gp_n))) (by decide +kernel)
set_option maxRecDepth 20000 in
theorem ggT_X8_thing : GoodIn lw_tbl wsX8_thing := goodIn_cons (gp_s (gp_c (tw_380) (gp_n)) (by decide +kernel)) (goodIn_app (goodIn_app (goodIn_app (goodIn_app gr_X8_thing_r1 gr_X8_thing_r2) gwX80) gwX60) gwX70)
set_option maxRecDepth 20000 in
theorem gT_X8_thing : GoodIn lw_tbl (wsV RL 64 RX8 yX8_thing wsX8_thing) := goodIn_app (gp_s (gp_c (gt_2 _ (gp_64 (gp_16 (gp_4 (gp_4 (gp_4 (gp_1 gp_h))))))) (gp_c (gt_2 _ (gp_64 (gp_16 (gp_4 (gp_4 (gp_4 (gp_1 (gp_1 gp_h)))))))) (gp_c (gt_2 _ (gp_64 (gp_16 (gp_4 (gp_4 (gp_4 (gp_1 (gp_1 (gp_1 gp_h))))))))) (gp_c (tw_45) (gp_n))))) (by decide +kernel)) ggT_X8_thing
set_option maxRecDepth 20000 in
theorem tw_977 : (Cond.code yX9_thing cX9_thing 3 ( some .int )) ∈ lw_tbl := gt_4 _ (gp_64 (gp_64 (gp_64 (gp_16 (gp_4 (gp_1 gp_h))))))
set_option maxRecDepth 20000 in
theorem ggT_X9_thing : GoodIn lw_tbl wsX9_thing := goodIn_cons (gp_s (gp_c (tw_977) (gp_n)) (by decide +kernel)) (goodIn_app (gp_s (gp_c (tw_779) (gp_c (tw_792) (gp_c (tw_793) (gp_c (tw_782) (gp_c (tw_794) (gp_c (tw_785) (gp_c (tw_945) (gp_c (tw_947) (gp_c (gq_23) (gp_c (tw_51) (gp_c (tw_948) (gp_c (tw_781) (gp_n))))))))))))) (by decide +kernel)) gwX90)
set_option maxRecDepth 20000 in
theorem gT_X9_thing : GoodIn lw_tbl (wsV RL 67 RX9 yX9_thing wsX9_thing) := goodIn_app (gp_s (gp_c (gt_4 _ (gp_64 (gp_64 (gp_64 (gp_16 (gp_1 (gp_1 gp_h))))))) (gp_c (gt_4 _ (gp_64 (gp_64 (gp_64 (gp_16 (gp_1 (gp_1 (gp_1 gp_h)))))))) (gp_c (gt_4 _ (gp_64 (gp_64 (gp_64 (gp_16 (gp_4 gp_h)))))) (gp_c (tw_51) (gp_n))))) (by decide +kernel)) ggT_X9_thing
set_option maxRecDepth 20000 in
theorem tw_399 : (Cond.static yX8_failed) ∈ lw_tbl := gt_2 _ (gp_64 (gp_16 (gp_16 (gp_16 (gp_1 (gp_1 (gp_1 gp_h)))))))
set_option maxRecDepth 20000 in
theorem tw_398 : (Cond.methodLink RX8 139 yX8_failed) ∈ lw_tbl := gt_2 _ (gp_64 (gp_16 (gp_16 (gp_16 (gp_1 (gp_1 gp_h))))))
set_option maxRecDepth 20000 in
theorem tw_397 : (Cond.code yX8_thingNumbered cX8_thingNumbered 3 ( some ( .object "StateRecords$Thing" ) )) ∈ lw_tbl := gt_2 _ (gp_64 (gp_16 (gp_16 (gp_16 (gp_1 gp_h)))))
set_option maxRecDepth 20000 in
theorem tw_396 : (Cond.instanceMethod yX8_thingNumbered) ∈ lw_tbl := gt_2 _ (gp_64 (gp_16 (gp_16 (gp_16 gp_h))))
set_option maxRecDepth 20000 in
theorem tw_394 : (Cond.methodLink RX8 177 yX8_thingNumbered) ∈ lw_tbl := gt_2 _ (gp_64 (gp_16 (gp_16 (gp_4 (gp_4 (gp_4 (gp_1 (gp_1 gp_h))))))))
set_option maxRecDepth 20000 in
theorem tw_393 : (Cond.code yX8_thingWithField cX8_thingWithField 4 ( some ( .object "StateRecords$Thing" ) )) ∈ lw_tbl := gt_2 _ (gp_64 (gp_16 (gp_16 (gp_4 (gp_4 (gp_4 (gp_1 gp_h)))))))
set_option maxRecDepth 20000 in
theorem tw_392 : (Cond.instanceMethod yX8_thingWithField) ∈ lw_tbl := gt_2 _ (gp_64 (gp_16 (gp_16 (gp_4 (gp_4 (gp_4 gp_h))))))
set_option maxRecDepth 20000 in
theorem tw_390 : (Cond.methodLink RX8 131 yX8_thingWithField) ∈ lw_tbl := gt_2 _ (gp_64 (gp_16 (gp_16 (gp_4 (gp_4 (gp_1 (gp_1 gp_h)))))))
set_option maxRecDepth 20000 in
theorem tw_272 : (Cond.fieldLink RX8 135 "StateRecords$Type" "lanes" "[I") ∈ lw_tbl := gt_1 _ (gp_64 (gp_64 (gp_64 (gp_16 (gp_16 (gp_4 gp_h))))))
set_option maxRecDepth 20000 in
theorem tw_199 : (Cond.fieldLink RX2 26 "StateRecords$Thing" "values" "[J") ∈ lw_tbl := gt_1 _ (gp_64 (gp_64 (gp_16 (gp_4 (gp_4 (gp_1 (gp_1 (gp_1 gp_h))))))))
set_option maxRecDepth 20000 in
theorem tw_417 : (Cond.code yX2_noteField cX2_noteField 3 none) ∈ lw_tbl := gt_2 _ (gp_64 (gp_64 (gp_4 (gp_1 gp_h))))
set_option maxRecDepth 20000 in
theorem tw_416 : (Cond.selects RX2 yX2_noteField yX2_noteField) ∈ lw_tbl := gt_2 _ (gp_64 (gp_64 (gp_4 gp_h)))
set_option maxRecDepth 20000 in
theorem tw_415 : (Cond.instanceMethod yX2_noteField) ∈ lw_tbl := gt_2 _ (gp_64 (gp_64 (gp_1 (gp_1 (gp_1 gp_h)))))
set_option maxRecDepth 20000 in
theorem tw_414 : (Cond.methodLink RX8 277 yX2_noteField) ∈ lw_tbl := gt_2 _ (gp_64 (gp_64 (gp_1 (gp_1 gp_h))))
set_option maxRecDepth 20000 in
theorem tw_152 : (Cond.fieldLink RX2 22 "StateRecords$Journal" "noteCount" "I") ∈ lw_tbl := gt_1 _ (gp_64 (gp_16 (gp_16 (gp_4 (gp_4 (gp_4 gp_h))))))
set_option maxRecDepth 20000 in
theorem tw_413 : (Cond.code yX2_isFull cX2_isFull 1 ( some .boolean )) ∈ lw_tbl := gt_2 _ (gp_64 (gp_64 (gp_1 gp_h)))
set_option maxRecDepth 20000 in
theorem tw_412 : (Cond.selects RX2 yX2_isFull yX2_isFull) ∈ lw_tbl := gt_2 _ (gp_64 (gp_64 gp_h))
set_option maxRecDepth 20000 in
theorem tw_411 : (Cond.instanceMethod yX2_isFull) ∈ lw_tbl := gt_2 _ (gp_64 (gp_16 (gp_16 (gp_16 (gp_4 (gp_4 (gp_4 (gp_1 (gp_1 (gp_1 gp_h))))))))))
set_option maxRecDepth 20000 in
theorem tw_410 : (Cond.methodLink RX8 165 yX2_isFull) ∈ lw_tbl := gt_2 _ (gp_64 (gp_16 (gp_16 (gp_16 (gp_4 (gp_4 (gp_4 (gp_1 (gp_1 gp_h)))))))))
set_option maxRecDepth 20000 in
theorem tw_200 : (Cond.fieldLink RX8 193 "StateRecords$Thing" "values" "[J") ∈ lw_tbl := gt_1 _ (gp_64 (gp_64 (gp_16 (gp_4 (gp_4 (gp_4 gp_h))))))
set_option maxRecDepth 20000 in
theorem tw_409 : (Cond.code yX8_changeValue cX8_changeValue 5 ( some .int )) ∈ lw_tbl := gt_2 _ (gp_64 (gp_16 (gp_16 (gp_16 (gp_4 (gp_4 (gp_4 (gp_1 gp_h))))))))
set_option maxRecDepth 20000 in
theorem tw_408 : (Cond.instanceMethod yX8_changeValue) ∈ lw_tbl := gt_2 _ (gp_64 (gp_16 (gp_16 (gp_16 (gp_4 (gp_4 (gp_4 gp_h)))))))
set_option maxRecDepth 20000 in
theorem tw_406 : (Cond.methodLink RX8 146 yX8_changeValue) ∈ lw_tbl := gt_2 _ (gp_64 (gp_16 (gp_16 (gp_16 (gp_4 (gp_4 (gp_1 (gp_1 gp_h))))))))
set_option maxRecDepth 20000 in
theorem tw_405 : (Cond.constantLong RX8 275 ( 16 )) ∈ lw_tbl := gt_2 _ (gp_64 (gp_16 (gp_16 (gp_16 (gp_4 (gp_4 (gp_1 gp_h)))))))
set_option maxRecDepth 20000 in
theorem tw_404 : (Cond.code yX8_isWordInUse cX8_isWordInUse 3 ( some .boolean )) ∈ lw_tbl := gt_2 _ (gp_64 (gp_16 (gp_16 (gp_16 (gp_4 (gp_4 gp_h))))))
set_option maxRecDepth 20000 in
theorem tw_403 : (Cond.instanceMethod yX8_isWordInUse) ∈ lw_tbl := gt_2 _ (gp_64 (gp_16 (gp_16 (gp_16 (gp_4 (gp_1 (gp_1 (gp_1 gp_h))))))))
set_option maxRecDepth 20000 in
theorem tw_401 : (Cond.methodLink RX8 142 yX8_isWordInUse) ∈ lw_tbl := gt_2 _ (gp_64 (gp_16 (gp_16 (gp_16 (gp_4 (gp_1 gp_h))))))
set_option maxRecDepth 20000 in
theorem tw_400 : (Cond.code yX8_failed cX8_failed 1 ( some .int )) ∈ lw_tbl := gt_2 _ (gp_64 (gp_16 (gp_16 (gp_16 (gp_4 gp_h)))))
set_option maxRecDepth 20000 in
theorem tw_422 : (Cond.methodLink RX2 48 yX2_isFull) ∈ lw_tbl := gt_2 _ (gp_64 (gp_64 (gp_4 (gp_4 (gp_1 (gp_1 gp_h))))))
set_option maxRecDepth 20000 in
theorem tw_141 : (Cond.fieldLink RX2 63 "StateRecords$Note" "row" "LStateRecords$Row;") ∈ lw_tbl := gt_1 _ (gp_64 (gp_16 (gp_16 (gp_1 gp_h))))
set_option maxRecDepth 20000 in
theorem tw_139 : (Cond.fieldLink RX2 59 "StateRecords$Note" "value" "J") ∈ lw_tbl := gt_1 _ (gp_64 (gp_16 (gp_4 (gp_4 (gp_4 (gp_1 (gp_1 (gp_1 gp_h))))))))
set_option maxRecDepth 20000 in
theorem tw_137 : (Cond.fieldLink RX2 56 "StateRecords$Note" "index" "I") ∈ lw_tbl := gt_1 _ (gp_64 (gp_16 (gp_4 (gp_4 (gp_4 (gp_1 gp_h))))))
set_option maxRecDepth 20000 in
theorem tw_135 : (Cond.fieldLink RX2 52 "StateRecords$Note" "thing" "LStateRecords$Thing;") ∈ lw_tbl := gt_1 _ (gp_64 (gp_16 (gp_4 (gp_4 (gp_1 (gp_1 (gp_1 gp_h)))))))
set_option maxRecDepth 20000 in
theorem tw_156 : (Cond.fieldLink RX2 45 "StateRecords$Journal" "markCount" "I") ∈ lw_tbl := gt_1 _ (gp_64 (gp_16 (gp_16 (gp_16 gp_h))))
set_option maxRecDepth 20000 in
theorem tw_421 : (Cond.code yX2_write cX2_write 7 none) ∈ lw_tbl := gt_2 _ (gp_64 (gp_64 (gp_4 (gp_4 (gp_1 gp_h)))))
set_option maxRecDepth 20000 in
theorem tw_420 : (Cond.instanceMethod yX2_write) ∈ lw_tbl := gt_2 _ (gp_64 (gp_64 (gp_4 (gp_4 gp_h))))
set_option maxRecDepth 20000 in
theorem tw_418 : (Cond.methodLink RX2 36 yX2_write) ∈ lw_tbl := gt_2 _ (gp_64 (gp_64 (gp_4 (gp_1 (gp_1 gp_h)))))
set_option maxRecDepth 20000 in
theorem tw_203 : (Cond.fieldLink RX2 32 "StateRecords$Thing" "rows" "[LStateRecords$Row;") ∈ lw_tbl := gt_1 _ (gp_64 (gp_64 (gp_16 (gp_4 (gp_4 (gp_4 (gp_1 (gp_1 (gp_1 gp_h)))))))))
set_option maxRecDepth 20000 in
theorem tw_389 : (Cond.code yX8_put cX8_put 7 ( some .int )) ∈ lw_tbl := gt_2 _ (gp_64 (gp_16 (gp_16 (gp_4 (gp_4 (gp_1 gp_h))))))
set_option maxRecDepth 20000 in
theorem gr_X8_put_r1 : GoodIn lw_tbl wsX8_put_r1 := gp_s (gp_c (tw_196) (gp_c (tw_272) (gp_c (tw_312) (gp_c (tw_390) (gp_c (tw_392) (gp_c (gq_1) (gp_c (tw_45) (gp_c (tw_393) (gp_c (tw_394) (gp_c (tw_396) (gp_c (gq_2) (gp_c (tw_397) (gp_c (tw_219) (gp_c (tw_218) (gp_c (tw_325) (gp_c (tw_326) (gp_c (tw_327) (gp_c (tw_52) (gp_c (tw_328) (gp_c (tw_266) (gp_c (tw_306) (gp_c (tw_307) (gp_c (tw_398) (gp_c (tw_399) (gp_n))))))))))))))))))))))))) (by decide +kernel)
set_option maxRecDepth 20000 in
theorem gr_X8_put_r2 : GoodIn lw_tbl wsX8_put_r2 := gp_s (gp_c (tw_400) (gp_c (tw_401) (gp_c (tw_403) (gp_c (gq_3) (gp_c (tw_404) (gp_c (tw_405) (gp_c (tw_220) (gp_c (tw_406) (gp_c (tw_408) (gp_c (gq_4) (gp_c (tw_409) (gp_c (tw_226) (gp_c (tw_200) (gp_c (tw_410) (gp_c (tw_411) (gp_c (tw_412) (gp_c (tw_47) (gp_c (tw_413) (gp_c (tw_152) (gp_c (tw_414) (gp_c (tw_415) (gp_c (tw_416) (gp_c (tw_417) (gp_c (tw_199) (gp_n))))))))))))))))))))))))) (by decide +kernel)
set_option maxRecDepth 20000 in
theorem gr_X8_put_r3 : GoodIn lw_tbl wsX8_put_r3 := gp_s (gp_c (tw_203) (gp_c (tw_418) (gp_c (tw_420) (gp_c (gq_5) (gp_c (tw_421) (gp_c (tw_156) (gp_c (tw_151) (gp_c (tw_135) (gp_c (tw_137) (gp_c (tw_139) (gp_c (tw_141) (gp_c (tw_422) (gp_n))))))))))))) (by decide +kernel)
set_option maxRecDepth 20000 in
theorem ggT_X8_put : GoodIn lw_tbl wsX8_put := goodIn_cons (gp_s (gp_c (tw_389) (gp_n)) (by decide +kernel)) (goodIn_app (goodIn_app (goodIn_app (goodIn_app (goodIn_app (goodIn_app gr_X8_put_r1 (goodIn_app gr_X8_put_r2 gr_X8_put_r3)) gwX60) gwX70) gwX80) gwX20) gwX30)
set_option maxRecDepth 20000 in
theorem gT_X8_put : GoodIn lw_tbl (wsV RL 68 RX8 yX8_put wsX8_put) := goodIn_app (gp_s (gp_c (gt_2 _ (gp_64 (gp_16 (gp_16 (gp_4 (gp_1 (gp_1 gp_h))))))) (gp_c (gt_2 _ (gp_64 (gp_16 (gp_16 (gp_4 (gp_1 (gp_1 (gp_1 gp_h)))))))) (gp_c (gt_2 _ (gp_64 (gp_16 (gp_16 (gp_4 (gp_4 gp_h)))))) (gp_c (tw_45) (gp_n))))) (by decide +kernel)) ggT_X8_put
set_option maxRecDepth 20000 in
theorem tw_997 : (Cond.instanceMethod yX9_isFull) ∈ lw_tbl := gt_4 _ (gp_64 (gp_64 (gp_64 (gp_16 (gp_16 (gp_4 (gp_4 (gp_1 gp_h))))))))
set_option maxRecDepth 20000 in
theorem tw_995 : (Cond.methodLink RX9 182 yX9_isFull) ∈ lw_tbl := gt_4 _ (gp_64 (gp_64 (gp_64 (gp_16 (gp_16 (gp_4 (gp_1 (gp_1 (gp_1 gp_h)))))))))
set_option maxRecDepth 20000 in
theorem tw_993 : (Cond.code yX9_lane cX9_lane 3 ( some .int )) ∈ lw_tbl := gt_4 _ (gp_64 (gp_64 (gp_64 (gp_16 (gp_16 (gp_4 (gp_1 gp_h)))))))
set_option maxRecDepth 20000 in
theorem tw_992 : (Cond.instanceMethod yX9_lane) ∈ lw_tbl := gt_4 _ (gp_64 (gp_64 (gp_64 (gp_16 (gp_16 (gp_4 gp_h))))))
set_option maxRecDepth 20000 in
theorem tw_990 : (Cond.methodLink RX9 170 yX9_lane) ∈ lw_tbl := gt_4 _ (gp_64 (gp_64 (gp_64 (gp_16 (gp_16 (gp_1 (gp_1 gp_h)))))))
set_option maxRecDepth 20000 in
theorem tw_989 : (Cond.code yX9_isThing cX9_isThing 2 ( some .boolean )) ∈ lw_tbl := gt_4 _ (gp_64 (gp_64 (gp_64 (gp_16 (gp_16 (gp_1 gp_h))))))
set_option maxRecDepth 20000 in
theorem tw_988 : (Cond.instanceMethod yX9_isThing) ∈ lw_tbl := gt_4 _ (gp_64 (gp_64 (gp_64 (gp_16 (gp_16 gp_h)))))
set_option maxRecDepth 20000 in
theorem tw_986 : (Cond.methodLink RX9 154 yX9_isThing) ∈ lw_tbl := gt_4 _ (gp_64 (gp_64 (gp_64 (gp_16 (gp_4 (gp_4 (gp_4 (gp_1 (gp_1 gp_h)))))))))
set_option maxRecDepth 20000 in
theorem tw_985 : (Cond.code yX9_isField cX9_isField 3 ( some .boolean )) ∈ lw_tbl := gt_4 _ (gp_64 (gp_64 (gp_64 (gp_16 (gp_4 (gp_4 (gp_4 (gp_1 gp_h))))))))
set_option maxRecDepth 20000 in
theorem tw_984 : (Cond.instanceMethod yX9_isField) ∈ lw_tbl := gt_4 _ (gp_64 (gp_64 (gp_64 (gp_16 (gp_4 (gp_4 (gp_4 gp_h)))))))
set_option maxRecDepth 20000 in
theorem tw_982 : (Cond.methodLink RX9 176 yX9_isField) ∈ lw_tbl := gt_4 _ (gp_64 (gp_64 (gp_64 (gp_16 (gp_4 (gp_4 (gp_1 (gp_1 gp_h))))))))
set_option maxRecDepth 20000 in
theorem tw_994 : (Cond.constantLong RX9 180 ( 15 )) ∈ lw_tbl := gt_4 _ (gp_64 (gp_64 (gp_64 (gp_16 (gp_16 (gp_4 (gp_1 (gp_1 gp_h))))))))
set_option maxRecDepth 20000 in
theorem tw_1002 : (Cond.code yX9_becomes cX9_becomes 5 none) ∈ lw_tbl := gt_4 _ (gp_64 (gp_64 (gp_64 (gp_16 (gp_16 (gp_4 (gp_4 (gp_4 (gp_1 (gp_1 gp_h))))))))))
set_option maxRecDepth 20000 in
theorem tw_1001 : (Cond.instanceMethod yX9_becomes) ∈ lw_tbl := gt_4 _ (gp_64 (gp_64 (gp_64 (gp_16 (gp_16 (gp_4 (gp_4 (gp_4 (gp_1 gp_h)))))))))
set_option maxRecDepth 20000 in
theorem tw_999 : (Cond.methodLink RX9 186 yX9_becomes) ∈ lw_tbl := gt_4 _ (gp_64 (gp_64 (gp_64 (gp_16 (gp_16 (gp_4 (gp_4 (gp_1 (gp_1 (gp_1 gp_h))))))))))
set_option maxRecDepth 20000 in
theorem tw_801 : (Cond.fieldLink RX9 173 "StateRecordsModel" "notes" "I") ∈ lw_tbl := gt_4 _ (gp_16 (gp_16 (gp_4 (gp_1 gp_h))))
set_option maxRecDepth 20000 in
theorem tw_998 : (Cond.code yX9_isFull cX9_isFull 1 ( some .boolean )) ∈ lw_tbl := gt_4 _ (gp_64 (gp_64 (gp_64 (gp_16 (gp_16 (gp_4 (gp_4 (gp_1 (gp_1 gp_h)))))))))
set_option maxRecDepth 20000 in
theorem tw_981 : (Cond.code yX9_put cX9_put 5 ( some .int )) ∈ lw_tbl := gt_4 _ (gp_64 (gp_64 (gp_64 (gp_16 (gp_4 (gp_4 (gp_1 gp_h)))))))
set_option maxRecDepth 20000 in
theorem gr_X9_put_r1 : GoodIn lw_tbl wsX9_put_r1 := gp_s (gp_c (tw_779) (gp_c (tw_953) (gp_c (tw_994) (gp_c (tw_780) (gp_c (tw_982) (gp_c (tw_984) (gp_c (gq_25) (gp_c (tw_51) (gp_c (tw_985) (gp_c (tw_782) (gp_c (tw_793) (gp_c (tw_986) (gp_c (tw_988) (gp_c (gq_26) (gp_c (tw_989) (gp_c (tw_792) (gp_c (tw_990) (gp_c (tw_992) (gp_c (gq_27) (gp_c (tw_993) (gp_c (tw_784) (gp_c (tw_995) (gp_c (tw_997) (gp_c (gq_28) (gp_n))))))))))))))))))))))))) (by decide +kernel)
set_option maxRecDepth 20000 in
theorem gr_X9_put_r2 : GoodIn lw_tbl wsX9_put_r2 := gp_s (gp_c (tw_998) (gp_c (tw_799) (gp_c (tw_801) (gp_c (tw_999) (gp_c (tw_1001) (gp_c (gq_29) (gp_c (tw_1002) (gp_c (tw_802) (gp_c (tw_803) (gp_c (tw_805) (gp_c (tw_806) (gp_c (tw_794) (gp_c (tw_804) (gp_n)))))))))))))) (by decide +kernel)
set_option maxRecDepth 20000 in
theorem ggT_X9_put : GoodIn lw_tbl wsX9_put := goodIn_cons (gp_s (gp_c (tw_981) (gp_n)) (by decide +kernel)) (goodIn_app (goodIn_app gr_X9_put_r1 gr_X9_put_r2) gwX90)
set_option maxRecDepth 20000 in
theorem gT_X9_put : GoodIn lw_tbl (wsV RL 72 RX9 yX9_put wsX9_put) := goodIn_app (gp_s (gp_c (gt_4 _ (gp_64 (gp_64 (gp_64 (gp_16 (gp_4 (gp_1 (gp_1 gp_h)))))))) (gp_c (gt_4 _ (gp_64 (gp_64 (gp_64 (gp_16 (gp_4 (gp_1 (gp_1 (gp_1 gp_h))))))))) (gp_c (gt_4 _ (gp_64 (gp_64 (gp_64 (gp_16 (gp_4 (gp_4 gp_h))))))) (gp_c (tw_51) (gp_n))))) (by decide +kernel)) ggT_X9_put
set_option maxRecDepth 20000 in
theorem tw_426 : (Cond.code yX8_refer cX8_refer 5 ( some .int )) ∈ lw_tbl := gt_2 _ (gp_64 (gp_64 (gp_4 (gp_4 (gp_4 (gp_1 (gp_1 gp_h)))))))
set_option maxRecDepth 20000 in
theorem gr_X8_refer_r1 : GoodIn lw_tbl wsX8_refer_r1 := gp_s (gp_c (tw_219) (gp_c (tw_196) (gp_c (tw_272) (gp_c (tw_390) (gp_c (tw_392) (gp_c (gq_1) (gp_c (tw_45) (gp_c (tw_393) (gp_c (tw_394) (gp_c (tw_396) (gp_c (gq_2) (gp_c (tw_397) (gp_c (tw_218) (gp_c (tw_325) (gp_c (tw_326) (gp_c (tw_327) (gp_c (tw_52) (gp_c (tw_328) (gp_c (tw_266) (gp_c (tw_306) (gp_c (tw_307) (gp_c (tw_305) (gp_c (tw_398) (gp_c (tw_399) (gp_n))))))))))))))))))))))))) (by decide +kernel)
set_option maxRecDepth 20000 in
theorem gr_X8_refer_r2 : GoodIn lw_tbl wsX8_refer_r2 := gp_s (gp_c (tw_400) (gp_c (tw_406) (gp_c (tw_408) (gp_c (gq_4) (gp_c (tw_409) (gp_c (tw_226) (gp_c (tw_200) (gp_c (tw_410) (gp_c (tw_411) (gp_c (tw_412) (gp_c (tw_47) (gp_c (tw_413) (gp_c (tw_152) (gp_c (tw_414) (gp_c (tw_415) (gp_c (tw_416) (gp_c (tw_417) (gp_c (tw_199) (gp_c (tw_203) (gp_c (tw_418) (gp_c (tw_420) (gp_c (gq_5) (gp_c (tw_421) (gp_c (tw_156) (gp_n))))))))))))))))))))))))) (by decide +kernel)
set_option maxRecDepth 20000 in
theorem gr_X8_refer_r3 : GoodIn lw_tbl wsX8_refer_r3 := gp_s (gp_c (tw_151) (gp_c (tw_135) (gp_c (tw_137) (gp_c (tw_139) (gp_c (tw_141) (gp_c (tw_422) (gp_n))))))) (by decide +kernel)
set_option maxRecDepth 20000 in
theorem ggT_X8_refer : GoodIn lw_tbl wsX8_refer := goodIn_cons (gp_s (gp_c (tw_426) (gp_n)) (by decide +kernel)) (goodIn_app (goodIn_app (goodIn_app (goodIn_app (goodIn_app (goodIn_app gr_X8_refer_r1 (goodIn_app gr_X8_refer_r2 gr_X8_refer_r3)) gwX80) gwX60) gwX70) gwX20) gwX30)
set_option maxRecDepth 20000 in
theorem gT_X8_refer : GoodIn lw_tbl (wsV RL 73 RX8 yX8_refer wsX8_refer) := goodIn_app (gp_s (gp_c (gt_2 _ (gp_64 (gp_64 (gp_4 (gp_4 (gp_1 (gp_1 (gp_1 gp_h)))))))) (gp_c (gt_2 _ (gp_64 (gp_64 (gp_4 (gp_4 (gp_4 gp_h)))))) (gp_c (gt_2 _ (gp_64 (gp_64 (gp_4 (gp_4 (gp_4 (gp_1 gp_h))))))) (gp_c (tw_45) (gp_n))))) (by decide +kernel)) ggT_X8_refer
set_option maxRecDepth 20000 in
theorem tw_1006 : (Cond.code yX9_refer cX9_refer 4 ( some .int )) ∈ lw_tbl := gt_5 _ (gp_1 (gp_1 gp_h))
set_option maxRecDepth 20000 in
theorem gr_X9_refer_r1 : GoodIn lw_tbl wsX9_refer_r1 := gp_s (gp_c (tw_779) (gp_c (tw_982) (gp_c (tw_984) (gp_c (gq_25) (gp_c (tw_51) (gp_c (tw_985) (gp_c (tw_782) (gp_c (tw_793) (gp_c (tw_986) (gp_c (tw_988) (gp_c (gq_26) (gp_c (tw_989) (gp_c (tw_792) (gp_c (tw_990) (gp_c (tw_992) (gp_c (gq_27) (gp_c (tw_993) (gp_c (tw_784) (gp_c (tw_995) (gp_c (tw_997) (gp_c (gq_28) (gp_c (tw_998) (gp_c (tw_799) (gp_c (tw_801) (gp_n))))))))))))))))))))))))) (by decide +kernel)
set_option maxRecDepth 20000 in
theorem gr_X9_refer_r2 : GoodIn lw_tbl wsX9_refer_r2 := gp_s (gp_c (tw_999) (gp_c (tw_1001) (gp_c (gq_29) (gp_c (tw_1002) (gp_c (tw_802) (gp_c (tw_803) (gp_c (tw_805) (gp_c (tw_806) (gp_c (tw_794) (gp_c (tw_804) (gp_n))))))))))) (by decide +kernel)
set_option maxRecDepth 20000 in
theorem ggT_X9_refer : GoodIn lw_tbl wsX9_refer := goodIn_cons (gp_s (gp_c (tw_1006) (gp_n)) (by decide +kernel)) (goodIn_app (goodIn_app gr_X9_refer_r1 gr_X9_refer_r2) gwX90)
set_option maxRecDepth 20000 in
theorem gT_X9_refer : GoodIn lw_tbl (wsV RL 77 RX9 yX9_refer wsX9_refer) := goodIn_app (gp_s (gp_c (gt_4 _ (gp_64 (gp_64 (gp_64 (gp_16 (gp_16 (gp_4 (gp_4 (gp_4 (gp_1 (gp_1 (gp_1 gp_h)))))))))))) (gp_c (gt_5 _ (gp_h)) (gp_c (gt_5 _ (gp_1 gp_h)) (gp_c (tw_51) (gp_n))))) (by decide +kernel)) ggT_X9_refer
set_option maxRecDepth 20000 in
theorem tw_54 : (Cond.initialized RX5) ∈ lw_tbl := gt_1 _ (gp_4 (gp_4 (gp_1 (gp_1 gp_h))))
set_option maxRecDepth 20000 in
theorem tw_434 : (Cond.instantiable RX5 2) ∈ lw_tbl := gt_2 _ (gp_64 (gp_64 (gp_16 (gp_4 (gp_1 (gp_1 gp_h))))))
set_option maxRecDepth 20000 in
theorem tw_204 : (Cond.fieldLink RX8 158 "StateRecords$Thing" "rows" "[LStateRecords$Row;") ∈ lw_tbl := gt_1 _ (gp_64 (gp_64 (gp_16 (gp_16 gp_h))))
set_option maxRecDepth 20000 in
theorem tw_454 : (Cond.code yX8_changeRow cX8_changeRow 4 ( some .int )) ∈ lw_tbl := gt_2 _ (gp_64 (gp_64 (gp_16 (gp_16 (gp_4 (gp_4 (gp_1 (gp_1 gp_h))))))))
set_option maxRecDepth 20000 in
theorem tw_453 : (Cond.instanceMethod yX8_changeRow) ∈ lw_tbl := gt_2 _ (gp_64 (gp_64 (gp_16 (gp_16 (gp_4 (gp_4 (gp_1 gp_h)))))))
set_option maxRecDepth 20000 in
theorem tw_451 : (Cond.methodLink RX8 154 yX8_changeRow) ∈ lw_tbl := gt_2 _ (gp_64 (gp_64 (gp_16 (gp_16 (gp_4 (gp_1 (gp_1 (gp_1 gp_h))))))))
set_option maxRecDepth 20000 in
theorem tw_439 : (Cond.fieldLink RX5 7 "StateRecords$Row" "items" "[J") ∈ lw_tbl := gt_2 _ (gp_64 (gp_64 (gp_16 (gp_4 (gp_4 (gp_1 (gp_1 (gp_1 gp_h))))))))
set_option maxRecDepth 20000 in
theorem tw_438 : (Cond.methodLink RX5 1 objectInit) ∈ lw_tbl := gt_2 _ (gp_64 (gp_64 (gp_16 (gp_4 (gp_4 (gp_1 (gp_1 gp_h)))))))
set_option maxRecDepth 20000 in
theorem tw_437 : (Cond.code yX5_init cX5_init 2 none) ∈ lw_tbl := gt_2 _ (gp_64 (gp_64 (gp_16 (gp_4 (gp_4 (gp_1 gp_h))))))
set_option maxRecDepth 20000 in
theorem tw_436 : (Cond.instanceMethod yX5_init) ∈ lw_tbl := gt_2 _ (gp_64 (gp_64 (gp_16 (gp_4 (gp_4 gp_h)))))
set_option maxRecDepth 20000 in
theorem tw_435 : (Cond.methodLink RX8 153 yX5_init) ∈ lw_tbl := gt_2 _ (gp_64 (gp_64 (gp_16 (gp_4 (gp_1 (gp_1 (gp_1 gp_h)))))))
set_option maxRecDepth 20000 in
theorem tw_433 : (Cond.code yX8_isRowLane cX8_isRowLane 1 ( some .boolean )) ∈ lw_tbl := gt_2 _ (gp_64 (gp_64 (gp_16 (gp_4 (gp_1 gp_h)))))
set_option maxRecDepth 20000 in
theorem tw_432 : (Cond.static yX8_isRowLane) ∈ lw_tbl := gt_2 _ (gp_64 (gp_64 (gp_16 (gp_4 gp_h))))
set_option maxRecDepth 20000 in
theorem tw_431 : (Cond.methodLink RX8 150 yX8_isRowLane) ∈ lw_tbl := gt_2 _ (gp_64 (gp_64 (gp_16 (gp_1 (gp_1 (gp_1 gp_h))))))
set_option maxRecDepth 20000 in
theorem tw_430 : (Cond.code yX8_row cX8_row 5 ( some .int )) ∈ lw_tbl := gt_2 _ (gp_64 (gp_64 (gp_16 (gp_1 (gp_1 gp_h)))))
set_option maxRecDepth 20000 in
theorem gr_X8_row_r1 : GoodIn lw_tbl wsX8_row_r1 := gp_s (gp_c (tw_196) (gp_c (tw_272) (gp_c (tw_119) (gp_c (tw_434) (gp_c (tw_54) (gp_c (tw_390) (gp_c (tw_392) (gp_c (gq_1) (gp_c (tw_45) (gp_c (tw_393) (gp_c (tw_394) (gp_c (tw_396) (gp_c (gq_2) (gp_c (tw_397) (gp_c (tw_219) (gp_c (tw_218) (gp_c (tw_325) (gp_c (tw_326) (gp_c (tw_327) (gp_c (tw_52) (gp_c (tw_328) (gp_c (tw_266) (gp_c (tw_306) (gp_c (tw_307) (gp_n))))))))))))))))))))))))) (by decide +kernel)
set_option maxRecDepth 20000 in
theorem gr_X8_row_r2 : GoodIn lw_tbl wsX8_row_r2 := gp_s (gp_c (tw_431) (gp_c (tw_432) (gp_c (tw_433) (gp_c (tw_398) (gp_c (tw_399) (gp_c (tw_400) (gp_c (tw_435) (gp_c (tw_436) (gp_c (tw_437) (gp_c (tw_438) (gp_c (tw_68) (gp_c (tw_69) (gp_c (tw_118) (gp_c (tw_439) (gp_c (tw_451) (gp_c (tw_453) (gp_c (gq_6) (gp_c (tw_454) (gp_c (tw_226) (gp_c (tw_204) (gp_c (tw_410) (gp_c (tw_411) (gp_c (tw_412) (gp_c (tw_47) (gp_n))))))))))))))))))))))))) (by decide +kernel)
set_option maxRecDepth 20000 in
theorem gr_X8_row_r3 : GoodIn lw_tbl wsX8_row_r3 := gp_s (gp_c (tw_413) (gp_c (tw_152) (gp_c (tw_414) (gp_c (tw_415) (gp_c (tw_416) (gp_c (tw_417) (gp_c (tw_199) (gp_c (tw_203) (gp_c (tw_418) (gp_c (tw_420) (gp_c (gq_5) (gp_c (tw_421) (gp_c (tw_156) (gp_c (tw_151) (gp_c (tw_135) (gp_c (tw_137) (gp_c (tw_139) (gp_c (tw_141) (gp_c (tw_422) (gp_n)))))))))))))))))))) (by decide +kernel)
set_option maxRecDepth 20000 in
theorem ggT_X8_row : GoodIn lw_tbl wsX8_row := goodIn_cons (gp_s (gp_c (tw_430) (gp_n)) (by decide +kernel)) (goodIn_app (goodIn_app (goodIn_app (goodIn_app (goodIn_app (goodIn_app (goodIn_app gr_X8_row_r1 (goodIn_app gr_X8_row_r2 gr_X8_row_r3)) gwX60) gwX70) gwX50) gwX80) gwX20) gwX30)
set_option maxRecDepth 20000 in
theorem gT_X8_row : GoodIn lw_tbl (wsV RL 78 RX8 yX8_row wsX8_row) := goodIn_app (gp_s (gp_c (gt_2 _ (gp_64 (gp_64 (gp_4 (gp_4 (gp_4 (gp_1 (gp_1 (gp_1 gp_h))))))))) (gp_c (gt_2 _ (gp_64 (gp_64 (gp_16 gp_h)))) (gp_c (gt_2 _ (gp_64 (gp_64 (gp_16 (gp_1 gp_h))))) (gp_c (tw_45) (gp_n))))) (by decide +kernel)) ggT_X8_row
set_option maxRecDepth 20000 in
theorem tw_1014 : (Cond.code yX9_newRow cX9_newRow 5 ( some .int )) ∈ lw_tbl := gt_5 _ (gp_4 (gp_4 (gp_1 (gp_1 gp_h))))
set_option maxRecDepth 20000 in
theorem tw_1013 : (Cond.instanceMethod yX9_newRow) ∈ lw_tbl := gt_5 _ (gp_4 (gp_4 (gp_1 gp_h)))
set_option maxRecDepth 20000 in
theorem tw_1011 : (Cond.methodLink RX9 190 yX9_newRow) ∈ lw_tbl := gt_5 _ (gp_4 (gp_1 (gp_1 (gp_1 gp_h))))
set_option maxRecDepth 20000 in
theorem tw_1010 : (Cond.code yX9_row cX9_row 4 ( some .int )) ∈ lw_tbl := gt_5 _ (gp_4 (gp_1 (gp_1 gp_h)))
set_option maxRecDepth 20000 in
theorem gr_X9_row_r1 : GoodIn lw_tbl wsX9_row_r1 := gp_s (gp_c (tw_779) (gp_c (tw_953) (gp_c (tw_982) (gp_c (tw_984) (gp_c (gq_25) (gp_c (tw_51) (gp_c (tw_985) (gp_c (tw_782) (gp_c (tw_793) (gp_c (tw_986) (gp_c (tw_988) (gp_c (gq_26) (gp_c (tw_989) (gp_c (tw_792) (gp_c (tw_990) (gp_c (tw_992) (gp_c (gq_27) (gp_c (tw_993) (gp_c (tw_784) (gp_c (tw_995) (gp_c (tw_997) (gp_c (gq_28) (gp_c (tw_998) (gp_c (tw_799) (gp_n))))))))))))))))))))))))) (by decide +kernel)
set_option maxRecDepth 20000 in
theorem gr_X9_row_r2 : GoodIn lw_tbl wsX9_row_r2 := gp_s (gp_c (tw_801) (gp_c (tw_1011) (gp_c (tw_1013) (gp_c (gq_30) (gp_c (tw_1014) (gp_c (tw_798) (gp_c (tw_794) (gp_c (tw_804) (gp_c (tw_795) (gp_c (tw_796) (gp_c (tw_797) (gp_c (tw_999) (gp_c (tw_1001) (gp_c (gq_29) (gp_c (tw_1002) (gp_c (tw_802) (gp_c (tw_803) (gp_c (tw_805) (gp_c (tw_806) (gp_n)))))))))))))))))))) (by decide +kernel)
set_option maxRecDepth 20000 in
theorem ggT_X9_row : GoodIn lw_tbl wsX9_row := goodIn_cons (gp_s (gp_c (tw_1010) (gp_n)) (by decide +kernel)) (goodIn_app (goodIn_app gr_X9_row_r1 gr_X9_row_r2) gwX90)
set_option maxRecDepth 20000 in
theorem gT_X9_row : GoodIn lw_tbl (wsV RL 81 RX9 yX9_row wsX9_row) := goodIn_app (gp_s (gp_c (gt_5 _ (gp_1 (gp_1 (gp_1 gp_h)))) (gp_c (gt_5 _ (gp_4 gp_h)) (gp_c (gt_5 _ (gp_4 (gp_1 gp_h))) (gp_c (tw_51) (gp_n))))) (by decide +kernel)) ggT_X9_row
set_option maxRecDepth 20000 in
theorem tw_458 : (Cond.code yX8_share cX8_share 8 ( some .int )) ∈ lw_tbl := gt_2 _ (gp_64 (gp_64 (gp_16 (gp_16 (gp_4 (gp_4 (gp_4 (gp_1 (gp_1 gp_h)))))))))
set_option maxRecDepth 20000 in
theorem gr_X8_share_r1 : GoodIn lw_tbl wsX8_share_r1 := gp_s (gp_c (tw_196) (gp_c (tw_272) (gp_c (tw_204) (gp_c (tw_390) (gp_c (tw_392) (gp_c (gq_1) (gp_c (tw_45) (gp_c (tw_393) (gp_c (tw_394) (gp_c (tw_396) (gp_c (gq_2) (gp_c (tw_397) (gp_c (tw_219) (gp_c (tw_218) (gp_c (tw_325) (gp_c (tw_326) (gp_c (tw_327) (gp_c (tw_52) (gp_c (tw_328) (gp_c (tw_266) (gp_c (tw_306) (gp_c (tw_307) (gp_c (tw_431) (gp_c (tw_432) (gp_n))))))))))))))))))))))))) (by decide +kernel)
set_option maxRecDepth 20000 in
theorem gr_X8_share_r2 : GoodIn lw_tbl wsX8_share_r2 := gp_s (gp_c (tw_433) (gp_c (tw_398) (gp_c (tw_399) (gp_c (tw_400) (gp_c (tw_451) (gp_c (tw_453) (gp_c (gq_6) (gp_c (tw_454) (gp_c (tw_226) (gp_c (tw_410) (gp_c (tw_411) (gp_c (tw_412) (gp_c (tw_47) (gp_c (tw_413) (gp_c (tw_152) (gp_c (tw_414) (gp_c (tw_415) (gp_c (tw_416) (gp_c (tw_417) (gp_c (tw_199) (gp_c (tw_203) (gp_c (tw_418) (gp_c (tw_420) (gp_c (gq_5) (gp_n))))))))))))))))))))))))) (by decide +kernel)
set_option maxRecDepth 20000 in
theorem gr_X8_share_r3 : GoodIn lw_tbl wsX8_share_r3 := gp_s (gp_c (tw_421) (gp_c (tw_156) (gp_c (tw_151) (gp_c (tw_135) (gp_c (tw_137) (gp_c (tw_139) (gp_c (tw_141) (gp_c (tw_422) (gp_n))))))))) (by decide +kernel)
set_option maxRecDepth 20000 in
theorem ggT_X8_share : GoodIn lw_tbl wsX8_share := goodIn_cons (gp_s (gp_c (tw_458) (gp_n)) (by decide +kernel)) (goodIn_app (goodIn_app (goodIn_app (goodIn_app (goodIn_app (goodIn_app gr_X8_share_r1 (goodIn_app gr_X8_share_r2 gr_X8_share_r3)) gwX60) gwX70) gwX80) gwX20) gwX30)
set_option maxRecDepth 20000 in
theorem gT_X8_share : GoodIn lw_tbl (wsV RL 82 RX8 yX8_share wsX8_share) := goodIn_app (gp_s (gp_c (gt_2 _ (gp_64 (gp_64 (gp_16 (gp_16 (gp_4 (gp_4 (gp_1 (gp_1 (gp_1 gp_h)))))))))) (gp_c (gt_2 _ (gp_64 (gp_64 (gp_16 (gp_16 (gp_4 (gp_4 (gp_4 gp_h)))))))) (gp_c (gt_2 _ (gp_64 (gp_64 (gp_16 (gp_16 (gp_4 (gp_4 (gp_4 (gp_1 gp_h))))))))) (gp_c (tw_45) (gp_n))))) (by decide +kernel)) ggT_X8_share
set_option maxRecDepth 20000 in
theorem tw_1018 : (Cond.code yX9_share cX9_share 5 ( some .int )) ∈ lw_tbl := gt_5 _ (gp_4 (gp_4 (gp_4 (gp_1 (gp_1 gp_h)))))
set_option maxRecDepth 20000 in
theorem gr_X9_share_r1 : GoodIn lw_tbl wsX9_share_r1 := gp_s (gp_c (tw_779) (gp_c (tw_794) (gp_c (tw_982) (gp_c (tw_984) (gp_c (gq_25) (gp_c (tw_51) (gp_c (tw_985) (gp_c (tw_782) (gp_c (tw_793) (gp_c (tw_986) (gp_c (tw_988) (gp_c (gq_26) (gp_c (tw_989) (gp_c (tw_792) (gp_c (tw_990) (gp_c (tw_992) (gp_c (gq_27) (gp_c (tw_993) (gp_c (tw_784) (gp_c (tw_995) (gp_c (tw_997) (gp_c (gq_28) (gp_c (tw_998) (gp_c (tw_799) (gp_n))))))))))))))))))))))))) (by decide +kernel)
set_option maxRecDepth 20000 in
theorem gr_X9_share_r2 : GoodIn lw_tbl wsX9_share_r2 := gp_s (gp_c (tw_801) (gp_c (tw_999) (gp_c (tw_1001) (gp_c (gq_29) (gp_c (tw_1002) (gp_c (tw_802) (gp_c (tw_803) (gp_c (tw_805) (gp_c (tw_806) (gp_c (tw_804) (gp_n))))))))))) (by decide +kernel)
set_option maxRecDepth 20000 in
theorem ggT_X9_share : GoodIn lw_tbl wsX9_share := goodIn_cons (gp_s (gp_c (tw_1018) (gp_n)) (by decide +kernel)) (goodIn_app (goodIn_app gr_X9_share_r1 gr_X9_share_r2) gwX90)
set_option maxRecDepth 20000 in
theorem gT_X9_share : GoodIn lw_tbl (wsV RL 86 RX9 yX9_share wsX9_share) := goodIn_app (gp_s (gp_c (gt_5 _ (gp_4 (gp_4 (gp_1 (gp_1 (gp_1 gp_h)))))) (gp_c (gt_5 _ (gp_4 (gp_4 (gp_4 gp_h)))) (gp_c (gt_5 _ (gp_4 (gp_4 (gp_4 (gp_1 gp_h))))) (gp_c (tw_51) (gp_n))))) (by decide +kernel)) ggT_X9_share
set_option maxRecDepth 20000 in
theorem tw_443 : (Cond.fieldLink RX8 161 "StateRecords$Row" "items" "[J") ∈ lw_tbl := gt_2 _ (gp_64 (gp_64 (gp_16 (gp_4 (gp_4 (gp_4 (gp_1 (gp_1 (gp_1 gp_h)))))))))
set_option maxRecDepth 20000 in
theorem tw_442 : (Cond.fieldLink RX2 40 "StateRecords$Row" "items" "[J") ∈ lw_tbl := gt_2 _ (gp_64 (gp_64 (gp_16 (gp_4 (gp_4 (gp_4 (gp_1 (gp_1 gp_h))))))))
set_option maxRecDepth 20000 in
theorem tw_466 : (Cond.code yX2_noteItem cX2_noteItem 3 none) ∈ lw_tbl := gt_2 _ (gp_64 (gp_64 (gp_16 (gp_16 (gp_16 (gp_4 (gp_1 (gp_1 gp_h))))))))
set_option maxRecDepth 20000 in
theorem tw_465 : (Cond.selects RX2 yX2_noteItem yX2_noteItem) ∈ lw_tbl := gt_2 _ (gp_64 (gp_64 (gp_16 (gp_16 (gp_16 (gp_4 (gp_1 gp_h)))))))
set_option maxRecDepth 20000 in
theorem tw_464 : (Cond.instanceMethod yX2_noteItem) ∈ lw_tbl := gt_2 _ (gp_64 (gp_64 (gp_16 (gp_16 (gp_16 (gp_4 gp_h))))))
set_option maxRecDepth 20000 in
theorem tw_463 : (Cond.methodLink RX8 169 yX2_noteItem) ∈ lw_tbl := gt_2 _ (gp_64 (gp_64 (gp_16 (gp_16 (gp_16 (gp_1 (gp_1 (gp_1 gp_h))))))))
set_option maxRecDepth 20000 in
theorem tw_469 : (Cond.code yX8_lowestBits cX8_lowestBits 3 ( some .long )) ∈ lw_tbl := gt_2 _ (gp_64 (gp_64 (gp_16 (gp_16 (gp_16 (gp_4 (gp_4 (gp_1 gp_h))))))))
set_option maxRecDepth 20000 in
theorem tw_468 : (Cond.static yX8_lowestBits) ∈ lw_tbl := gt_2 _ (gp_64 (gp_64 (gp_16 (gp_16 (gp_16 (gp_4 (gp_4 gp_h)))))))
set_option maxRecDepth 20000 in
theorem tw_467 : (Cond.methodLink RX8 173 yX8_lowestBits) ∈ lw_tbl := gt_2 _ (gp_64 (gp_64 (gp_16 (gp_16 (gp_16 (gp_4 (gp_1 (gp_1 (gp_1 gp_h)))))))))
set_option maxRecDepth 20000 in
theorem tw_462 : (Cond.code yX8_item cX8_item 9 ( some .int )) ∈ lw_tbl := gt_2 _ (gp_64 (gp_64 (gp_16 (gp_16 (gp_16 (gp_1 (gp_1 gp_h)))))))
set_option maxRecDepth 20000 in
theorem gr_X8_item_r1 : GoodIn lw_tbl wsX8_item_r1 := gp_s (gp_c (tw_196) (gp_c (tw_272) (gp_c (tw_204) (gp_c (tw_443) (gp_c (tw_226) (gp_c (tw_390) (gp_c (tw_392) (gp_c (gq_1) (gp_c (tw_45) (gp_c (tw_393) (gp_c (tw_394) (gp_c (tw_396) (gp_c (gq_2) (gp_c (tw_397) (gp_c (tw_219) (gp_c (tw_218) (gp_c (tw_325) (gp_c (tw_326) (gp_c (tw_327) (gp_c (tw_52) (gp_c (tw_328) (gp_c (tw_266) (gp_c (tw_306) (gp_c (tw_307) (gp_n))))))))))))))))))))))))) (by decide +kernel)
set_option maxRecDepth 20000 in
theorem gr_X8_item_r2 : GoodIn lw_tbl wsX8_item_r2 := gp_s (gp_c (tw_431) (gp_c (tw_432) (gp_c (tw_433) (gp_c (tw_398) (gp_c (tw_399) (gp_c (tw_400) (gp_c (tw_305) (gp_c (tw_410) (gp_c (tw_411) (gp_c (tw_412) (gp_c (tw_47) (gp_c (tw_413) (gp_c (tw_152) (gp_c (tw_463) (gp_c (tw_464) (gp_c (tw_465) (gp_c (tw_466) (gp_c (tw_442) (gp_c (tw_418) (gp_c (tw_420) (gp_c (gq_5) (gp_c (tw_421) (gp_c (tw_156) (gp_c (tw_151) (gp_n))))))))))))))))))))))))) (by decide +kernel)
set_option maxRecDepth 20000 in
theorem gr_X8_item_r3 : GoodIn lw_tbl wsX8_item_r3 := gp_s (gp_c (tw_135) (gp_c (tw_137) (gp_c (tw_139) (gp_c (tw_141) (gp_c (tw_422) (gp_c (tw_467) (gp_c (tw_468) (gp_c (tw_469) (gp_n))))))))) (by decide +kernel)
set_option maxRecDepth 20000 in
theorem ggT_X8_item : GoodIn lw_tbl wsX8_item := goodIn_cons (gp_s (gp_c (tw_462) (gp_n)) (by decide +kernel)) (goodIn_app (goodIn_app (goodIn_app (goodIn_app (goodIn_app (goodIn_app (goodIn_app gr_X8_item_r1 (goodIn_app gr_X8_item_r2 gr_X8_item_r3)) gwX60) gwX70) gwX50) gwX80) gwX20) gwX30)
set_option maxRecDepth 20000 in
theorem gT_X8_item : GoodIn lw_tbl (wsV RL 87 RX8 yX8_item wsX8_item) := goodIn_app (gp_s (gp_c (gt_2 _ (gp_64 (gp_64 (gp_16 (gp_16 (gp_4 (gp_4 (gp_4 (gp_1 (gp_1 (gp_1 gp_h))))))))))) (gp_c (gt_2 _ (gp_64 (gp_64 (gp_16 (gp_16 (gp_16 gp_h)))))) (gp_c (gt_2 _ (gp_64 (gp_64 (gp_16 (gp_16 (gp_16 (gp_1 gp_h))))))) (gp_c (tw_45) (gp_n))))) (by decide +kernel)) ggT_X8_item
set_option maxRecDepth 20000 in
theorem tw_1025 : (Cond.code yX9_cut cX9_cut 3 ( some .long )) ∈ lw_tbl := gt_5 _ (gp_16 (gp_4 (gp_1 gp_h)))
set_option maxRecDepth 20000 in
theorem tw_1024 : (Cond.static yX9_cut) ∈ lw_tbl := gt_5 _ (gp_16 (gp_4 gp_h))
set_option maxRecDepth 20000 in
theorem tw_1023 : (Cond.methodLink RX9 193 yX9_cut) ∈ lw_tbl := gt_5 _ (gp_16 (gp_1 (gp_1 (gp_1 gp_h))))
set_option maxRecDepth 20000 in
theorem tw_1022 : (Cond.code yX9_item cX9_item 7 ( some .int )) ∈ lw_tbl := gt_5 _ (gp_16 (gp_1 (gp_1 gp_h)))
set_option maxRecDepth 20000 in
theorem gr_X9_item_r1 : GoodIn lw_tbl wsX9_item_r1 := gp_s (gp_c (tw_779) (gp_c (tw_794) (gp_c (tw_796) (gp_c (tw_799) (gp_c (tw_804) (gp_c (tw_801) (gp_c (tw_805) (gp_c (tw_806) (gp_c (tw_797) (gp_c (tw_795) (gp_c (tw_982) (gp_c (tw_984) (gp_c (gq_25) (gp_c (tw_51) (gp_c (tw_985) (gp_c (tw_782) (gp_c (tw_793) (gp_c (tw_986) (gp_c (tw_988) (gp_c (gq_26) (gp_c (tw_989) (gp_c (tw_792) (gp_c (tw_990) (gp_c (tw_992) (gp_n))))))))))))))))))))))))) (by decide +kernel)
set_option maxRecDepth 20000 in
theorem gr_X9_item_r2 : GoodIn lw_tbl wsX9_item_r2 := gp_s (gp_c (gq_27) (gp_c (tw_993) (gp_c (tw_784) (gp_c (tw_995) (gp_c (tw_997) (gp_c (gq_28) (gp_c (tw_998) (gp_c (tw_1023) (gp_c (tw_1024) (gp_c (tw_1025) (gp_n))))))))))) (by decide +kernel)
set_option maxRecDepth 20000 in
theorem ggT_X9_item : GoodIn lw_tbl wsX9_item := goodIn_cons (gp_s (gp_c (tw_1022) (gp_n)) (by decide +kernel)) (goodIn_app (goodIn_app gr_X9_item_r1 gr_X9_item_r2) gwX90)
set_option maxRecDepth 20000 in
theorem gT_X9_item : GoodIn lw_tbl (wsV RL 90 RX9 yX9_item wsX9_item) := goodIn_app (gp_s (gp_c (gt_5 _ (gp_4 (gp_4 (gp_4 (gp_1 (gp_1 (gp_1 gp_h))))))) (gp_c (gt_5 _ (gp_16 gp_h)) (gp_c (gt_5 _ (gp_16 (gp_1 gp_h))) (gp_c (tw_51) (gp_n))))) (by decide +kernel)) ggT_X9_item
set_option maxRecDepth 20000 in
theorem tw_59 : (Cond.initialized "java/lang/IndexOutOfBoundsException") ∈ lw_tbl := gt_1 _ (gp_4 (gp_4 (gp_4 (gp_1 (gp_1 (gp_1 gp_h))))))
set_option maxRecDepth 20000 in
theorem tw_731 : (Cond.classLink RX8 188 "java/lang/IndexOutOfBoundsException") ∈ lw_tbl := gt_3 _ (gp_64 (gp_64 (gp_64 (gp_4 (gp_4 (gp_4 (gp_1 (gp_1 (gp_1 gp_h)))))))))
set_option maxRecDepth 20000 in
theorem tw_58 : (Cond.initialized "java/lang/IllegalArgumentException") ∈ lw_tbl := gt_1 _ (gp_4 (gp_4 (gp_4 (gp_1 (gp_1 gp_h)))))
set_option maxRecDepth 20000 in
theorem tw_663 : (Cond.classLink RX8 181 "java/lang/IllegalArgumentException") ∈ lw_tbl := gt_3 _ (gp_64 (gp_64 (gp_4 (gp_4 (gp_1 (gp_1 (gp_1 gp_h)))))))
set_option maxRecDepth 20000 in
theorem tw_662 : (Cond.code yX8_at cX8_at 5 ( some .long )) ∈ lw_tbl := gt_3 _ (gp_64 (gp_64 (gp_4 (gp_4 (gp_1 (gp_1 gp_h))))))
set_option maxRecDepth 20000 in
theorem tw_661 : (Cond.selects RX8 yX8_at yX8_at) ∈ lw_tbl := gt_3 _ (gp_64 (gp_64 (gp_4 (gp_4 (gp_1 gp_h)))))
set_option maxRecDepth 20000 in
theorem tw_660 : (Cond.instanceMethod yX8_at) ∈ lw_tbl := gt_3 _ (gp_64 (gp_64 (gp_4 (gp_4 gp_h))))
set_option maxRecDepth 20000 in
theorem tw_659 : (Cond.methodLink RL 7 yX8_at) ∈ lw_tbl := gt_3 _ (gp_64 (gp_64 (gp_4 (gp_1 (gp_1 (gp_1 gp_h))))))
set_option maxRecDepth 20000 in
theorem tw_658 : (Cond.classLink RL 15 "java/lang/IndexOutOfBoundsException") ∈ lw_tbl := gt_3 _ (gp_64 (gp_64 (gp_4 (gp_1 (gp_1 gp_h)))))
set_option maxRecDepth 20000 in
theorem tw_657 : (Cond.classLink RL 13 "java/lang/IllegalArgumentException") ∈ lw_tbl := gt_3 _ (gp_64 (gp_64 (gp_4 (gp_1 gp_h))))
set_option maxRecDepth 20000 in
theorem tw_656 : (Cond.codeWith yL_at cL_at 5 ( some .int ) [ ( 0 , 9 , 12 , 13 ) , ( 0 , 9 , 16 , 15 ) ]) ∈ lw_tbl := gt_3 _ (gp_64 (gp_64 (gp_4 gp_h)))
set_option maxRecDepth 20000 in
theorem gr_L_at_r1 : GoodIn lw_tbl wsL_at_r1 := gp_s (gp_c (tw_657) (gp_c (tw_658) (gp_c (tw_659) (gp_c (tw_660) (gp_c (tw_661) (gp_c (tw_45) (gp_c (tw_662) (gp_c (tw_663) (gp_c (tw_58) (gp_c (tw_731) (gp_c (tw_59) (gp_c (tw_196) (gp_c (tw_272) (gp_c (tw_200) (gp_c (tw_204) (gp_c (tw_312) (gp_c (tw_443) (gp_c (tw_394) (gp_c (tw_396) (gp_c (gq_2) (gp_c (tw_397) (gp_c (tw_219) (gp_c (tw_218) (gp_c (tw_325) (gp_n))))))))))))))))))))))))) (by decide +kernel)
set_option maxRecDepth 20000 in
theorem gr_L_at_r2 : GoodIn lw_tbl wsL_at_r2 := gp_s (gp_c (tw_326) (gp_c (tw_327) (gp_c (tw_52) (gp_c (tw_328) (gp_c (tw_266) (gp_c (tw_306) (gp_c (tw_307) (gp_c (tw_431) (gp_c (tw_432) (gp_c (tw_433) (gp_n))))))))))) (by decide +kernel)
set_option maxRecDepth 20000 in
theorem ggT_L_at : GoodIn lw_tbl wsL_at := goodIn_cons (gp_s (gp_c (tw_656) (gp_n)) (by decide +kernel)) (goodIn_app (goodIn_app (goodIn_app (goodIn_app (goodIn_app (goodIn_app (goodIn_app gr_L_at_r1 gr_L_at_r2) gwX60) gwX70) gwX50) gwX80) gvx0) gvx1)
set_option maxRecDepth 20000 in
theorem gT_L_at : GoodIn lw_tbl (va_wsS RL 91 yL_at wsL_at) := goodIn_app (gp_s (gp_c (gt_3 _ (gp_64 (gp_64 (gp_1 (gp_1 gp_h))))) (gp_c (gt_3 _ (gp_64 (gp_64 (gp_1 (gp_1 (gp_1 gp_h)))))) (gp_c (gt_1 _ (gp_h)) (gp_n)))) (by decide +kernel)) ggT_L_at
set_option maxRecDepth 20000 in
theorem tw_1029 : (Cond.code yX9_at cX9_at 5 ( some .long )) ∈ lw_tbl := gt_5 _ (gp_16 (gp_4 (gp_4 (gp_1 gp_h))))
set_option maxRecDepth 20000 in
theorem ggT_X9_at : GoodIn lw_tbl wsX9_at := goodIn_cons (gp_s (gp_c (tw_1029) (gp_n)) (by decide +kernel)) (goodIn_app (gp_s (gp_c (tw_779) (gp_c (tw_794) (gp_c (tw_796) (gp_c (tw_986) (gp_c (tw_988) (gp_c (gq_26) (gp_c (tw_51) (gp_c (tw_989) (gp_c (tw_792) (gp_c (tw_982) (gp_c (tw_984) (gp_c (gq_25) (gp_c (tw_985) (gp_c (tw_782) (gp_c (tw_793) (gp_c (tw_990) (gp_c (tw_992) (gp_c (gq_27) (gp_c (tw_993) (gp_c (tw_784) (gp_n))))))))))))))))))))) (by decide +kernel)) gwX90)
set_option maxRecDepth 20000 in
theorem gT_X9_at : GoodIn lw_tbl (wsV RL 96 RX9 yX9_at wsX9_at) := goodIn_app (gp_s (gp_c (gt_5 _ (gp_16 (gp_4 (gp_1 (gp_1 gp_h))))) (gp_c (gt_5 _ (gp_16 (gp_4 (gp_1 (gp_1 (gp_1 gp_h)))))) (gp_c (gt_5 _ (gp_16 (gp_4 (gp_4 gp_h)))) (gp_c (tw_51) (gp_n))))) (by decide +kernel)) ggT_X9_at
set_option maxRecDepth 20000 in
theorem tw_60 : (Cond.initialized "java/lang/IllegalStateException") ∈ lw_tbl := gt_1 _ (gp_16 gp_h)
set_option maxRecDepth 20000 in
theorem tw_755 : (Cond.classLink RX8 196 "java/lang/IllegalStateException") ∈ lw_tbl := gt_3 _ (gp_64 (gp_64 (gp_64 (gp_16 (gp_16 (gp_4 (gp_1 (gp_1 (gp_1 gp_h)))))))))
set_option maxRecDepth 20000 in
theorem tw_754 : (Cond.code yX8_itemAt cX8_itemAt 6 ( some .long )) ∈ lw_tbl := gt_3 _ (gp_64 (gp_64 (gp_64 (gp_16 (gp_16 (gp_4 (gp_1 (gp_1 gp_h))))))))
set_option maxRecDepth 20000 in
theorem tw_753 : (Cond.selects RX8 yX8_itemAt yX8_itemAt) ∈ lw_tbl := gt_3 _ (gp_64 (gp_64 (gp_64 (gp_16 (gp_16 (gp_4 (gp_1 gp_h)))))))
set_option maxRecDepth 20000 in
theorem tw_752 : (Cond.instanceMethod yX8_itemAt) ∈ lw_tbl := gt_3 _ (gp_64 (gp_64 (gp_64 (gp_16 (gp_16 (gp_4 gp_h))))))
set_option maxRecDepth 20000 in
theorem tw_751 : (Cond.methodLink RL 17 yX8_itemAt) ∈ lw_tbl := gt_3 _ (gp_64 (gp_64 (gp_64 (gp_16 (gp_16 (gp_1 (gp_1 (gp_1 gp_h))))))))
set_option maxRecDepth 20000 in
theorem tw_750 : (Cond.classLink RL 21 "java/lang/IllegalStateException") ∈ lw_tbl := gt_3 _ (gp_64 (gp_64 (gp_64 (gp_16 (gp_16 (gp_1 (gp_1 gp_h)))))))
set_option maxRecDepth 20000 in
theorem tw_749 : (Cond.codeWith yL_itemAt cL_itemAt 6 ( some .int ) [ ( 0 , 11 , 14 , 13 ) , ( 0 , 11 , 18 , 21 ) , ( 0 , 11 , 22 , 15 ) ]) ∈ lw_tbl := gt_3 _ (gp_64 (gp_64 (gp_64 (gp_16 (gp_16 (gp_1 gp_h))))))
set_option maxRecDepth 20000 in
theorem gr_L_itemAt_r1 : GoodIn lw_tbl wsL_itemAt_r1 := gp_s (gp_c (tw_657) (gp_c (tw_750) (gp_c (tw_658) (gp_c (tw_751) (gp_c (tw_752) (gp_c (tw_753) (gp_c (tw_45) (gp_c (tw_754) (gp_c (tw_663) (gp_c (tw_58) (gp_c (tw_731) (gp_c (tw_59) (gp_c (tw_755) (gp_c (tw_60) (gp_c (tw_196) (gp_c (tw_272) (gp_c (tw_204) (gp_c (tw_443) (gp_c (tw_394) (gp_c (tw_396) (gp_c (gq_2) (gp_c (tw_397) (gp_c (tw_219) (gp_c (tw_218) (gp_n))))))))))))))))))))))))) (by decide +kernel)
set_option maxRecDepth 20000 in
theorem gr_L_itemAt_r2 : GoodIn lw_tbl wsL_itemAt_r2 := gp_s (gp_c (tw_325) (gp_c (tw_326) (gp_c (tw_327) (gp_c (tw_52) (gp_c (tw_328) (gp_c (tw_266) (gp_c (tw_306) (gp_c (tw_307) (gp_c (tw_431) (gp_c (tw_432) (gp_c (tw_433) (gp_c (tw_305) (gp_n))))))))))))) (by decide +kernel)
set_option maxRecDepth 20000 in
theorem ggT_L_itemAt : GoodIn lw_tbl wsL_itemAt := goodIn_cons (gp_s (gp_c (tw_749) (gp_n)) (by decide +kernel)) (goodIn_app (goodIn_app (goodIn_app (goodIn_app (goodIn_app (goodIn_app (goodIn_app (goodIn_app gr_L_itemAt_r1 gr_L_itemAt_r2) gwX60) gwX70) gwX50) gwX80) gvx0) gvx1) gvx2)
set_option maxRecDepth 20000 in
theorem gT_L_itemAt : GoodIn lw_tbl (va_wsS RL 97 yL_itemAt wsL_itemAt) := goodIn_app (gp_s (gp_c (gt_3 _ (gp_64 (gp_64 (gp_64 (gp_16 (gp_4 (gp_4 (gp_4 (gp_1 (gp_1 (gp_1 gp_h))))))))))) (gp_c (gt_3 _ (gp_64 (gp_64 (gp_64 (gp_16 (gp_16 gp_h)))))) (gp_c (gt_1 _ (gp_h)) (gp_n)))) (by decide +kernel)) ggT_L_itemAt
set_option maxRecDepth 20000 in
theorem tw_1033 : (Cond.code yX9_itemAt cX9_itemAt 5 ( some .long )) ∈ lw_tbl := gt_5 _ (gp_16 (gp_4 (gp_4 (gp_4 (gp_1 gp_h)))))
set_option maxRecDepth 20000 in
theorem ggT_X9_itemAt : GoodIn lw_tbl wsX9_itemAt := goodIn_cons (gp_s (gp_c (tw_1033) (gp_n)) (by decide +kernel)) (goodIn_app (gp_s (gp_c (tw_779) (gp_c (tw_794) (gp_c (tw_796) (gp_c (tw_797) (gp_c (tw_986) (gp_c (tw_988) (gp_c (gq_26) (gp_c (tw_51) (gp_c (tw_989) (gp_c (tw_792) (gp_c (tw_982) (gp_c (tw_984) (gp_c (gq_25) (gp_c (tw_985) (gp_c (tw_782) (gp_c (tw_793) (gp_c (tw_990) (gp_c (tw_992) (gp_c (gq_27) (gp_c (tw_993) (gp_c (tw_784) (gp_n)))))))))))))))))))))) (by decide +kernel)) gwX90)
set_option maxRecDepth 20000 in
theorem gT_X9_itemAt : GoodIn lw_tbl (wsV RL 100 RX9 yX9_itemAt wsX9_itemAt) := goodIn_app (gp_s (gp_c (gt_5 _ (gp_16 (gp_4 (gp_4 (gp_1 (gp_1 gp_h)))))) (gp_c (gt_5 _ (gp_16 (gp_4 (gp_4 (gp_1 (gp_1 (gp_1 gp_h))))))) (gp_c (gt_5 _ (gp_16 (gp_4 (gp_4 (gp_4 gp_h))))) (gp_c (tw_51) (gp_n))))) (by decide +kernel)) ggT_X9_itemAt
set_option maxRecDepth 20000 in
theorem tw_936 : (Cond.code yX9_thrown cX9_thrown 1 ( some .int )) ∈ lw_tbl := gt_4 _ (gp_64 (gp_64 (gp_16 (gp_16 (gp_4 (gp_4 (gp_4 gp_h)))))))
set_option maxRecDepth 20000 in
theorem ggT_X9_thrown : GoodIn lw_tbl wsX9_thrown := goodIn_cons (gp_s (gp_c (tw_936) (gp_n)) (by decide +kernel)) (goodIn_app (gp_s (gp_c (tw_779) (gp_n)) (by decide +kernel)) gwX90)
set_option maxRecDepth 20000 in
theorem gT_X9_thrown : GoodIn lw_tbl (wsV RL 101 RX9 yX9_thrown wsX9_thrown) := goodIn_app (gp_s (gp_c (gt_4 _ (gp_64 (gp_64 (gp_16 (gp_16 (gp_4 (gp_4 (gp_1 gp_h)))))))) (gp_c (gt_4 _ (gp_64 (gp_64 (gp_16 (gp_16 (gp_4 (gp_4 (gp_1 (gp_1 gp_h))))))))) (gp_c (gt_4 _ (gp_64 (gp_64 (gp_16 (gp_16 (gp_4 (gp_4 (gp_1 (gp_1 (gp_1 gp_h)))))))))) (gp_c (tw_51) (gp_n))))) (by decide +kernel)) ggT_X9_thrown
