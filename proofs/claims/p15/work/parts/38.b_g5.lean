set_option maxRecDepth 20000 in
theorem ggT_X8_count : GoodIn lw_tbl wsX8_count := goodIn_cons (goodIn_r _ [653] (by decide +kernel) (by decide +kernel)) (goodIn_app (goodIn_app (goodIn_r _ [217, 219, 226, 155, 153] (by decide +kernel) (by decide +kernel)) gwX80) gwX20)
set_option maxRecDepth 20000 in
theorem gT_X8_count : GoodIn lw_tbl (wsV RL 148 RX8 yX8_count wsX8_count) := goodIn_app (goodIn_r _ [650, 651, 652, 45] (by decide +kernel) (by decide +kernel)) ggT_X8_count
set_option maxRecDepth 20000 in
theorem ggT_X9_count : GoodIn lw_tbl wsX9_count := goodIn_cons (goodIn_r _ [1137] (by decide +kernel) (by decide +kernel)) (goodIn_app (goodIn_r _ [779, 781, 792, 799, 801] (by decide +kernel) (by decide +kernel)) gwX90)
set_option maxRecDepth 20000 in
theorem gT_X9_count : GoodIn lw_tbl (wsV RL 151 RX9 yX9_count wsX9_count) := goodIn_app (goodIn_r _ [1134, 1135, 1136, 51] (by decide +kernel) (by decide +kernel)) ggT_X9_count
