set_option maxRecDepth 20000 in
theorem ggT_X9_count : GoodIn lw_tbl wsX9_count := goodIn_cons (goodIn_r _ [1133] (by decide +kernel) (by decide +kernel)) (goodIn_app (goodIn_r _ [779, 781, 792, 799, 801] (by decide +kernel) (by decide +kernel)) gwX90)
set_option maxRecDepth 20000 in
theorem gT_X9_count : GoodIn lw_tbl (wsV RL 148 RX9 yX9_count wsX9_count) := goodIn_app (goodIn_r _ [1130, 1131, 1132, 51] (by decide +kernel) (by decide +kernel)) ggT_X9_count
