set_option maxRecDepth 20000 in
theorem ggT_X8_forget : GoodIn lw_tbl wsX8_forget := goodIn_cons (goodIn_r _ [473] (by decide +kernel) (by decide +kernel)) (goodIn_app (goodIn_app (goodIn_r _ [226, 155, 219] (by decide +kernel) (by decide +kernel)) gwX80) gwX20)
set_option maxRecDepth 20000 in
theorem gT_X8_forget : GoodIn lw_tbl (wsV RL 104 RX8 yX8_forget wsX8_forget) := goodIn_app (goodIn_r _ [470, 471, 472, 45] (by decide +kernel) (by decide +kernel)) ggT_X8_forget
set_option maxRecDepth 20000 in
theorem ggT_X9_forget : GoodIn lw_tbl wsX9_forget := goodIn_cons (goodIn_r _ [1037] (by decide +kernel) (by decide +kernel)) (goodIn_app (goodIn_r _ [779, 799, 792] (by decide +kernel) (by decide +kernel)) gwX90)
set_option maxRecDepth 20000 in
theorem gT_X9_forget : GoodIn lw_tbl (wsV RL 107 RX9 yX9_forget wsX9_forget) := goodIn_app (goodIn_r _ [1034, 1035, 1036, 51] (by decide +kernel) (by decide +kernel)) ggT_X9_forget
set_option maxRecDepth 20000 in
theorem ggT_X8_told : GoodIn lw_tbl wsX8_told := goodIn_cons (goodIn_r _ [477] (by decide +kernel) (by decide +kernel)) (goodIn_app (goodIn_app (goodIn_app (goodIn_r _ [196, 265, 268, 394, 396, 2, 45, 397, 219, 218] (by decide +kernel) (by decide +kernel)) gwX60) gwX70) gwX80)
set_option maxRecDepth 20000 in
theorem gT_X8_told : GoodIn lw_tbl (wsV RL 108 RX8 yX8_told wsX8_told) := goodIn_app (goodIn_r _ [474, 475, 476, 45] (by decide +kernel) (by decide +kernel)) ggT_X8_told
set_option maxRecDepth 20000 in
theorem ggT_X9_told : GoodIn lw_tbl wsX9_told := goodIn_cons (goodIn_r _ [1041] (by decide +kernel) (by decide +kernel)) (goodIn_app (goodIn_r _ [779, 793, 782, 986, 988, 26, 51, 989, 792] (by decide +kernel) (by decide +kernel)) gwX90)
set_option maxRecDepth 20000 in
theorem gT_X9_told : GoodIn lw_tbl (wsV RL 111 RX9 yX9_told wsX9_told) := goodIn_app (goodIn_r _ [1038, 1039, 1040, 51] (by decide +kernel) (by decide +kernel)) ggT_X9_told
set_option maxRecDepth 20000 in
theorem gr_X8_judge_r1 : GoodIn lw_tbl wsX8_judge_r1 := goodIn_r _ [196, 279, 394, 396, 2, 45, 397, 219, 218, 482, 484, 7, 485, 277, 486, 488, 8, 489, 353, 490, 491, 492, 355, 357] (by decide +kernel) (by decide +kernel)
set_option maxRecDepth 20000 in
theorem gr_X8_judge_r2 : GoodIn lw_tbl wsX8_judge_r2 := goodIn_r _ [200, 493, 494, 495, 52, 496, 271, 497, 326, 327, 328, 266, 306, 307, 498, 500, 9, 501, 265, 359, 502, 503, 504, 204] (by decide +kernel) (by decide +kernel)
set_option maxRecDepth 20000 in
theorem gr_X8_judge_r3 : GoodIn lw_tbl wsX8_judge_r3 := goodIn_r _ [443, 505, 506, 507, 508, 432, 433, 510, 511, 512, 513, 514, 515, 516, 517, 519, 10, 520, 270, 308, 309, 310, 311, 269] (by decide +kernel) (by decide +kernel)
set_option maxRecDepth 20000 in
theorem gr_X8_judge_r4 : GoodIn lw_tbl wsX8_judge_r4 := goodIn_r _ [398, 399, 400] (by decide +kernel) (by decide +kernel)
set_option maxRecDepth 20000 in
theorem ggT_X8_judge : GoodIn lw_tbl wsX8_judge := goodIn_cons (goodIn_r _ [481] (by decide +kernel) (by decide +kernel)) (goodIn_app (goodIn_app (goodIn_app (goodIn_app (goodIn_app (goodIn_app gr_X8_judge_r1 (goodIn_app gr_X8_judge_r2 (goodIn_app gr_X8_judge_r3 gr_X8_judge_r4))) gwX60) gwX70) gwX80) gwX00) gwX50)
set_option maxRecDepth 20000 in
theorem gT_X8_judge : GoodIn lw_tbl (wsV RL 112 RX8 yX8_judge wsX8_judge) := goodIn_app (goodIn_r _ [478, 479, 480, 45] (by decide +kernel) (by decide +kernel)) ggT_X8_judge
set_option maxRecDepth 20000 in
theorem gr_X9_judge_r1 : GoodIn lw_tbl wsX9_judge_r1 := goodIn_r _ [779, 986, 988, 26, 51, 989, 792, 1046, 1048, 31, 1049, 793, 787, 807, 1050, 1052, 32, 1053, 788, 789, 790, 794, 782, 791] (by decide +kernel) (by decide +kernel)
set_option maxRecDepth 20000 in
theorem gr_X9_judge_r2 : GoodIn lw_tbl wsX9_judge_r2 := goodIn_r _ [796, 797, 1058, 783, 1054, 1056, 33, 1057, 990, 992, 27, 993, 784, 949, 951, 24, 952] (by decide +kernel) (by decide +kernel)
set_option maxRecDepth 20000 in
theorem ggT_X9_judge : GoodIn lw_tbl wsX9_judge := goodIn_cons (goodIn_r _ [1045] (by decide +kernel) (by decide +kernel)) (goodIn_app (goodIn_app gr_X9_judge_r1 gr_X9_judge_r2) gwX90)
set_option maxRecDepth 20000 in
theorem gT_X9_judge : GoodIn lw_tbl (wsV RL 115 RX9 yX9_judge wsX9_judge) := goodIn_app (goodIn_r _ [1042, 1043, 1044, 51] (by decide +kernel) (by decide +kernel)) ggT_X9_judge
set_option maxRecDepth 20000 in
theorem gr_X8_save_r1 : GoodIn lw_tbl wsX8_save_r1 := goodIn_r _ [222, 227, 88, 221, 82, 394, 396, 2, 45, 397, 219, 218, 305, 306, 307, 525, 527, 11, 528, 94, 224, 529, 531, 12] (by decide +kernel) (by decide +kernel)
set_option maxRecDepth 20000 in
theorem gr_X8_save_r2 : GoodIn lw_tbl wsX8_save_r2 := goodIn_r _ [532, 533, 534, 535, 50, 536, 205, 195, 267, 201, 445, 537, 539, 13, 540, 206, 84, 196, 265, 86, 268, 541, 543, 14] (by decide +kernel) (by decide +kernel)
set_option maxRecDepth 20000 in
theorem gr_X8_save_r3 : GoodIn lw_tbl wsX8_save_r3 := goodIn_r _ [544, 270, 90, 272, 92, 545, 547, 15, 548, 204, 312, 200, 431, 432, 433, 549, 550, 551, 46, 552, 444, 93, 95, 440] (by decide +kernel) (by decide +kernel)
set_option maxRecDepth 20000 in
theorem gr_X8_save_r4 : GoodIn lw_tbl wsX8_save_r4 := goodIn_r _ [96, 553, 555, 16, 556, 276, 557, 558, 559, 49, 560, 172, 174, 176, 178, 398, 399, 400] (by decide +kernel) (by decide +kernel)
set_option maxRecDepth 20000 in
theorem ggT_X8_save : GoodIn lw_tbl wsX8_save := goodIn_cons (goodIn_r _ [524] (by decide +kernel) (by decide +kernel)) (goodIn_app (goodIn_app (goodIn_app (goodIn_app (goodIn_app (goodIn_app (goodIn_app gr_X8_save_r1 (goodIn_app gr_X8_save_r2 (goodIn_app gr_X8_save_r3 gr_X8_save_r4))) gwX80) gwX40) gwX60) gwX70) gwX50) gwX10)
set_option maxRecDepth 20000 in
theorem gT_X8_save : GoodIn lw_tbl (wsV RL 116 RX8 yX8_save wsX8_save) := goodIn_app (goodIn_r _ [521, 522, 523, 45] (by decide +kernel) (by decide +kernel)) ggT_X8_save
set_option maxRecDepth 20000 in
theorem gr_X9_save_r1 : GoodIn lw_tbl wsX9_save_r1 := goodIn_r _ [779, 808, 814, 809, 810, 811, 812, 813, 815, 816, 817, 1063, 1065, 34, 51, 1066, 986, 988, 26, 989, 792, 1067, 1069, 35] (by decide +kernel) (by decide +kernel)
set_option maxRecDepth 20000 in
theorem gr_X9_save_r2 : GoodIn lw_tbl wsX9_save_r2 := goodIn_r _ [1070, 818, 793, 782, 786, 783, 794, 784, 1071, 1073, 36, 1074, 1075, 1077, 37, 1078, 820, 821, 822, 1079, 1081, 38, 1082, 819] (by decide +kernel) (by decide +kernel)
set_option maxRecDepth 20000 in
theorem gr_X9_save_r3 : GoodIn lw_tbl wsX9_save_r3 := goodIn_r _ [795, 796, 797] (by decide +kernel) (by decide +kernel)
set_option maxRecDepth 20000 in
theorem ggT_X9_save : GoodIn lw_tbl wsX9_save := goodIn_cons (goodIn_r _ [1062] (by decide +kernel) (by decide +kernel)) (goodIn_app (goodIn_app gr_X9_save_r1 (goodIn_app gr_X9_save_r2 gr_X9_save_r3)) gwX90)
set_option maxRecDepth 20000 in
theorem gT_X9_save : GoodIn lw_tbl (wsV RL 119 RX9 yX9_save wsX9_save) := goodIn_app (goodIn_r _ [1059, 1060, 1061, 51] (by decide +kernel) (by decide +kernel)) ggT_X9_save
set_option maxRecDepth 20000 in
theorem ggT_X8_saved : GoodIn lw_tbl wsX8_saved := goodIn_cons (goodIn_r _ [564] (by decide +kernel) (by decide +kernel)) (goodIn_app (goodIn_app (goodIn_r _ [221, 82, 94, 305, 306, 45, 307] (by decide +kernel) (by decide +kernel)) gwX80) gwX40)
set_option maxRecDepth 20000 in
theorem gT_X8_saved : GoodIn lw_tbl (wsV RL 120 RX8 yX8_saved wsX8_saved) := goodIn_app (goodIn_r _ [561, 562, 563, 45] (by decide +kernel) (by decide +kernel)) ggT_X8_saved
set_option maxRecDepth 20000 in
theorem ggT_X9_saved : GoodIn lw_tbl wsX9_saved := goodIn_cons (goodIn_r _ [1086] (by decide +kernel) (by decide +kernel)) (goodIn_app (goodIn_r _ [779, 808, 814, 1063, 1065, 34, 51, 1066] (by decide +kernel) (by decide +kernel)) gwX90)
set_option maxRecDepth 20000 in
theorem gT_X9_saved : GoodIn lw_tbl (wsV RL 123 RX9 yX9_saved wsX9_saved) := goodIn_app (goodIn_r _ [1083, 1084, 1085, 51] (by decide +kernel) (by decide +kernel)) ggT_X9_saved
set_option maxRecDepth 20000 in
theorem gr_X8_restore_r1 : GoodIn lw_tbl wsX8_restore_r1 := goodIn_r _ [221, 82, 219, 305, 306, 45, 307, 569, 571, 17, 572, 218, 216, 84, 381, 382, 383, 50, 384, 195, 267, 385, 318, 319] (by decide +kernel) (by decide +kernel)
set_option maxRecDepth 20000 in
theorem gr_X8_restore_r2 : GoodIn lw_tbl wsX8_restore_r2 := goodIn_r _ [320, 197, 274, 201, 573, 575, 18, 576, 94, 225, 86, 227, 88, 577, 579, 19, 580, 196, 272, 90, 92, 312, 204, 200] (by decide +kernel) (by decide +kernel)
set_option maxRecDepth 20000 in
theorem gr_X8_restore_r3 : GoodIn lw_tbl wsX8_restore_r3 := goodIn_r _ [308, 309, 310, 52, 311, 266, 269, 581, 582, 583, 431, 432, 433, 401, 403, 3, 404, 405, 220, 584, 586, 20, 587, 588] (by decide +kernel) (by decide +kernel)
set_option maxRecDepth 20000 in
theorem gr_X8_restore_r4 : GoodIn lw_tbl wsX8_restore_r4 := goodIn_r _ [589, 590, 46, 591, 592, 434, 54, 95, 440, 96, 593, 436, 437, 438, 68, 69, 118, 439, 557, 558, 559, 49, 560, 172] (by decide +kernel) (by decide +kernel)
set_option maxRecDepth 20000 in
theorem gr_X8_restore_r5 : GoodIn lw_tbl wsX8_restore_r5 := goodIn_r _ [174, 176, 178, 594, 596, 21, 597, 279, 482, 484, 7, 485, 277, 486, 488, 8, 489, 353, 490, 491, 492, 355, 357, 493] (by decide +kernel) (by decide +kernel)
set_option maxRecDepth 20000 in
theorem gr_X8_restore_r6 : GoodIn lw_tbl wsX8_restore_r6 := goodIn_r _ [494, 495, 496, 271, 497, 326, 327, 328, 498, 500, 9, 501, 265, 359, 394, 396, 2, 397, 502, 503, 504, 443, 505, 506] (by decide +kernel) (by decide +kernel)
set_option maxRecDepth 20000 in
theorem gr_X8_restore_r7 : GoodIn lw_tbl wsX8_restore_r7 := goodIn_r _ [507, 508, 510, 511, 512, 513, 514, 515, 516, 517, 519, 10, 520, 270, 398, 399, 400] (by decide +kernel) (by decide +kernel)
set_option maxRecDepth 20000 in
theorem ggT_X8_restore : GoodIn lw_tbl wsX8_restore := goodIn_cons (goodIn_r _ [568] (by decide +kernel) (by decide +kernel)) (goodIn_app (goodIn_app (goodIn_app (goodIn_app (goodIn_app (goodIn_app (goodIn_app (goodIn_app gr_X8_restore_r1 (goodIn_app gr_X8_restore_r2 (goodIn_app gr_X8_restore_r3 (goodIn_app gr_X8_restore_r4 (goodIn_app gr_X8_restore_r5 (goodIn_app gr_X8_restore_r6 gr_X8_restore_r7)))))) gwX80) gwX40) gwX60) gwX70) gwX50) gwX10) gwX00)
set_option maxRecDepth 20000 in
theorem gT_X8_restore : GoodIn lw_tbl (wsV RL 124 RX8 yX8_restore wsX8_restore) := goodIn_app (goodIn_r _ [565, 566, 567, 45] (by decide +kernel) (by decide +kernel)) ggT_X8_restore
