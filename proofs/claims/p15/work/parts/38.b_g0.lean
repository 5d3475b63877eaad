set_option maxRecDepth 20000 in
theorem gr_X8_init_r1 : GoodIn lw_tbl wsX8_init_r1 := goodIn_r _ [67, 68, 69, 70, 216, 72, 218, 116, 220, 74, 221, 76, 46, 222, 223, 224, 119, 225, 121, 122, 47, 226, 166, 167] (by decide +kernel) (by decide +kernel)
set_option maxRecDepth 20000 in
theorem gr_X8_init_r2 : GoodIn lw_tbl wsX8_init_r2 := goodIn_r _ [49, 227, 189, 50, 78, 79, 80, 117, 83, 85, 87, 89, 118, 91, 95, 96, 123, 124, 125, 126, 127, 151, 154, 129] (by decide +kernel) (by decide +kernel)
set_option maxRecDepth 20000 in
theorem gr_X8_init_r3 : GoodIn lw_tbl wsX8_init_r3 := goodIn_r _ [48, 131, 132, 133, 169, 170, 171, 191, 192, 193, 197, 194, 201] (by decide +kernel) (by decide +kernel)
set_option maxRecDepth 20000 in
theorem ggT_X8_init : GoodIn lw_tbl wsX8_init := goodIn_cons (goodIn_r _ [66] (by decide +kernel) (by decide +kernel)) (goodIn_app (goodIn_app (goodIn_app (goodIn_app (goodIn_app (goodIn_app (goodIn_app gr_X8_init_r1 (goodIn_app gr_X8_init_r2 gr_X8_init_r3)) gwX80) gwX40) gwX20) gwX10) gwX60) gwX30)
set_option maxRecDepth 20000 in
theorem gr_X9_init_r1 : GoodIn lw_tbl wsX9_init_r1 := goodIn_r _ [778, 68, 69, 116, 780, 117, 782, 783, 784, 118, 785, 786, 787, 788, 789, 790, 791, 793, 794, 795, 796, 797, 798, 800] (by decide +kernel) (by decide +kernel)
set_option maxRecDepth 20000 in
theorem gr_X9_init_r2 : GoodIn lw_tbl wsX9_init_r2 := goodIn_r _ [802, 803, 804, 805, 806, 808, 809, 810, 811, 812, 813, 814, 815, 816, 817, 818, 819, 820, 821, 822, 823, 824, 825, 826] (by decide +kernel) (by decide +kernel)
set_option maxRecDepth 20000 in
theorem gr_X9_init_r3 : GoodIn lw_tbl wsX9_init_r3 := goodIn_r _ [827, 828] (by decide +kernel) (by decide +kernel)
set_option maxRecDepth 20000 in
theorem ggT_X9_init : GoodIn lw_tbl wsX9_init := goodIn_cons (goodIn_r _ [777] (by decide +kernel) (by decide +kernel)) (goodIn_app (goodIn_app gr_X9_init_r1 (goodIn_app gr_X9_init_r2 gr_X9_init_r3)) gwX90)
set_option maxRecDepth 20000 in
theorem ggT_X8_type : GoodIn lw_tbl wsX8_type := goodIn_cons (goodIn_r _ [256] (by decide +kernel) (by decide +kernel)) (goodIn_app (goodIn_app (goodIn_r _ [217, 216, 70, 257, 52, 258, 259, 260, 261, 68, 69, 117, 269, 271, 118, 273, 116, 275, 262, 278, 264] (by decide +kernel) (by decide +kernel)) gwX80) gwX70)
set_option maxRecDepth 20000 in
theorem gT_X8_type : GoodIn lw_tbl (wsV RL 27 RX8 yX8_type wsX8_type) := goodIn_app (goodIn_r _ [253, 254, 255, 45] (by decide +kernel) (by decide +kernel)) ggT_X8_type
set_option maxRecDepth 20000 in
theorem ggT_X9_type : GoodIn lw_tbl wsX9_type := goodIn_cons (goodIn_r _ [940] (by decide +kernel) (by decide +kernel)) (goodIn_app (goodIn_r _ [779, 781, 782, 787] (by decide +kernel) (by decide +kernel)) gwX90)
set_option maxRecDepth 20000 in
theorem gT_X9_type : GoodIn lw_tbl (wsV RL 31 RX9 yX9_type wsX9_type) := goodIn_app (goodIn_r _ [937, 938, 939, 51] (by decide +kernel) (by decide +kernel)) ggT_X9_type
set_option maxRecDepth 20000 in
theorem gr_X8_field_r1 : GoodIn lw_tbl wsX8_field_r1 := goodIn_r _ [226, 155, 268, 312, 219, 218, 196, 301, 303, 0, 45, 304, 217, 216, 305, 306, 307, 308, 309, 310, 52, 311, 266, 269] (by decide +kernel) (by decide +kernel)
set_option maxRecDepth 20000 in
theorem gr_X8_field_r2 : GoodIn lw_tbl wsX8_field_r2 := goodIn_r _ [313, 314, 315, 316, 271, 273, 275, 317, 318, 319, 50, 320, 197, 195, 274, 201] (by decide +kernel) (by decide +kernel)
set_option maxRecDepth 20000 in
theorem ggT_X8_field : GoodIn lw_tbl wsX8_field := goodIn_cons (goodIn_r _ [300] (by decide +kernel) (by decide +kernel)) (goodIn_app (goodIn_app (goodIn_app (goodIn_app (goodIn_app gr_X8_field_r1 gr_X8_field_r2) gwX80) gwX20) gwX70) gwX60)
set_option maxRecDepth 20000 in
theorem gT_X8_field : GoodIn lw_tbl (wsV RL 34 RX8 yX8_field wsX8_field) := goodIn_app (goodIn_r _ [297, 298, 299, 45] (by decide +kernel) (by decide +kernel)) ggT_X8_field
set_option maxRecDepth 20000 in
theorem ggT_X9_field : GoodIn lw_tbl wsX9_field := goodIn_cons (goodIn_r _ [944] (by decide +kernel) (by decide +kernel)) (goodIn_app (goodIn_r _ [779, 799, 782, 783, 784, 785, 953, 786, 792, 793, 794, 945, 947, 23, 51, 948, 781, 949, 951, 24, 952] (by decide +kernel) (by decide +kernel)) gwX90)
set_option maxRecDepth 20000 in
theorem gT_X9_field : GoodIn lw_tbl (wsV RL 38 RX9 yX9_field wsX9_field) := goodIn_app (goodIn_r _ [941, 942, 943, 51] (by decide +kernel) (by decide +kernel)) ggT_X9_field
set_option maxRecDepth 20000 in
theorem gr_X8_drop_r1 : GoodIn lw_tbl wsX8_drop_r1 := goodIn_r _ [226, 155, 219, 218, 196, 268, 301, 303, 0, 45, 304, 217, 216, 305, 306, 307, 325, 326, 327, 52, 328, 266, 330, 331] (by decide +kernel) (by decide +kernel)
set_option maxRecDepth 20000 in
theorem gr_X8_drop_r2 : GoodIn lw_tbl wsX8_drop_r2 := goodIn_r _ [332, 333, 269, 271, 273, 275, 334, 335, 336, 50, 337, 197, 201] (by decide +kernel) (by decide +kernel)
set_option maxRecDepth 20000 in
theorem ggT_X8_drop : GoodIn lw_tbl wsX8_drop := goodIn_cons (goodIn_r _ [324] (by decide +kernel) (by decide +kernel)) (goodIn_app (goodIn_app (goodIn_app (goodIn_app (goodIn_app gr_X8_drop_r1 gr_X8_drop_r2) gwX80) gwX20) gwX60) gwX70)
set_option maxRecDepth 20000 in
theorem gT_X8_drop : GoodIn lw_tbl (wsV RL 39 RX8 yX8_drop wsX8_drop) := goodIn_app (goodIn_r _ [321, 322, 323, 45] (by decide +kernel) (by decide +kernel)) ggT_X8_drop
set_option maxRecDepth 20000 in
theorem ggT_X9_drop : GoodIn lw_tbl wsX9_drop := goodIn_cons (goodIn_r _ [957] (by decide +kernel) (by decide +kernel)) (goodIn_app (goodIn_r _ [779, 782, 799, 783, 784, 785, 786, 792, 794, 793, 945, 947, 23, 51, 948, 781] (by decide +kernel) (by decide +kernel)) gwX90)
set_option maxRecDepth 20000 in
theorem gT_X9_drop : GoodIn lw_tbl (wsV RL 43 RX9 yX9_drop wsX9_drop) := goodIn_app (goodIn_r _ [954, 955, 956, 51] (by decide +kernel) (by decide +kernel)) ggT_X9_drop
set_option maxRecDepth 20000 in
theorem ggT_X8_shut : GoodIn lw_tbl wsX8_shut := goodIn_cons (goodIn_r _ [341] (by decide +kernel) (by decide +kernel)) (goodIn_app (goodIn_app (goodIn_r _ [276, 301, 303, 0, 45, 304, 217, 216, 305, 306, 307, 325, 326, 327, 52, 328, 266] (by decide +kernel) (by decide +kernel)) gwX70) gwX80)
set_option maxRecDepth 20000 in
theorem gT_X8_shut : GoodIn lw_tbl (wsV RL 44 RX8 yX8_shut wsX8_shut) := goodIn_app (goodIn_r _ [338, 339, 340, 45] (by decide +kernel) (by decide +kernel)) ggT_X8_shut
set_option maxRecDepth 20000 in
theorem ggT_X9_shut : GoodIn lw_tbl wsX9_shut := goodIn_cons (goodIn_r _ [961] (by decide +kernel) (by decide +kernel)) (goodIn_app (goodIn_r _ [779, 782, 786, 945, 947, 23, 51, 948, 781] (by decide +kernel) (by decide +kernel)) gwX90)
set_option maxRecDepth 20000 in
theorem gT_X9_shut : GoodIn lw_tbl (wsV RL 48 RX9 yX9_shut wsX9_shut) := goodIn_app (goodIn_r _ [958, 959, 960, 51] (by decide +kernel) (by decide +kernel)) ggT_X9_shut
set_option maxRecDepth 20000 in
theorem gr_X8_check_r1 : GoodIn lw_tbl wsX8_check_r1 := goodIn_r _ [277, 279, 346, 347, 53, 301, 303, 0, 45, 304, 217, 216, 305, 306, 307, 348, 349, 350, 351, 68, 69, 352, 354, 356] (by decide +kernel) (by decide +kernel)
set_option maxRecDepth 20000 in
theorem gr_X8_check_r2 : GoodIn lw_tbl wsX8_check_r2 := goodIn_r _ [358] (by decide +kernel) (by decide +kernel)
set_option maxRecDepth 20000 in
theorem ggT_X8_check : GoodIn lw_tbl wsX8_check := goodIn_cons (goodIn_r _ [345] (by decide +kernel) (by decide +kernel)) (goodIn_app (goodIn_app (goodIn_app (goodIn_app gr_X8_check_r1 gr_X8_check_r2) gwX70) gwX00) gwX80)
set_option maxRecDepth 20000 in
theorem gT_X8_check : GoodIn lw_tbl (wsV RL 49 RX8 yX8_check wsX8_check) := goodIn_app (goodIn_r _ [342, 343, 344, 45] (by decide +kernel) (by decide +kernel)) ggT_X8_check
