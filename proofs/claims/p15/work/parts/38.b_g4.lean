set_option maxRecDepth 20000 in
theorem gr_X9_restore_r1 : GoodIn lw_tbl wsX9_restore_r1 := goodIn_r _ [779, 808, 792, 823, 809, 793, 782, 794, 785, 807, 1063, 1065, 34, 51, 1066, 1091, 1093, 39, 1094, 810, 811, 784, 812, 813] (by decide +kernel) (by decide +kernel)
set_option maxRecDepth 20000 in
theorem gr_X9_restore_r2 : GoodIn lw_tbl wsX9_restore_r2 := goodIn_r _ [780, 953, 949, 951, 24, 952, 783, 1075, 1077, 37, 1078, 820, 821, 822, 1095, 1096, 1097, 1098, 1100, 40, 1101, 816, 797, 817] (by decide +kernel) (by decide +kernel)
set_option maxRecDepth 20000 in
theorem gr_X9_restore_r3 : GoodIn lw_tbl wsX9_restore_r3 := goodIn_r _ [1011, 1013, 30, 1014, 798, 801, 804, 795, 796, 990, 992, 27, 993, 1046, 1048, 31, 1049, 787, 1050, 1052, 32, 1053, 788, 789] (by decide +kernel) (by decide +kernel)
set_option maxRecDepth 20000 in
theorem gr_X9_restore_r4 : GoodIn lw_tbl wsX9_restore_r4 := goodIn_r _ [790, 791, 1058, 1054, 1056, 33, 1057] (by decide +kernel) (by decide +kernel)
set_option maxRecDepth 20000 in
theorem ggT_X9_restore : GoodIn lw_tbl wsX9_restore := goodIn_cons (goodIn_r _ [1090] (by decide +kernel) (by decide +kernel)) (goodIn_app (goodIn_app gr_X9_restore_r1 (goodIn_app gr_X9_restore_r2 (goodIn_app gr_X9_restore_r3 gr_X9_restore_r4))) gwX90)
set_option maxRecDepth 20000 in
theorem gT_X9_restore : GoodIn lw_tbl (wsV RL 127 RX9 yX9_restore wsX9_restore) := goodIn_app (goodIn_r _ [1087, 1088, 1089, 51] (by decide +kernel) (by decide +kernel)) ggT_X9_restore
set_option maxRecDepth 20000 in
theorem ggT_X8_fault : GoodIn lw_tbl wsX8_fault := goodIn_cons (goodIn_r _ [601] (by decide +kernel) (by decide +kernel)) (goodIn_app (goodIn_app (goodIn_r _ [227, 173, 175, 177, 179] (by decide +kernel) (by decide +kernel)) gwX80) gwX10)
set_option maxRecDepth 20000 in
theorem gT_X8_fault : GoodIn lw_tbl (wsV RL 128 RX8 yX8_fault wsX8_fault) := goodIn_app (goodIn_r _ [598, 599, 600, 45] (by decide +kernel) (by decide +kernel)) ggT_X8_fault
set_option maxRecDepth 20000 in
theorem ggT_X9_fault : GoodIn lw_tbl wsX9_fault := goodIn_cons (goodIn_r _ [1105] (by decide +kernel) (by decide +kernel)) (goodIn_app (goodIn_r _ [779, 820, 821, 822] (by decide +kernel) (by decide +kernel)) gwX90)
set_option maxRecDepth 20000 in
theorem gT_X9_fault : GoodIn lw_tbl (wsV RL 131 RX9 yX9_fault wsX9_fault) := goodIn_app (goodIn_r _ [1102, 1103, 1104, 51] (by decide +kernel) (by decide +kernel)) ggT_X9_fault
set_option maxRecDepth 20000 in
theorem gr_X8_like_r1 : GoodIn lw_tbl wsX8_like_r1 := goodIn_r _ [222, 223, 394, 396, 2, 45, 397, 219, 218, 525, 527, 11, 528, 82, 94, 224, 529, 531, 12, 532, 533, 534, 535, 50] (by decide +kernel) (by decide +kernel)
set_option maxRecDepth 20000 in
theorem gr_X8_like_r2 : GoodIn lw_tbl wsX8_like_r2 := goodIn_r _ [536, 205, 195, 267, 201, 445, 537, 539, 13, 540, 206, 84, 196, 265, 86, 268, 541, 543, 14, 544, 88, 270, 90, 272] (by decide +kernel) (by decide +kernel)
set_option maxRecDepth 20000 in
theorem gr_X8_like_r3 : GoodIn lw_tbl wsX8_like_r3 := goodIn_r _ [92, 545, 547, 15, 548, 204, 312, 200, 431, 432, 433, 549, 550, 551, 46, 552, 444, 93, 95, 440, 96, 606, 607, 608] (by decide +kernel) (by decide +kernel)
set_option maxRecDepth 20000 in
theorem gr_X8_like_r4 : GoodIn lw_tbl wsX8_like_r4 := goodIn_r _ [609, 610, 61, 611, 612, 613, 614, 615, 81, 83, 85, 87, 89, 616, 617, 618, 619, 91, 621, 622, 623, 624, 625] (by decide +kernel) (by decide +kernel)
set_option maxRecDepth 20000 in
theorem ggT_X8_like : GoodIn lw_tbl wsX8_like := goodIn_cons (goodIn_r _ [605] (by decide +kernel) (by decide +kernel)) (goodIn_app (goodIn_app (goodIn_app (goodIn_app (goodIn_app (goodIn_app gr_X8_like_r1 (goodIn_app gr_X8_like_r2 (goodIn_app gr_X8_like_r3 gr_X8_like_r4))) gwX80) gwX40) gwX60) gwX70) gwX50)
set_option maxRecDepth 20000 in
theorem gT_X8_like : GoodIn lw_tbl (wsV RL 132 RX8 yX8_like wsX8_like) := goodIn_app (goodIn_r _ [602, 603, 604, 45] (by decide +kernel) (by decide +kernel)) ggT_X8_like
set_option maxRecDepth 20000 in
theorem gr_X9_like_r1 : GoodIn lw_tbl wsX9_like_r1 := goodIn_r _ [779, 824, 825, 826, 827, 829, 828, 793, 782, 794, 986, 988, 26, 51, 989, 792, 1110, 1112, 41, 1113, 990, 992, 27, 993] (by decide +kernel) (by decide +kernel)
set_option maxRecDepth 20000 in
theorem gr_X9_like_r2 : GoodIn lw_tbl wsX9_like_r2 := goodIn_r _ [784, 1114, 1116, 42, 1117, 796, 797] (by decide +kernel) (by decide +kernel)
set_option maxRecDepth 20000 in
theorem ggT_X9_like : GoodIn lw_tbl wsX9_like := goodIn_cons (goodIn_r _ [1109] (by decide +kernel) (by decide +kernel)) (goodIn_app (goodIn_app gr_X9_like_r1 gr_X9_like_r2) gwX90)
set_option maxRecDepth 20000 in
theorem gT_X9_like : GoodIn lw_tbl (wsV RL 135 RX9 yX9_like wsX9_like) := goodIn_app (goodIn_r _ [1106, 1107, 1108, 51] (by decide +kernel) (by decide +kernel)) ggT_X9_like
set_option maxRecDepth 20000 in
theorem gr_X8_differs_r1 : GoodIn lw_tbl wsX8_differs_r1 := goodIn_r _ [221, 82, 222, 394, 396, 2, 45, 397, 219, 218, 305, 306, 307, 525, 527, 11, 528, 94, 224, 529, 531, 12, 532, 533] (by decide +kernel) (by decide +kernel)
set_option maxRecDepth 20000 in
theorem gr_X8_differs_r2 : GoodIn lw_tbl wsX8_differs_r2 := goodIn_r _ [534, 535, 50, 536, 205, 195, 267, 201, 445, 537, 539, 13, 540, 206, 84, 196, 265, 86, 268, 541, 543, 14, 544, 88] (by decide +kernel) (by decide +kernel)
set_option maxRecDepth 20000 in
theorem gr_X8_differs_r3 : GoodIn lw_tbl wsX8_differs_r3 := goodIn_r _ [270, 90, 272, 92, 545, 547, 15, 548, 204, 312, 200, 431, 432, 433, 549, 550, 551, 46, 552, 444, 93, 95, 440, 96] (by decide +kernel) (by decide +kernel)
set_option maxRecDepth 20000 in
theorem gr_X8_differs_r4 : GoodIn lw_tbl wsX8_differs_r4 := goodIn_r _ [606, 607, 608, 609, 610, 61, 611, 612, 613, 614, 615, 81, 83, 85, 87, 89, 616, 617, 618, 619, 91, 621, 622, 623] (by decide +kernel) (by decide +kernel)
set_option maxRecDepth 20000 in
theorem gr_X8_differs_r5 : GoodIn lw_tbl wsX8_differs_r5 := goodIn_r _ [624, 625] (by decide +kernel) (by decide +kernel)
set_option maxRecDepth 20000 in
theorem ggT_X8_differs : GoodIn lw_tbl wsX8_differs := goodIn_cons (goodIn_r _ [629] (by decide +kernel) (by decide +kernel)) (goodIn_app (goodIn_app (goodIn_app (goodIn_app (goodIn_app (goodIn_app gr_X8_differs_r1 (goodIn_app gr_X8_differs_r2 (goodIn_app gr_X8_differs_r3 (goodIn_app gr_X8_differs_r4 gr_X8_differs_r5)))) gwX80) gwX40) gwX60) gwX70) gwX50)
set_option maxRecDepth 20000 in
theorem gT_X8_differs : GoodIn lw_tbl (wsV RL 136 RX8 yX8_differs wsX8_differs) := goodIn_app (goodIn_r _ [626, 627, 628, 45] (by decide +kernel) (by decide +kernel)) ggT_X8_differs
set_option maxRecDepth 20000 in
theorem gr_X9_differs_r1 : GoodIn lw_tbl wsX9_differs_r1 := goodIn_r _ [779, 808, 809, 810, 811, 812, 813, 1063, 1065, 34, 51, 1066, 986, 988, 26, 989, 792, 1067, 1069, 35, 1070, 814, 818, 793] (by decide +kernel) (by decide +kernel)
set_option maxRecDepth 20000 in
theorem gr_X9_differs_r2 : GoodIn lw_tbl wsX9_differs_r2 := goodIn_r _ [782, 786, 783, 794, 784, 1071, 1073, 36, 1074, 1075, 1077, 37, 1078, 820, 821, 822, 1079, 1081, 38, 1082, 819, 815, 795, 816] (by decide +kernel) (by decide +kernel)
set_option maxRecDepth 20000 in
theorem gr_X9_differs_r3 : GoodIn lw_tbl wsX9_differs_r3 := goodIn_r _ [796, 817, 797, 1122, 1124, 43, 1125] (by decide +kernel) (by decide +kernel)
set_option maxRecDepth 20000 in
theorem ggT_X9_differs : GoodIn lw_tbl wsX9_differs := goodIn_cons (goodIn_r _ [1121] (by decide +kernel) (by decide +kernel)) (goodIn_app (goodIn_app gr_X9_differs_r1 (goodIn_app gr_X9_differs_r2 gr_X9_differs_r3)) gwX90)
set_option maxRecDepth 20000 in
theorem gT_X9_differs : GoodIn lw_tbl (wsV RL 139 RX9 yX9_differs wsX9_differs) := goodIn_app (goodIn_r _ [1118, 1119, 1120, 51] (by decide +kernel) (by decide +kernel)) ggT_X9_differs
set_option maxRecDepth 20000 in
theorem ggT_X8_mark : GoodIn lw_tbl wsX8_mark := goodIn_cons (goodIn_r _ [633] (by decide +kernel) (by decide +kernel)) (goodIn_app (goodIn_app (goodIn_r _ [226, 155, 634, 635, 636, 47, 637, 154, 156, 152] (by decide +kernel) (by decide +kernel)) gwX80) gwX20)
set_option maxRecDepth 20000 in
theorem gT_X8_mark : GoodIn lw_tbl (wsV RL 140 RX8 yX8_mark wsX8_mark) := goodIn_app (goodIn_r _ [630, 631, 632, 45] (by decide +kernel) (by decide +kernel)) ggT_X8_mark
set_option maxRecDepth 20000 in
theorem ggT_X9_mark : GoodIn lw_tbl wsX9_mark := goodIn_cons (goodIn_r _ [1129] (by decide +kernel) (by decide +kernel)) (goodIn_app (goodIn_r _ [779, 799, 800, 801] (by decide +kernel) (by decide +kernel)) gwX90)
set_option maxRecDepth 20000 in
theorem gT_X9_mark : GoodIn lw_tbl (wsV RL 143 RX9 yX9_mark wsX9_mark) := goodIn_app (goodIn_r _ [1126, 1127, 1128, 51] (by decide +kernel) (by decide +kernel)) ggT_X9_mark
set_option maxRecDepth 20000 in
theorem ggT_X8_undo : GoodIn lw_tbl wsX8_undo := goodIn_cons (goodIn_r _ [641] (by decide +kernel) (by decide +kernel)) (goodIn_app (goodIn_app (goodIn_app (goodIn_app (goodIn_app (goodIn_r _ [226, 155, 642, 643, 644, 47, 645, 156, 154, 152, 151, 646, 647, 648, 48, 649, 134, 198, 136, 138, 202, 140, 441] (by decide +kernel) (by decide +kernel)) gwX80) gwX20) gwX30) gwX60) gwX50)
set_option maxRecDepth 20000 in
theorem gT_X8_undo : GoodIn lw_tbl (wsV RL 144 RX8 yX8_undo wsX8_undo) := goodIn_app (goodIn_r _ [638, 639, 640, 45] (by decide +kernel) (by decide +kernel)) ggT_X8_undo
set_option maxRecDepth 20000 in
theorem ggT_X9_undo : GoodIn lw_tbl wsX9_undo := goodIn_cons (goodIn_r _ [1133] (by decide +kernel) (by decide +kernel)) (goodIn_app (goodIn_r _ [779, 799, 801, 800, 805, 794, 802, 803, 806, 797, 804] (by decide +kernel) (by decide +kernel)) gwX90)
set_option maxRecDepth 20000 in
theorem gT_X9_undo : GoodIn lw_tbl (wsV RL 147 RX9 yX9_undo wsX9_undo) := goodIn_app (goodIn_r _ [1130, 1131, 1132, 51] (by decide +kernel) (by decide +kernel)) ggT_X9_undo
