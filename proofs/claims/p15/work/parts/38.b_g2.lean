set_option maxRecDepth 20000 in
theorem gr_X8_row_r1 : GoodIn lw_tbl wsX8_row_r1 := goodIn_r _ [196, 272, 119, 434, 54, 390, 392, 1, 45, 393, 394, 396, 2, 397, 219, 218, 325, 326, 327, 52, 328, 266, 306, 307] (by decide +kernel) (by decide +kernel)
set_option maxRecDepth 20000 in
theorem gr_X8_row_r2 : GoodIn lw_tbl wsX8_row_r2 := goodIn_r _ [431, 432, 433, 398, 399, 400, 435, 436, 437, 438, 68, 69, 118, 439, 451, 453, 6, 454, 226, 204, 410, 411, 412, 47] (by decide +kernel) (by decide +kernel)
set_option maxRecDepth 20000 in
theorem gr_X8_row_r3 : GoodIn lw_tbl wsX8_row_r3 := goodIn_r _ [413, 152, 414, 415, 416, 417, 199, 203, 418, 420, 5, 421, 156, 151, 135, 137, 139, 141, 422] (by decide +kernel) (by decide +kernel)
set_option maxRecDepth 20000 in
theorem ggT_X8_row : GoodIn lw_tbl wsX8_row := goodIn_cons (goodIn_r _ [430] (by decide +kernel) (by decide +kernel)) (goodIn_app (goodIn_app (goodIn_app (goodIn_app (goodIn_app (goodIn_app (goodIn_app gr_X8_row_r1 (goodIn_app gr_X8_row_r2 gr_X8_row_r3)) gwX60) gwX70) gwX50) gwX80) gwX20) gwX30)
set_option maxRecDepth 20000 in
theorem gT_X8_row : GoodIn lw_tbl (wsV RL 78 RX8 yX8_row wsX8_row) := goodIn_app (goodIn_r _ [427, 428, 429, 45] (by decide +kernel) (by decide +kernel)) ggT_X8_row
set_option maxRecDepth 20000 in
theorem gr_X9_row_r1 : GoodIn lw_tbl wsX9_row_r1 := goodIn_r _ [779, 953, 982, 984, 25, 51, 985, 782, 793, 986, 988, 26, 989, 792, 990, 992, 27, 993, 784, 995, 997, 28, 998, 799] (by decide +kernel) (by decide +kernel)
set_option maxRecDepth 20000 in
theorem gr_X9_row_r2 : GoodIn lw_tbl wsX9_row_r2 := goodIn_r _ [801, 1011, 1013, 30, 1014, 798, 794, 804, 795, 796, 797, 999, 1001, 29, 1002, 802, 803, 805, 806] (by decide +kernel) (by decide +kernel)
set_option maxRecDepth 20000 in
theorem ggT_X9_row : GoodIn lw_tbl wsX9_row := goodIn_cons (goodIn_r _ [1010] (by decide +kernel) (by decide +kernel)) (goodIn_app (goodIn_app gr_X9_row_r1 gr_X9_row_r2) gwX90)
set_option maxRecDepth 20000 in
theorem gT_X9_row : GoodIn lw_tbl (wsV RL 81 RX9 yX9_row wsX9_row) := goodIn_app (goodIn_r _ [1007, 1008, 1009, 51] (by decide +kernel) (by decide +kernel)) ggT_X9_row
set_option maxRecDepth 20000 in
theorem gr_X8_share_r1 : GoodIn lw_tbl wsX8_share_r1 := goodIn_r _ [196, 272, 204, 390, 392, 1, 45, 393, 394, 396, 2, 397, 219, 218, 325, 326, 327, 52, 328, 266, 306, 307, 431, 432] (by decide +kernel) (by decide +kernel)
set_option maxRecDepth 20000 in
theorem gr_X8_share_r2 : GoodIn lw_tbl wsX8_share_r2 := goodIn_r _ [433, 398, 399, 400, 451, 453, 6, 454, 226, 410, 411, 412, 47, 413, 152, 414, 415, 416, 417, 199, 203, 418, 420, 5] (by decide +kernel) (by decide +kernel)
set_option maxRecDepth 20000 in
theorem gr_X8_share_r3 : GoodIn lw_tbl wsX8_share_r3 := goodIn_r _ [421, 156, 151, 135, 137, 139, 141, 422] (by decide +kernel) (by decide +kernel)
set_option maxRecDepth 20000 in
theorem ggT_X8_share : GoodIn lw_tbl wsX8_share := goodIn_cons (goodIn_r _ [458] (by decide +kernel) (by decide +kernel)) (goodIn_app (goodIn_app (goodIn_app (goodIn_app (goodIn_app (goodIn_app gr_X8_share_r1 (goodIn_app gr_X8_share_r2 gr_X8_share_r3)) gwX60) gwX70) gwX80) gwX20) gwX30)
set_option maxRecDepth 20000 in
theorem gT_X8_share : GoodIn lw_tbl (wsV RL 82 RX8 yX8_share wsX8_share) := goodIn_app (goodIn_r _ [455, 456, 457, 45] (by decide +kernel) (by decide +kernel)) ggT_X8_share
set_option maxRecDepth 20000 in
theorem gr_X9_share_r1 : GoodIn lw_tbl wsX9_share_r1 := goodIn_r _ [779, 794, 982, 984, 25, 51, 985, 782, 793, 986, 988, 26, 989, 792, 990, 992, 27, 993, 784, 995, 997, 28, 998, 799] (by decide +kernel) (by decide +kernel)
set_option maxRecDepth 20000 in
theorem gr_X9_share_r2 : GoodIn lw_tbl wsX9_share_r2 := goodIn_r _ [801, 999, 1001, 29, 1002, 802, 803, 805, 806, 804] (by decide +kernel) (by decide +kernel)
set_option maxRecDepth 20000 in
theorem ggT_X9_share : GoodIn lw_tbl wsX9_share := goodIn_cons (goodIn_r _ [1018] (by decide +kernel) (by decide +kernel)) (goodIn_app (goodIn_app gr_X9_share_r1 gr_X9_share_r2) gwX90)
set_option maxRecDepth 20000 in
theorem gT_X9_share : GoodIn lw_tbl (wsV RL 86 RX9 yX9_share wsX9_share) := goodIn_app (goodIn_r _ [1015, 1016, 1017, 51] (by decide +kernel) (by decide +kernel)) ggT_X9_share
set_option maxRecDepth 20000 in
theorem gr_X8_item_r1 : GoodIn lw_tbl wsX8_item_r1 := goodIn_r _ [196, 272, 204, 443, 226, 390, 392, 1, 45, 393, 394, 396, 2, 397, 219, 218, 325, 326, 327, 52, 328, 266, 306, 307] (by decide +kernel) (by decide +kernel)
set_option maxRecDepth 20000 in
theorem gr_X8_item_r2 : GoodIn lw_tbl wsX8_item_r2 := goodIn_r _ [431, 432, 433, 398, 399, 400, 305, 410, 411, 412, 47, 413, 152, 463, 464, 465, 466, 442, 418, 420, 5, 421, 156, 151] (by decide +kernel) (by decide +kernel)
set_option maxRecDepth 20000 in
theorem gr_X8_item_r3 : GoodIn lw_tbl wsX8_item_r3 := goodIn_r _ [135, 137, 139, 141, 422, 467, 468, 469] (by decide +kernel) (by decide +kernel)
set_option maxRecDepth 20000 in
theorem ggT_X8_item : GoodIn lw_tbl wsX8_item := goodIn_cons (goodIn_r _ [462] (by decide +kernel) (by decide +kernel)) (goodIn_app (goodIn_app (goodIn_app (goodIn_app (goodIn_app (goodIn_app (goodIn_app gr_X8_item_r1 (goodIn_app gr_X8_item_r2 gr_X8_item_r3)) gwX60) gwX70) gwX50) gwX80) gwX20) gwX30)
set_option maxRecDepth 20000 in
theorem gT_X8_item : GoodIn lw_tbl (wsV RL 87 RX8 yX8_item wsX8_item) := goodIn_app (goodIn_r _ [459, 460, 461, 45] (by decide +kernel) (by decide +kernel)) ggT_X8_item
set_option maxRecDepth 20000 in
theorem gr_X9_item_r1 : GoodIn lw_tbl wsX9_item_r1 := goodIn_r _ [779, 794, 796, 799, 804, 801, 805, 806, 797, 795, 982, 984, 25, 51, 985, 782, 793, 986, 988, 26, 989, 792, 990, 992] (by decide +kernel) (by decide +kernel)
set_option maxRecDepth 20000 in
theorem gr_X9_item_r2 : GoodIn lw_tbl wsX9_item_r2 := goodIn_r _ [27, 993, 784, 995, 997, 28, 998, 1023, 1024, 1025] (by decide +kernel) (by decide +kernel)
set_option maxRecDepth 20000 in
theorem ggT_X9_item : GoodIn lw_tbl wsX9_item := goodIn_cons (goodIn_r _ [1022] (by decide +kernel) (by decide +kernel)) (goodIn_app (goodIn_app gr_X9_item_r1 gr_X9_item_r2) gwX90)
set_option maxRecDepth 20000 in
theorem gT_X9_item : GoodIn lw_tbl (wsV RL 90 RX9 yX9_item wsX9_item) := goodIn_app (goodIn_r _ [1019, 1020, 1021, 51] (by decide +kernel) (by decide +kernel)) ggT_X9_item
set_option maxRecDepth 20000 in
theorem gr_L_at_r1 : GoodIn lw_tbl wsL_at_r1 := goodIn_r _ [657, 658, 659, 660, 661, 45, 662, 663, 58, 731, 59, 196, 272, 200, 204, 312, 443, 394, 396, 2, 397, 219, 218, 325] (by decide +kernel) (by decide +kernel)
set_option maxRecDepth 20000 in
theorem gr_L_at_r2 : GoodIn lw_tbl wsL_at_r2 := goodIn_r _ [326, 327, 52, 328, 266, 306, 307, 431, 432, 433] (by decide +kernel) (by decide +kernel)
set_option maxRecDepth 20000 in
theorem ggT_L_at : GoodIn lw_tbl wsL_at := goodIn_cons (goodIn_r _ [656] (by decide +kernel) (by decide +kernel)) (goodIn_app (goodIn_app (goodIn_app (goodIn_app (goodIn_app (goodIn_app (goodIn_app gr_L_at_r1 gr_L_at_r2) gwX60) gwX70) gwX50) gwX80) gvx0) gvx1)
set_option maxRecDepth 20000 in
theorem gT_L_at : GoodIn lw_tbl (va_wsS RL 91 yL_at wsL_at) := goodIn_app (goodIn_r _ [654, 655, 44] (by decide +kernel) (by decide +kernel)) ggT_L_at
set_option maxRecDepth 20000 in
theorem ggT_X9_at : GoodIn lw_tbl wsX9_at := goodIn_cons (goodIn_r _ [1029] (by decide +kernel) (by decide +kernel)) (goodIn_app (goodIn_r _ [779, 794, 796, 986, 988, 26, 51, 989, 792, 982, 984, 25, 985, 782, 793, 990, 992, 27, 993, 784] (by decide +kernel) (by decide +kernel)) gwX90)
set_option maxRecDepth 20000 in
theorem gT_X9_at : GoodIn lw_tbl (wsV RL 96 RX9 yX9_at wsX9_at) := goodIn_app (goodIn_r _ [1026, 1027, 1028, 51] (by decide +kernel) (by decide +kernel)) ggT_X9_at
set_option maxRecDepth 20000 in
theorem ggT_X9_thrown : GoodIn lw_tbl wsX9_thrown := goodIn_cons (goodIn_r _ [936] (by decide +kernel) (by decide +kernel)) (goodIn_app (goodIn_r _ [779] (by decide +kernel) (by decide +kernel)) gwX90)
set_option maxRecDepth 20000 in
theorem gT_X9_thrown : GoodIn lw_tbl (wsV RL 97 RX9 yX9_thrown wsX9_thrown) := goodIn_app (goodIn_r _ [933, 934, 935, 51] (by decide +kernel) (by decide +kernel)) ggT_X9_thrown
set_option maxRecDepth 20000 in
theorem gr_L_itemAt_r1 : GoodIn lw_tbl wsL_itemAt_r1 := goodIn_r _ [657, 750, 658, 751, 752, 753, 45, 754, 663, 58, 731, 59, 755, 60, 196, 272, 204, 443, 394, 396, 2, 397, 219, 218] (by decide +kernel) (by decide +kernel)
set_option maxRecDepth 20000 in
theorem gr_L_itemAt_r2 : GoodIn lw_tbl wsL_itemAt_r2 := goodIn_r _ [325, 326, 327, 52, 328, 266, 306, 307, 431, 432, 433, 305] (by decide +kernel) (by decide +kernel)
set_option maxRecDepth 20000 in
theorem ggT_L_itemAt : GoodIn lw_tbl wsL_itemAt := goodIn_cons (goodIn_r _ [749] (by decide +kernel) (by decide +kernel)) (goodIn_app (goodIn_app (goodIn_app (goodIn_app (goodIn_app (goodIn_app (goodIn_app (goodIn_app gr_L_itemAt_r1 gr_L_itemAt_r2) gwX60) gwX70) gwX50) gwX80) gvx0) gvx1) gvx2)
set_option maxRecDepth 20000 in
theorem gT_L_itemAt : GoodIn lw_tbl (va_wsS RL 100 yL_itemAt wsL_itemAt) := goodIn_app (goodIn_r _ [747, 748, 44] (by decide +kernel) (by decide +kernel)) ggT_L_itemAt
set_option maxRecDepth 20000 in
theorem ggT_X9_itemAt : GoodIn lw_tbl wsX9_itemAt := goodIn_cons (goodIn_r _ [1033] (by decide +kernel) (by decide +kernel)) (goodIn_app (goodIn_r _ [779, 794, 796, 797, 986, 988, 26, 51, 989, 792, 982, 984, 25, 985, 782, 793, 990, 992, 27, 993, 784] (by decide +kernel) (by decide +kernel)) gwX90)
set_option maxRecDepth 20000 in
theorem gT_X9_itemAt : GoodIn lw_tbl (wsV RL 103 RX9 yX9_itemAt wsX9_itemAt) := goodIn_app (goodIn_r _ [1030, 1031, 1032, 51] (by decide +kernel) (by decide +kernel)) ggT_X9_itemAt
