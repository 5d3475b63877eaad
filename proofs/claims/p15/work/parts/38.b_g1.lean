set_option maxRecDepth 20000 in
theorem ggT_X9_check : GoodIn lw_tbl wsX9_check := goodIn_cons (goodIn_r _ [965] (by decide +kernel) (by decide +kernel)) (goodIn_app (goodIn_r _ [779, 787, 788, 789, 790, 791, 945, 947, 23, 51, 948, 781] (by decide +kernel) (by decide +kernel)) gwX90)
set_option maxRecDepth 20000 in
theorem gT_X9_check : GoodIn lw_tbl (wsV RL 53 RX9 yX9_check wsX9_check) := goodIn_app (goodIn_r _ [962, 963, 964, 51] (by decide +kernel) (by decide +kernel)) ggT_X9_check
set_option maxRecDepth 20000 in
theorem ggT_X8_unchecked : GoodIn lw_tbl wsX8_unchecked := goodIn_cons (goodIn_r _ [372] (by decide +kernel) (by decide +kernel)) (goodIn_app (goodIn_app (goodIn_r _ [277, 301, 303, 0, 45, 304, 217, 216, 305, 306, 307] (by decide +kernel) (by decide +kernel)) gwX70) gwX80)
set_option maxRecDepth 20000 in
theorem gT_X8_unchecked : GoodIn lw_tbl (wsV RL 54 RX8 yX8_unchecked wsX8_unchecked) := goodIn_app (goodIn_r _ [369, 370, 371, 45] (by decide +kernel) (by decide +kernel)) ggT_X8_unchecked
set_option maxRecDepth 20000 in
theorem ggT_X9_unchecked : GoodIn lw_tbl wsX9_unchecked := goodIn_cons (goodIn_r _ [969] (by decide +kernel) (by decide +kernel)) (goodIn_app (goodIn_r _ [779, 787, 945, 947, 23, 51, 948, 781] (by decide +kernel) (by decide +kernel)) gwX90)
set_option maxRecDepth 20000 in
theorem gT_X9_unchecked : GoodIn lw_tbl (wsV RL 58 RX9 yX9_unchecked wsX9_unchecked) := goodIn_app (goodIn_r _ [966, 967, 968, 51] (by decide +kernel) (by decide +kernel)) ggT_X9_unchecked
set_option maxRecDepth 20000 in
theorem ggT_X8_word : GoodIn lw_tbl wsX8_word := goodIn_cons (goodIn_r _ [376] (by decide +kernel) (by decide +kernel)) (goodIn_app (goodIn_r _ [220, 305, 306, 45, 307] (by decide +kernel) (by decide +kernel)) gwX80)
set_option maxRecDepth 20000 in
theorem gT_X8_word : GoodIn lw_tbl (wsV RL 59 RX8 yX8_word wsX8_word) := goodIn_app (goodIn_r _ [373, 374, 375, 45] (by decide +kernel) (by decide +kernel)) ggT_X8_word
set_option maxRecDepth 20000 in
theorem ggT_X9_word : GoodIn lw_tbl wsX9_word := goodIn_cons (goodIn_r _ [973] (by decide +kernel) (by decide +kernel)) (goodIn_app (goodIn_r _ [779, 780] (by decide +kernel) (by decide +kernel)) gwX90)
set_option maxRecDepth 20000 in
theorem gT_X9_word : GoodIn lw_tbl (wsV RL 63 RX9 yX9_word wsX9_word) := goodIn_app (goodIn_r _ [970, 971, 972, 51] (by decide +kernel) (by decide +kernel)) ggT_X9_word
set_option maxRecDepth 20000 in
theorem gr_X8_thing_r1 : GoodIn lw_tbl wsX8_thing_r1 := goodIn_r _ [219, 218, 301, 303, 0, 45, 304, 217, 216, 305, 306, 307, 381, 382, 383, 50, 384, 195, 267, 385, 318, 319, 320, 197] (by decide +kernel) (by decide +kernel)
set_option maxRecDepth 20000 in
theorem gr_X8_thing_r2 : GoodIn lw_tbl wsX8_thing_r2 := goodIn_r _ [274, 201] (by decide +kernel) (by decide +kernel)
set_option maxRecDepth 20000 in
theorem ggT_X8_thing : GoodIn lw_tbl wsX8_thing := goodIn_cons (goodIn_r _ [380] (by decide +kernel) (by decide +kernel)) (goodIn_app (goodIn_app (goodIn_app (goodIn_app gr_X8_thing_r1 gr_X8_thing_r2) gwX80) gwX60) gwX70)
set_option maxRecDepth 20000 in
theorem gT_X8_thing : GoodIn lw_tbl (wsV RL 64 RX8 yX8_thing wsX8_thing) := goodIn_app (goodIn_r _ [377, 378, 379, 45] (by decide +kernel) (by decide +kernel)) ggT_X8_thing
set_option maxRecDepth 20000 in
theorem ggT_X9_thing : GoodIn lw_tbl wsX9_thing := goodIn_cons (goodIn_r _ [977] (by decide +kernel) (by decide +kernel)) (goodIn_app (goodIn_r _ [779, 792, 793, 782, 794, 785, 945, 947, 23, 51, 948, 781] (by decide +kernel) (by decide +kernel)) gwX90)
set_option maxRecDepth 20000 in
theorem gT_X9_thing : GoodIn lw_tbl (wsV RL 67 RX9 yX9_thing wsX9_thing) := goodIn_app (goodIn_r _ [974, 975, 976, 51] (by decide +kernel) (by decide +kernel)) ggT_X9_thing
set_option maxRecDepth 20000 in
theorem gr_X8_put_r1 : GoodIn lw_tbl wsX8_put_r1 := goodIn_r _ [196, 272, 312, 390, 392, 1, 45, 393, 394, 396, 2, 397, 219, 218, 325, 326, 327, 52, 328, 266, 306, 307, 398, 399] (by decide +kernel) (by decide +kernel)
set_option maxRecDepth 20000 in
theorem gr_X8_put_r2 : GoodIn lw_tbl wsX8_put_r2 := goodIn_r _ [400, 401, 403, 3, 404, 405, 220, 406, 408, 4, 409, 226, 200, 410, 411, 412, 47, 413, 152, 414, 415, 416, 417, 199] (by decide +kernel) (by decide +kernel)
set_option maxRecDepth 20000 in
theorem gr_X8_put_r3 : GoodIn lw_tbl wsX8_put_r3 := goodIn_r _ [203, 418, 420, 5, 421, 156, 151, 135, 137, 139, 141, 422] (by decide +kernel) (by decide +kernel)
set_option maxRecDepth 20000 in
theorem ggT_X8_put : GoodIn lw_tbl wsX8_put := goodIn_cons (goodIn_r _ [389] (by decide +kernel) (by decide +kernel)) (goodIn_app (goodIn_app (goodIn_app (goodIn_app (goodIn_app (goodIn_app gr_X8_put_r1 (goodIn_app gr_X8_put_r2 gr_X8_put_r3)) gwX60) gwX70) gwX80) gwX20) gwX30)
set_option maxRecDepth 20000 in
theorem gT_X8_put : GoodIn lw_tbl (wsV RL 68 RX8 yX8_put wsX8_put) := goodIn_app (goodIn_r _ [386, 387, 388, 45] (by decide +kernel) (by decide +kernel)) ggT_X8_put
set_option maxRecDepth 20000 in
theorem gr_X9_put_r1 : GoodIn lw_tbl wsX9_put_r1 := goodIn_r _ [779, 953, 994, 780, 982, 984, 25, 51, 985, 782, 793, 986, 988, 26, 989, 792, 990, 992, 27, 993, 784, 995, 997, 28] (by decide +kernel) (by decide +kernel)
set_option maxRecDepth 20000 in
theorem gr_X9_put_r2 : GoodIn lw_tbl wsX9_put_r2 := goodIn_r _ [998, 799, 801, 999, 1001, 29, 1002, 802, 803, 805, 806, 794, 804] (by decide +kernel) (by decide +kernel)
set_option maxRecDepth 20000 in
theorem ggT_X9_put : GoodIn lw_tbl wsX9_put := goodIn_cons (goodIn_r _ [981] (by decide +kernel) (by decide +kernel)) (goodIn_app (goodIn_app gr_X9_put_r1 gr_X9_put_r2) gwX90)
set_option maxRecDepth 20000 in
theorem gT_X9_put : GoodIn lw_tbl (wsV RL 72 RX9 yX9_put wsX9_put) := goodIn_app (goodIn_r _ [978, 979, 980, 51] (by decide +kernel) (by decide +kernel)) ggT_X9_put
set_option maxRecDepth 20000 in
theorem gr_X8_refer_r1 : GoodIn lw_tbl wsX8_refer_r1 := goodIn_r _ [219, 196, 272, 390, 392, 1, 45, 393, 394, 396, 2, 397, 218, 325, 326, 327, 52, 328, 266, 306, 307, 305, 398, 399] (by decide +kernel) (by decide +kernel)
set_option maxRecDepth 20000 in
theorem gr_X8_refer_r2 : GoodIn lw_tbl wsX8_refer_r2 := goodIn_r _ [400, 406, 408, 4, 409, 226, 200, 410, 411, 412, 47, 413, 152, 414, 415, 416, 417, 199, 203, 418, 420, 5, 421, 156] (by decide +kernel) (by decide +kernel)
set_option maxRecDepth 20000 in
theorem gr_X8_refer_r3 : GoodIn lw_tbl wsX8_refer_r3 := goodIn_r _ [151, 135, 137, 139, 141, 422] (by decide +kernel) (by decide +kernel)
set_option maxRecDepth 20000 in
theorem ggT_X8_refer : GoodIn lw_tbl wsX8_refer := goodIn_cons (goodIn_r _ [426] (by decide +kernel) (by decide +kernel)) (goodIn_app (goodIn_app (goodIn_app (goodIn_app (goodIn_app (goodIn_app gr_X8_refer_r1 (goodIn_app gr_X8_refer_r2 gr_X8_refer_r3)) gwX80) gwX60) gwX70) gwX20) gwX30)
set_option maxRecDepth 20000 in
theorem gT_X8_refer : GoodIn lw_tbl (wsV RL 73 RX8 yX8_refer wsX8_refer) := goodIn_app (goodIn_r _ [423, 424, 425, 45] (by decide +kernel) (by decide +kernel)) ggT_X8_refer
set_option maxRecDepth 20000 in
theorem gr_X9_refer_r1 : GoodIn lw_tbl wsX9_refer_r1 := goodIn_r _ [779, 982, 984, 25, 51, 985, 782, 793, 986, 988, 26, 989, 792, 990, 992, 27, 993, 784, 995, 997, 28, 998, 799, 801] (by decide +kernel) (by decide +kernel)
set_option maxRecDepth 20000 in
theorem gr_X9_refer_r2 : GoodIn lw_tbl wsX9_refer_r2 := goodIn_r _ [999, 1001, 29, 1002, 802, 803, 805, 806, 794, 804] (by decide +kernel) (by decide +kernel)
set_option maxRecDepth 20000 in
theorem ggT_X9_refer : GoodIn lw_tbl wsX9_refer := goodIn_cons (goodIn_r _ [1006] (by decide +kernel) (by decide +kernel)) (goodIn_app (goodIn_app gr_X9_refer_r1 gr_X9_refer_r2) gwX90)
set_option maxRecDepth 20000 in
theorem gT_X9_refer : GoodIn lw_tbl (wsV RL 77 RX9 yX9_refer wsX9_refer) := goodIn_app (goodIn_r _ [1003, 1004, 1005, 51] (by decide +kernel) (by decide +kernel)) ggT_X9_refer
