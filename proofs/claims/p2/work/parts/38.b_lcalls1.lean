set_option maxRecDepth 20000 in
theorem ggL_law_X8_word : GoodIn wsL_law wsX8_word := goodIn_r _ [250, 19, 156, 157, 2, 158, 762, 763, 764, 765, 766, 767, 768, 769, 770, 771, 772, 773] (by decide +kernel) (by decide +kernel)
set_option maxRecDepth 20000 in
theorem gL_law_X8_word : GoodIn wsL_law (wsV RL 59 RX8 yX8_word wsX8_word) := goodIn_app (goodIn_of _ (by decide +kernel)) ggL_law_X8_word
set_option maxRecDepth 20000 in
theorem ggL_law_X9_word : GoodIn wsL_law wsX9_word := goodIn_r _ [254, 141, 75, 774, 775, 776, 777, 778, 779, 780, 781, 782, 783, 784, 785, 786, 787, 788, 789, 790, 791, 792, 793, 794, 795, 796, 797, 798, 799, 800, 801, 802, 803, 804, 805, 806, 807, 808, 809, 810, 811, 812, 813, 814, 815, 816, 817, 818, 819, 820, 821, 822, 823, 824] (by decide +kernel) (by decide +kernel)
set_option maxRecDepth 20000 in
theorem gL_law_X9_word : GoodIn wsL_law (wsV RL 63 RX9 yX9_word wsX9_word) := goodIn_app (goodIn_of _ (by decide +kernel)) ggL_law_X9_word
set_option maxRecDepth 20000 in
theorem ggL_law_X8_thing : GoodIn wsL_law wsX8_thing := goodIn_r _ [258, 150, 17, 152, 153, 154, 2, 155, 123, 15, 156, 157, 158, 259, 260, 261, 38, 262, 172, 263, 264, 169, 170, 171, 68, 173, 70, 762, 763, 764, 765, 766, 767, 768, 769, 770, 771, 772, 773, 842, 843, 844, 845, 850, 851, 852, 853, 854, 855, 856, 857] (by decide +kernel) (by decide +kernel)
set_option maxRecDepth 20000 in
theorem gL_law_X8_thing : GoodIn wsL_law (wsV RL 64 RX8 yX8_thing wsX8_thing) := goodIn_app (goodIn_of _ (by decide +kernel)) ggL_law_X8_thing
set_option maxRecDepth 20000 in
theorem ggL_law_X9_thing : GoodIn wsL_law wsX9_thing := goodIn_r _ [268, 141, 180, 86, 76, 87, 79, 181, 182, 183, 5, 184, 142, 774, 775, 776, 777, 778, 779, 780, 781, 782, 783, 784, 785, 786, 787, 788, 789, 790, 791, 792, 793, 794, 795, 796, 797, 798, 799, 800, 801, 802, 803, 804, 805, 806, 807, 808, 809, 810, 811, 812, 813, 814, 815, 816, 817, 818, 819, 820, 821, 822, 823, 824] (by decide +kernel) (by decide +kernel)
set_option maxRecDepth 20000 in
theorem gL_law_X9_thing : GoodIn wsL_law (wsV RL 67 RX9 yX9_thing wsX9_thing) := goodIn_app (goodIn_of _ (by decide +kernel)) ggL_law_X9_thing
set_option maxRecDepth 20000 in
theorem ggL_law_X8_put : GoodIn wsL_law wsX8_put := goodIn_r _ [272, 151, 273, 149, 274, 275, 276, 2, 277, 278, 279, 280, 281, 150, 17, 193, 194, 195, 125, 196, 163, 157, 158, 282, 283, 284, 285, 286, 287, 288, 289, 19, 290, 291, 292, 293, 32, 294, 295, 296, 297, 31, 298, 299, 300, 301, 302, 303, 304, 305, 306, 307, 308, 309, 310, 55, 311, 312, 313, 314, 315, 842, 843, 844, 845, 850, 851, 852, 853, 854, 855, 856, 857, 762, 763, 764, 765, 766, 767, 768, 769, 770, 771, 772, 773, 834, 835, 836, 837, 846, 847, 848, 849] (by decide +kernel) (by decide +kernel)
set_option maxRecDepth 20000 in
theorem gL_law_X8_put : GoodIn wsL_law (wsV RL 68 RX8 yX8_put wsX8_put) := goodIn_app (goodIn_of _ (by decide +kernel)) ggL_law_X8_put
set_option maxRecDepth 20000 in
theorem ggL_law_X9_put : GoodIn wsL_law wsX9_put := goodIn_r _ [319, 141, 179, 320, 75, 321, 322, 323, 5, 324, 76, 86, 325, 326, 327, 328, 180, 329, 330, 331, 332, 78, 333, 334, 335, 336, 178, 337, 338, 339, 340, 341, 93, 94, 96, 97, 87, 95, 774, 775, 776, 777, 778, 779, 780, 781, 782, 783, 784, 785, 786, 787, 788, 789, 790, 791, 792, 793, 794, 795, 796, 797, 798, 799, 800, 801, 802, 803, 804, 805, 806, 807, 808, 809, 810, 811, 812, 813, 814, 815, 816, 817, 818, 819, 820, 821, 822, 823, 824] (by decide +kernel) (by decide +kernel)
set_option maxRecDepth 20000 in
theorem gL_law_X9_put : GoodIn wsL_law (wsV RL 72 RX9 yX9_put wsX9_put) := goodIn_app (goodIn_of _ (by decide +kernel)) ggL_law_X9_put
set_option maxRecDepth 20000 in
theorem ggL_law_X8_refer : GoodIn wsL_law wsX8_refer := goodIn_r _ [345, 150, 151, 273, 274, 275, 276, 2, 277, 278, 279, 280, 281, 17, 193, 194, 195, 125, 196, 163, 157, 158, 156, 282, 283, 284, 290, 291, 292, 293, 32, 294, 295, 296, 297, 31, 298, 299, 300, 301, 302, 303, 304, 305, 306, 307, 308, 309, 310, 55, 311, 312, 313, 314, 315, 762, 763, 764, 765, 766, 767, 768, 769, 770, 771, 772, 773, 842, 843, 844, 845, 850, 851, 852, 853, 854, 855, 856, 857, 834, 835, 836, 837, 846, 847, 848, 849] (by decide +kernel) (by decide +kernel)
set_option maxRecDepth 20000 in
theorem gL_law_X8_refer : GoodIn wsL_law (wsV RL 73 RX8 yX8_refer wsX8_refer) := goodIn_app (goodIn_of _ (by decide +kernel)) ggL_law_X8_refer
set_option maxRecDepth 20000 in
theorem ggL_law_X9_refer : GoodIn wsL_law wsX9_refer := goodIn_r _ [349, 141, 321, 322, 323, 5, 324, 76, 86, 325, 326, 327, 328, 180, 329, 330, 331, 332, 78, 333, 334, 335, 336, 178, 337, 338, 339, 340, 341, 93, 94, 96, 97, 87, 95, 774, 775, 776, 777, 778, 779, 780, 781, 782, 783, 784, 785, 786, 787, 788, 789, 790, 791, 792, 793, 794, 795, 796, 797, 798, 799, 800, 801, 802, 803, 804, 805, 806, 807, 808, 809, 810, 811, 812, 813, 814, 815, 816, 817, 818, 819, 820, 821, 822, 823, 824] (by decide +kernel) (by decide +kernel)
set_option maxRecDepth 20000 in
theorem gL_law_X9_refer : GoodIn wsL_law (wsV RL 77 RX9 yX9_refer wsX9_refer) := goodIn_app (goodIn_of _ (by decide +kernel)) ggL_law_X9_refer
set_option maxRecDepth 20000 in
theorem ggL_law_X8_row : GoodIn wsL_law wsX8_row := goodIn_r _ [353, 151, 273, 27, 354, 355, 274, 275, 276, 2, 277, 278, 279, 280, 281, 150, 17, 193, 194, 195, 125, 196, 163, 157, 158, 356, 357, 358, 282, 283, 284, 359, 360, 361, 362, 12, 13, 6, 363, 364, 365, 366, 367, 32, 368, 295, 296, 297, 31, 298, 299, 300, 301, 302, 303, 304, 305, 306, 307, 308, 309, 310, 55, 311, 312, 313, 314, 315, 842, 843, 844, 845, 850, 851, 852, 853, 854, 855, 856, 857, 862, 863, 762, 763, 764, 765, 766, 767, 768, 769, 770, 771, 772, 773, 834, 835, 836, 837, 846, 847, 848, 849] (by decide +kernel) (by decide +kernel)
set_option maxRecDepth 20000 in
theorem gL_law_X8_row : GoodIn wsL_law (wsV RL 78 RX8 yX8_row wsX8_row) := goodIn_app (goodIn_of _ (by decide +kernel)) ggL_law_X8_row
set_option maxRecDepth 20000 in
theorem ggL_law_X9_row : GoodIn wsL_law wsX9_row := goodIn_r _ [372, 141, 179, 321, 322, 323, 5, 324, 76, 86, 325, 326, 327, 328, 180, 329, 330, 331, 332, 78, 333, 334, 335, 336, 178, 337, 373, 374, 375, 376, 91, 87, 95, 88, 89, 90, 338, 339, 340, 341, 93, 94, 96, 97, 774, 775, 776, 777, 778, 779, 780, 781, 782, 783, 784, 785, 786, 787, 788, 789, 790, 791, 792, 793, 794, 795, 796, 797, 798, 799, 800, 801, 802, 803, 804, 805, 806, 807, 808, 809, 810, 811, 812, 813, 814, 815, 816, 817, 818, 819, 820, 821, 822, 823, 824] (by decide +kernel) (by decide +kernel)
set_option maxRecDepth 20000 in
theorem gL_law_X9_row : GoodIn wsL_law (wsV RL 81 RX9 yX9_row wsX9_row) := goodIn_app (goodIn_of _ (by decide +kernel)) ggL_law_X9_row
set_option maxRecDepth 20000 in
theorem ggL_law_X8_share : GoodIn wsL_law wsX8_share := goodIn_r _ [380, 151, 273, 368, 274, 275, 276, 2, 277, 278, 279, 280, 281, 150, 17, 193, 194, 195, 125, 196, 163, 157, 158, 356, 357, 358, 282, 283, 284, 364, 365, 366, 367, 32, 295, 296, 297, 31, 298, 299, 300, 301, 302, 303, 304, 305, 306, 307, 308, 309, 310, 55, 311, 312, 313, 314, 315, 842, 843, 844, 845, 850, 851, 852, 853, 854, 855, 856, 857, 762, 763, 764, 765, 766, 767, 768, 769, 770, 771, 772, 773, 834, 835, 836, 837, 846, 847, 848, 849] (by decide +kernel) (by decide +kernel)
set_option maxRecDepth 20000 in
theorem gL_law_X8_share : GoodIn wsL_law (wsV RL 82 RX8 yX8_share wsX8_share) := goodIn_app (goodIn_of _ (by decide +kernel)) ggL_law_X8_share
set_option maxRecDepth 20000 in
theorem ggL_law_X9_share : GoodIn wsL_law wsX9_share := goodIn_r _ [384, 141, 87, 321, 322, 323, 5, 324, 76, 86, 325, 326, 327, 328, 180, 329, 330, 331, 332, 78, 333, 334, 335, 336, 178, 337, 338, 339, 340, 341, 93, 94, 96, 97, 95, 774, 775, 776, 777, 778, 779, 780, 781, 782, 783, 784, 785, 786, 787, 788, 789, 790, 791, 792, 793, 794, 795, 796, 797, 798, 799, 800, 801, 802, 803, 804, 805, 806, 807, 808, 809, 810, 811, 812, 813, 814, 815, 816, 817, 818, 819, 820, 821, 822, 823, 824] (by decide +kernel) (by decide +kernel)
set_option maxRecDepth 20000 in
theorem gL_law_X9_share : GoodIn wsL_law (wsV RL 86 RX9 yX9_share wsX9_share) := goodIn_app (goodIn_of _ (by decide +kernel)) ggL_law_X9_share
set_option maxRecDepth 20000 in
theorem ggL_law_X8_item : GoodIn wsL_law wsX8_item := goodIn_r _ [388, 151, 273, 368, 389, 32, 274, 275, 276, 2, 277, 278, 279, 280, 281, 150, 17, 193, 194, 195, 125, 196, 163, 157, 158, 356, 357, 358, 282, 283, 284, 156, 295, 296, 297, 31, 298, 299, 390, 391, 392, 393, 394, 306, 307, 308, 309, 310, 55, 311, 312, 313, 314, 315, 395, 396, 397, 842, 843, 844, 845, 850, 851, 852, 853, 854, 855, 856, 857, 862, 863, 762, 763, 764, 765, 766, 767, 768, 769, 770, 771, 772, 773, 834, 835, 836, 837, 846, 847, 848, 849] (by decide +kernel) (by decide +kernel)
set_option maxRecDepth 20000 in
theorem gL_law_X8_item : GoodIn wsL_law (wsV RL 87 RX8 yX8_item wsX8_item) := goodIn_app (goodIn_of _ (by decide +kernel)) ggL_law_X8_item
set_option maxRecDepth 20000 in
theorem ggL_law_X9_item : GoodIn wsL_law wsX9_item := goodIn_r _ [401, 141, 87, 89, 178, 95, 337, 96, 97, 90, 88, 321, 322, 323, 5, 324, 76, 86, 325, 326, 327, 328, 180, 329, 330, 331, 332, 78, 333, 334, 335, 336, 402, 403, 404, 774, 775, 776, 777, 778, 779, 780, 781, 782, 783, 784, 785, 786, 787, 788, 789, 790, 791, 792, 793, 794, 795, 796, 797, 798, 799, 800, 801, 802, 803, 804, 805, 806, 807, 808, 809, 810, 811, 812, 813, 814, 815, 816, 817, 818, 819, 820, 821, 822, 823, 824] (by decide +kernel) (by decide +kernel)
set_option maxRecDepth 20000 in
theorem gL_law_X9_item : GoodIn wsL_law (wsV RL 90 RX9 yX9_item wsX9_item) := goodIn_app (goodIn_of _ (by decide +kernel)) ggL_law_X9_item
