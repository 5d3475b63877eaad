set_option maxRecDepth 20000 in
theorem ggL_law_L_at : GoodIn wsL_law wsL_at := goodIn_ca (goodIn_ca (goodIn_r _ [408, 409, 410, 411, 412, 413, 2, 414, 415, 416, 417, 418, 151, 273, 294, 368, 149, 389, 278, 279, 280, 281, 150, 17, 193, 194, 195, 125, 196, 163, 157, 158, 356, 357, 358, 842, 843, 844, 845, 850, 851, 852, 853, 854, 855, 856, 857, 862, 863, 762, 763, 764, 765, 766, 767, 768, 769, 770, 771, 772, 773] (by decide +kernel) (by decide +kernel)) (goodIn_sub (fun _ h => List.mem_append_left _ (List.mem_append_left _ (List.mem_append_right _ h))) (by decide +kernel))) (goodIn_sub (fun _ h => List.mem_append_left _ (List.mem_append_right _ h)) (by decide +kernel))
set_option maxRecDepth 20000 in
theorem gL_law_L_at : GoodIn wsL_law (va_wsS RL 91 yL_at wsL_at) := goodIn_app (goodIn_of _ (by decide +kernel)) ggL_law_L_at
set_option maxRecDepth 20000 in
theorem ggL_law_X9_at : GoodIn wsL_law wsX9_at := goodIn_r _ [422, 141, 87, 89, 325, 326, 327, 5, 328, 180, 321, 322, 323, 324, 76, 86, 329, 330, 331, 332, 78, 774, 775, 776, 777, 778, 779, 780, 781, 782, 783, 784, 785, 786, 787, 788, 789, 790, 791, 792, 793, 794, 795, 796, 797, 798, 799, 800, 801, 802, 803, 804, 805, 806, 807, 808, 809, 810, 811, 812, 813, 814, 815, 816, 817, 818, 819, 820, 821, 822, 823, 824] (by decide +kernel) (by decide +kernel)
set_option maxRecDepth 20000 in
theorem gL_law_X9_at : GoodIn wsL_law (wsV RL 96 RX9 yX9_at wsX9_at) := goodIn_app (goodIn_of _ (by decide +kernel)) ggL_law_X9_at
set_option maxRecDepth 20000 in
theorem ggL_law_L_itemAt : GoodIn wsL_law wsL_itemAt := goodIn_ca (goodIn_ca (goodIn_ca (goodIn_r _ [425, 409, 426, 410, 427, 428, 429, 2, 430, 415, 416, 417, 418, 431, 432, 151, 273, 368, 389, 278, 279, 280, 281, 150, 17, 193, 194, 195, 125, 196, 163, 157, 158, 356, 357, 358, 156, 842, 843, 844, 845, 850, 851, 852, 853, 854, 855, 856, 857, 862, 863, 762, 763, 764, 765, 766, 767, 768, 769, 770, 771, 772, 773] (by decide +kernel) (by decide +kernel)) (goodIn_sub (fun _ h => List.mem_append_left _ (List.mem_append_left _ (List.mem_append_right _ h))) (by decide +kernel))) (goodIn_sub (fun _ h => List.mem_append_left _ (List.mem_append_right _ h)) (by decide +kernel))) (goodIn_sub (fun _ h => List.mem_append_right _ h) (by decide +kernel))
set_option maxRecDepth 20000 in
theorem gL_law_L_itemAt : GoodIn wsL_law (va_wsS RL 97 yL_itemAt wsL_itemAt) := goodIn_app (goodIn_of _ (by decide +kernel)) ggL_law_L_itemAt
set_option maxRecDepth 20000 in
theorem ggL_law_X9_itemAt : GoodIn wsL_law wsX9_itemAt := goodIn_r _ [436, 141, 87, 89, 90, 325, 326, 327, 5, 328, 180, 321, 322, 323, 324, 76, 86, 329, 330, 331, 332, 78, 774, 775, 776, 777, 778, 779, 780, 781, 782, 783, 784, 785, 786, 787, 788, 789, 790, 791, 792, 793, 794, 795, 796, 797, 798, 799, 800, 801, 802, 803, 804, 805, 806, 807, 808, 809, 810, 811, 812, 813, 814, 815, 816, 817, 818, 819, 820, 821, 822, 823, 824] (by decide +kernel) (by decide +kernel)
set_option maxRecDepth 20000 in
theorem gL_law_X9_itemAt : GoodIn wsL_law (wsV RL 100 RX9 yX9_itemAt wsX9_itemAt) := goodIn_app (goodIn_of _ (by decide +kernel)) ggL_law_X9_itemAt
set_option maxRecDepth 20000 in
theorem ggL_law_X8_forget : GoodIn wsL_law wsX8_forget := goodIn_r _ [440, 32, 147, 150, 762, 763, 764, 765, 766, 767, 768, 769, 770, 771, 772, 773, 834, 835, 836, 837] (by decide +kernel) (by decide +kernel)
set_option maxRecDepth 20000 in
theorem gL_law_X8_forget : GoodIn wsL_law (wsV RL 101 RX8 yX8_forget wsX8_forget) := goodIn_app (goodIn_of _ (by decide +kernel)) ggL_law_X8_forget
set_option maxRecDepth 20000 in
theorem ggL_law_X9_forget : GoodIn wsL_law wsX9_forget := goodIn_r _ [444, 141, 178, 180, 774, 775, 776, 777, 778, 779, 780, 781, 782, 783, 784, 785, 786, 787, 788, 789, 790, 791, 792, 793, 794, 795, 796, 797, 798, 799, 800, 801, 802, 803, 804, 805, 806, 807, 808, 809, 810, 811, 812, 813, 814, 815, 816, 817, 818, 819, 820, 821, 822, 823, 824] (by decide +kernel) (by decide +kernel)
set_option maxRecDepth 20000 in
theorem gL_law_X9_forget : GoodIn wsL_law (wsV RL 104 RX9 yX9_forget wsX9_forget) := goodIn_app (goodIn_of _ (by decide +kernel)) ggL_law_X9_forget
set_option maxRecDepth 20000 in
theorem ggL_law_X8_told : GoodIn wsL_law wsX8_told := goodIn_r _ [448, 151, 449, 148, 278, 279, 280, 2, 281, 150, 17, 842, 843, 844, 845, 850, 851, 852, 853, 854, 855, 856, 857, 762, 763, 764, 765, 766, 767, 768, 769, 770, 771, 772, 773] (by decide +kernel) (by decide +kernel)
set_option maxRecDepth 20000 in
theorem gL_law_X8_told : GoodIn wsL_law (wsV RL 105 RX8 yX8_told wsX8_told) := goodIn_app (goodIn_of _ (by decide +kernel)) ggL_law_X8_told
set_option maxRecDepth 20000 in
theorem ggL_law_X9_told : GoodIn wsL_law wsX9_told := goodIn_r _ [453, 141, 86, 76, 325, 326, 327, 5, 328, 180, 774, 775, 776, 777, 778, 779, 780, 781, 782, 783, 784, 785, 786, 787, 788, 789, 790, 791, 792, 793, 794, 795, 796, 797, 798, 799, 800, 801, 802, 803, 804, 805, 806, 807, 808, 809, 810, 811, 812, 813, 814, 815, 816, 817, 818, 819, 820, 821, 822, 823, 824] (by decide +kernel) (by decide +kernel)
set_option maxRecDepth 20000 in
theorem gL_law_X9_told : GoodIn wsL_law (wsV RL 108 RX9 yX9_told wsX9_told) := goodIn_app (goodIn_of _ (by decide +kernel)) ggL_law_X9_told
set_option maxRecDepth 20000 in
theorem ggL_law_X8_judge : GoodIn wsL_law wsX8_judge := goodIn_r _ [457, 151, 223, 278, 279, 280, 2, 281, 150, 17, 458, 459, 460, 461, 222, 462, 463, 464, 465, 466, 467, 468, 469, 470, 471, 294, 472, 473, 474, 125, 475, 131, 476, 194, 195, 196, 163, 157, 158, 477, 478, 479, 480, 449, 481, 482, 483, 484, 368, 389, 485, 486, 487, 488, 357, 358, 489, 490, 491, 492, 493, 494, 495, 496, 497, 498, 499, 500, 159, 160, 161, 162, 130, 282, 283, 284, 842, 843, 844, 845, 850, 851, 852, 853, 854, 855, 856, 857, 762, 763, 764, 765, 766, 767, 768, 769, 770, 771, 772, 773, 858, 859, 860, 861, 862, 863] (by decide +kernel) (by decide +kernel)
set_option maxRecDepth 20000 in
theorem gL_law_X8_judge : GoodIn wsL_law (wsV RL 109 RX8 yX8_judge wsX8_judge) := goodIn_app (goodIn_of _ (by decide +kernel)) ggL_law_X8_judge
set_option maxRecDepth 20000 in
theorem ggL_law_X9_judge : GoodIn wsL_law wsX9_judge := goodIn_r _ [504, 141, 325, 326, 327, 5, 328, 180, 505, 506, 507, 508, 86, 81, 509, 510, 511, 512, 513, 82, 83, 84, 87, 76, 85, 89, 90, 514, 77, 515, 516, 517, 518, 329, 330, 331, 332, 78, 185, 186, 187, 188, 774, 775, 776, 777, 778, 779, 780, 781, 782, 783, 784, 785, 786, 787, 788, 789, 790, 791, 792, 793, 794, 795, 796, 797, 798, 799, 800, 801, 802, 803, 804, 805, 806, 807, 808, 809, 810, 811, 812, 813, 814, 815, 816, 817, 818, 819, 820, 821, 822, 823, 824] (by decide +kernel) (by decide +kernel)
set_option maxRecDepth 20000 in
theorem gL_law_X9_judge : GoodIn wsL_law (wsV RL 112 RX9 yX9_judge wsX9_judge) := goodIn_app (goodIn_of _ (by decide +kernel)) ggL_law_X9_judge
set_option maxRecDepth 20000 in
theorem ggL_law_X8_save : GoodIn wsL_law wsX8_save := goodIn_r _ [522, 24, 36, 523, 21, 524, 278, 279, 280, 2, 281, 150, 17, 156, 157, 158, 525, 526, 527, 528, 529, 26, 530, 531, 532, 533, 534, 535, 536, 38, 537, 538, 172, 263, 70, 539, 540, 541, 542, 543, 544, 545, 151, 449, 546, 148, 547, 548, 549, 550, 500, 551, 273, 552, 553, 554, 555, 556, 368, 149, 294, 356, 357, 358, 557, 558, 559, 23, 560, 561, 562, 48, 563, 49, 564, 565, 566, 567, 213, 568, 569, 570, 35, 571, 572, 573, 574, 575, 282, 283, 284, 762, 763, 764, 765, 766, 767, 768, 769, 770, 771, 772, 773, 825, 826, 827, 828, 829, 830, 831, 832, 833, 842, 843, 844, 845, 850, 851, 852, 853, 854, 855, 856, 857, 862, 863, 838, 839, 840, 841] (by decide +kernel) (by decide +kernel)
set_option maxRecDepth 20000 in
theorem gL_law_X8_save : GoodIn wsL_law (wsV RL 113 RX8 yX8_save wsX8_save) := goodIn_app (goodIn_of _ (by decide +kernel)) ggL_law_X8_save
set_option maxRecDepth 20000 in
theorem ggL_law_X9_save : GoodIn wsL_law wsX9_save := goodIn_r _ [579, 141, 98, 104, 99, 100, 101, 102, 103, 105, 106, 107, 580, 581, 582, 5, 583, 325, 326, 327, 328, 180, 584, 585, 586, 587, 108, 86, 76, 80, 77, 87, 78, 588, 589, 590, 591, 592, 593, 594, 595, 110, 111, 112, 596, 597, 598, 599, 109, 88, 89, 90, 774, 775, 776, 777, 778, 779, 780, 781, 782, 783, 784, 785, 786, 787, 788, 789, 790, 791, 792, 793, 794, 795, 796, 797, 798, 799, 800, 801, 802, 803, 804, 805, 806, 807, 808, 809, 810, 811, 812, 813, 814, 815, 816, 817, 818, 819, 820, 821, 822, 823, 824] (by decide +kernel) (by decide +kernel)
set_option maxRecDepth 20000 in
theorem gL_law_X9_save : GoodIn wsL_law (wsV RL 116 RX9 yX9_save wsX9_save) := goodIn_app (goodIn_of _ (by decide +kernel)) ggL_law_X9_save
set_option maxRecDepth 20000 in
theorem ggL_law_X8_saved : GoodIn wsL_law wsX8_saved := goodIn_r _ [603, 21, 524, 529, 156, 157, 2, 158, 762, 763, 764, 765, 766, 767, 768, 769, 770, 771, 772, 773, 825, 826, 827, 828, 829, 830, 831, 832, 833] (by decide +kernel) (by decide +kernel)
set_option maxRecDepth 20000 in
theorem gL_law_X8_saved : GoodIn wsL_law (wsV RL 117 RX8 yX8_saved wsX8_saved) := goodIn_app (goodIn_of _ (by decide +kernel)) ggL_law_X8_saved
set_option maxRecDepth 20000 in
theorem ggL_law_X9_saved : GoodIn wsL_law wsX9_saved := goodIn_r _ [607, 141, 98, 104, 580, 581, 582, 5, 583, 774, 775, 776, 777, 778, 779, 780, 781, 782, 783, 784, 785, 786, 787, 788, 789, 790, 791, 792, 793, 794, 795, 796, 797, 798, 799, 800, 801, 802, 803, 804, 805, 806, 807, 808, 809, 810, 811, 812, 813, 814, 815, 816, 817, 818, 819, 820, 821, 822, 823, 824] (by decide +kernel) (by decide +kernel)
set_option maxRecDepth 20000 in
theorem gL_law_X9_saved : GoodIn wsL_law (wsV RL 120 RX9 yX9_saved wsX9_saved) := goodIn_app (goodIn_of _ (by decide +kernel)) ggL_law_X9_saved
