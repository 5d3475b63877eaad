set_option maxRecDepth 20000 in
theorem ggL_law_X8_restore : GoodIn wsL_law wsX8_restore := goodIn_r _ [611, 21, 524, 150, 156, 157, 2, 158, 612, 613, 614, 615, 17, 15, 545, 259, 260, 261, 38, 262, 172, 263, 264, 169, 170, 171, 68, 173, 70, 616, 617, 618, 619, 529, 28, 546, 36, 523, 620, 621, 622, 623, 151, 273, 551, 552, 149, 368, 294, 159, 160, 161, 125, 162, 163, 130, 624, 625, 626, 356, 357, 358, 285, 286, 287, 288, 289, 19, 627, 628, 629, 630, 631, 632, 633, 23, 634, 635, 354, 355, 48, 563, 49, 636, 360, 361, 362, 12, 13, 6, 363, 568, 569, 570, 35, 571, 572, 573, 574, 575, 637, 638, 639, 640, 223, 458, 459, 460, 461, 222, 462, 463, 464, 465, 466, 467, 468, 469, 470, 471, 472, 473, 474, 475, 131, 476, 194, 195, 196, 477, 478, 479, 480, 449, 481, 278, 279, 280, 281, 482, 483, 484, 389, 485, 486, 487, 488, 489, 490, 491, 492, 493, 494, 495, 496, 497, 498, 499, 500, 282, 283, 284, 762, 763, 764, 765, 766, 767, 768, 769, 770, 771, 772, 773, 825, 826, 827, 828, 829, 830, 831, 832, 833, 842, 843, 844, 845, 850, 851, 852, 853, 854, 855, 856, 857, 862, 863, 838, 839, 840, 841, 858, 859, 860, 861] (by decide +kernel) (by decide +kernel)
set_option maxRecDepth 20000 in
theorem gL_law_X8_restore : GoodIn wsL_law (wsV RL 121 RX8 yX8_restore wsX8_restore) := goodIn_app (goodIn_of _ (by decide +kernel)) ggL_law_X8_restore
set_option maxRecDepth 20000 in
theorem ggL_law_X9_restore : GoodIn wsL_law wsX9_restore := goodIn_r _ [644, 141, 98, 180, 113, 99, 86, 76, 87, 79, 509, 580, 581, 582, 5, 583, 645, 646, 647, 648, 100, 101, 78, 102, 103, 75, 179, 185, 186, 187, 188, 77, 592, 593, 594, 595, 110, 111, 112, 649, 650, 651, 652, 653, 654, 655, 106, 90, 107, 373, 374, 375, 376, 91, 337, 95, 88, 89, 329, 330, 331, 332, 505, 506, 507, 508, 81, 510, 511, 512, 513, 82, 83, 84, 85, 514, 515, 516, 517, 518, 774, 775, 776, 777, 778, 779, 780, 781, 782, 783, 784, 785, 786, 787, 788, 789, 790, 791, 792, 793, 794, 795, 796, 797, 798, 799, 800, 801, 802, 803, 804, 805, 806, 807, 808, 809, 810, 811, 812, 813, 814, 815, 816, 817, 818, 819, 820, 821, 822, 823, 824] (by decide +kernel) (by decide +kernel)
set_option maxRecDepth 20000 in
theorem gL_law_X9_restore : GoodIn wsL_law (wsV RL 124 RX9 yX9_restore wsX9_restore) := goodIn_app (goodIn_of _ (by decide +kernel)) ggL_law_X9_restore
set_option maxRecDepth 20000 in
theorem ggL_law_X8_fault : GoodIn wsL_law wsX8_fault := goodIn_r _ [659, 36, 660, 661, 662, 663, 762, 763, 764, 765, 766, 767, 768, 769, 770, 771, 772, 773, 838, 839, 840, 841] (by decide +kernel) (by decide +kernel)
set_option maxRecDepth 20000 in
theorem gL_law_X8_fault : GoodIn wsL_law (wsV RL 125 RX8 yX8_fault wsX8_fault) := goodIn_app (goodIn_of _ (by decide +kernel)) ggL_law_X8_fault
set_option maxRecDepth 20000 in
theorem ggL_law_X9_fault : GoodIn wsL_law wsX9_fault := goodIn_r _ [667, 141, 110, 111, 112, 774, 775, 776, 777, 778, 779, 780, 781, 782, 783, 784, 785, 786, 787, 788, 789, 790, 791, 792, 793, 794, 795, 796, 797, 798, 799, 800, 801, 802, 803, 804, 805, 806, 807, 808, 809, 810, 811, 812, 813, 814, 815, 816, 817, 818, 819, 820, 821, 822, 823, 824] (by decide +kernel) (by decide +kernel)
set_option maxRecDepth 20000 in
theorem gL_law_X9_fault : GoodIn wsL_law (wsV RL 128 RX9 yX9_fault wsX9_fault) := goodIn_app (goodIn_of _ (by decide +kernel)) ggL_law_X9_fault
set_option maxRecDepth 20000 in
theorem ggL_law_X8_like : GoodIn wsL_law wsX8_like := goodIn_r _ [671, 24, 25, 278, 279, 280, 2, 281, 150, 17, 525, 526, 527, 528, 524, 529, 26, 530, 531, 532, 533, 534, 535, 536, 38, 537, 538, 172, 263, 70, 539, 540, 541, 542, 543, 544, 545, 151, 449, 546, 148, 547, 548, 549, 550, 523, 500, 551, 273, 552, 553, 554, 555, 556, 368, 149, 294, 356, 357, 358, 557, 558, 559, 23, 560, 561, 562, 48, 563, 49, 672, 673, 674, 675, 676, 677, 678, 679, 680, 681, 682, 683, 43, 44, 45, 46, 684, 685, 686, 687, 47, 688, 689, 690, 691, 692, 762, 763, 764, 765, 766, 767, 768, 769, 770, 771, 772, 773, 825, 826, 827, 828, 829, 830, 831, 832, 833, 842, 843, 844, 845, 850, 851, 852, 853, 854, 855, 856, 857, 862, 863] (by decide +kernel) (by decide +kernel)
set_option maxRecDepth 20000 in
theorem gL_law_X8_like : GoodIn wsL_law (wsV RL 129 RX8 yX8_like wsX8_like) := goodIn_app (goodIn_of _ (by decide +kernel)) ggL_law_X8_like
set_option maxRecDepth 20000 in
theorem ggL_law_X9_like : GoodIn wsL_law wsX9_like := goodIn_r _ [696, 141, 114, 115, 116, 117, 697, 118, 86, 76, 87, 325, 326, 327, 5, 328, 180, 698, 699, 700, 701, 329, 330, 331, 332, 78, 702, 703, 704, 705, 89, 90, 774, 775, 776, 777, 778, 779, 780, 781, 782, 783, 784, 785, 786, 787, 788, 789, 790, 791, 792, 793, 794, 795, 796, 797, 798, 799, 800, 801, 802, 803, 804, 805, 806, 807, 808, 809, 810, 811, 812, 813, 814, 815, 816, 817, 818, 819, 820, 821, 822, 823, 824] (by decide +kernel) (by decide +kernel)
set_option maxRecDepth 20000 in
theorem gL_law_X9_like : GoodIn wsL_law (wsV RL 132 RX9 yX9_like wsX9_like) := goodIn_app (goodIn_of _ (by decide +kernel)) ggL_law_X9_like
set_option maxRecDepth 20000 in
theorem ggL_law_X8_differs : GoodIn wsL_law wsX8_differs := goodIn_r _ [709, 21, 524, 24, 278, 279, 280, 2, 281, 150, 17, 156, 157, 158, 525, 526, 527, 528, 529, 26, 530, 531, 532, 533, 534, 535, 536, 38, 537, 538, 172, 263, 70, 539, 540, 541, 542, 543, 544, 545, 151, 449, 546, 148, 547, 548, 549, 550, 523, 500, 551, 273, 552, 553, 554, 555, 556, 368, 149, 294, 356, 357, 358, 557, 558, 559, 23, 560, 561, 562, 48, 563, 49, 672, 673, 674, 675, 676, 677, 678, 679, 680, 681, 682, 683, 43, 44, 45, 46, 684, 685, 686, 687, 47, 688, 689, 690, 691, 692, 762, 763, 764, 765, 766, 767, 768, 769, 770, 771, 772, 773, 825, 826, 827, 828, 829, 830, 831, 832, 833, 842, 843, 844, 845, 850, 851, 852, 853, 854, 855, 856, 857, 862, 863] (by decide +kernel) (by decide +kernel)
set_option maxRecDepth 20000 in
theorem gL_law_X8_differs : GoodIn wsL_law (wsV RL 133 RX8 yX8_differs wsX8_differs) := goodIn_app (goodIn_of _ (by decide +kernel)) ggL_law_X8_differs
set_option maxRecDepth 20000 in
theorem ggL_law_X9_differs : GoodIn wsL_law wsX9_differs := goodIn_r _ [713, 141, 98, 99, 100, 101, 102, 103, 580, 581, 582, 5, 583, 325, 326, 327, 328, 180, 584, 585, 586, 587, 104, 108, 86, 76, 80, 77, 87, 78, 588, 589, 590, 591, 592, 593, 594, 595, 110, 111, 112, 596, 597, 598, 599, 109, 105, 88, 106, 89, 107, 90, 714, 715, 716, 717, 774, 775, 776, 777, 778, 779, 780, 781, 782, 783, 784, 785, 786, 787, 788, 789, 790, 791, 792, 793, 794, 795, 796, 797, 798, 799, 800, 801, 802, 803, 804, 805, 806, 807, 808, 809, 810, 811, 812, 813, 814, 815, 816, 817, 818, 819, 820, 821, 822, 823, 824] (by decide +kernel) (by decide +kernel)
set_option maxRecDepth 20000 in
theorem gL_law_X9_differs : GoodIn wsL_law (wsV RL 136 RX9 yX9_differs wsX9_differs) := goodIn_app (goodIn_of _ (by decide +kernel)) ggL_law_X9_differs
set_option maxRecDepth 20000 in
theorem ggL_law_X8_mark : GoodIn wsL_law wsX8_mark := goodIn_r _ [721, 32, 147, 722, 723, 724, 31, 725, 56, 310, 299, 762, 763, 764, 765, 766, 767, 768, 769, 770, 771, 772, 773, 834, 835, 836, 837] (by decide +kernel) (by decide +kernel)
set_option maxRecDepth 20000 in
theorem gL_law_X8_mark : GoodIn wsL_law (wsV RL 137 RX8 yX8_mark wsX8_mark) := goodIn_app (goodIn_of _ (by decide +kernel)) ggL_law_X8_mark
set_option maxRecDepth 20000 in
theorem ggL_law_X9_mark : GoodIn wsL_law wsX9_mark := goodIn_r _ [729, 141, 178, 92, 337, 774, 775, 776, 777, 778, 779, 780, 781, 782, 783, 784, 785, 786, 787, 788, 789, 790, 791, 792, 793, 794, 795, 796, 797, 798, 799, 800, 801, 802, 803, 804, 805, 806, 807, 808, 809, 810, 811, 812, 813, 814, 815, 816, 817, 818, 819, 820, 821, 822, 823, 824] (by decide +kernel) (by decide +kernel)
set_option maxRecDepth 20000 in
theorem gL_law_X9_mark : GoodIn wsL_law (wsV RL 140 RX9 yX9_mark wsX9_mark) := goodIn_app (goodIn_of _ (by decide +kernel)) ggL_law_X9_mark
set_option maxRecDepth 20000 in
theorem ggL_law_X8_undo : GoodIn wsL_law wsX8_undo := goodIn_r _ [733, 32, 147, 734, 735, 736, 31, 737, 310, 56, 299, 55, 738, 739, 740, 58, 741, 742, 743, 744, 745, 746, 747, 748, 762, 763, 764, 765, 766, 767, 768, 769, 770, 771, 772, 773, 834, 835, 836, 837, 846, 847, 848, 849, 842, 843, 844, 845, 862, 863] (by decide +kernel) (by decide +kernel)
set_option maxRecDepth 20000 in
theorem gL_law_X8_undo : GoodIn wsL_law (wsV RL 141 RX8 yX8_undo wsX8_undo) := goodIn_app (goodIn_of _ (by decide +kernel)) ggL_law_X8_undo
set_option maxRecDepth 20000 in
theorem ggL_law_X9_undo : GoodIn wsL_law wsX9_undo := goodIn_r _ [752, 141, 178, 337, 92, 96, 87, 93, 94, 97, 90, 95, 774, 775, 776, 777, 778, 779, 780, 781, 782, 783, 784, 785, 786, 787, 788, 789, 790, 791, 792, 793, 794, 795, 796, 797, 798, 799, 800, 801, 802, 803, 804, 805, 806, 807, 808, 809, 810, 811, 812, 813, 814, 815, 816, 817, 818, 819, 820, 821, 822, 823, 824] (by decide +kernel) (by decide +kernel)
set_option maxRecDepth 20000 in
theorem gL_law_X9_undo : GoodIn wsL_law (wsV RL 144 RX9 yX9_undo wsX9_undo) := goodIn_app (goodIn_of _ (by decide +kernel)) ggL_law_X9_undo
set_option maxRecDepth 20000 in
theorem ggL_law_X8_count : GoodIn wsL_law wsX8_count := goodIn_r _ [756, 123, 150, 32, 147, 757, 762, 763, 764, 765, 766, 767, 768, 769, 770, 771, 772, 773, 834, 835, 836, 837] (by decide +kernel) (by decide +kernel)
set_option maxRecDepth 20000 in
theorem gL_law_X8_count : GoodIn wsL_law (wsV RL 145 RX8 yX8_count wsX8_count) := goodIn_app (goodIn_of _ (by decide +kernel)) ggL_law_X8_count
set_option maxRecDepth 20000 in
theorem ggL_law_X9_count : GoodIn wsL_law wsX9_count := goodIn_r _ [761, 141, 142, 180, 178, 337, 774, 775, 776, 777, 778, 779, 780, 781, 782, 783, 784, 785, 786, 787, 788, 789, 790, 791, 792, 793, 794, 795, 796, 797, 798, 799, 800, 801, 802, 803, 804, 805, 806, 807, 808, 809, 810, 811, 812, 813, 814, 815, 816, 817, 818, 819, 820, 821, 822, 823, 824] (by decide +kernel) (by decide +kernel)
set_option maxRecDepth 20000 in
theorem gL_law_X9_count : GoodIn wsL_law (wsV RL 148 RX9 yX9_count wsX9_count) := goodIn_app (goodIn_of _ (by decide +kernel)) ggL_law_X9_count
