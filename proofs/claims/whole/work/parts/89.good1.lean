set_option maxRecDepth 100000 in
theorem ggL_law_X7_init : GoodIn wsL_law wsX7_init := goodIn_r _ [10, 11, 12, 13, 14, 15, 16, 17, 18, 19, 20, 21, 22, 23, 24, 25, 26, 27, 28, 29, 30, 31, 32, 33, 34, 35, 36, 37, 6, 38, 39, 40, 41, 42, 43, 44, 45, 46, 47, 48, 49, 50, 51, 52, 53, 54, 55, 56, 57, 58, 59, 60, 61, 62, 63, 798, 799, 800, 750, 751, 752, 753, 754, 755, 756, 801, 802, 803, 804, 805, 806, 807, 808, 809, 810] rfl (by decide +kernel)
set_option maxRecDepth 100000 in
theorem gL_law_X7_init : GoodIn wsL_law (wsX7_init) := ggL_law_X7_init
set_option maxRecDepth 100000 in
theorem ggL_law_X8_init : GoodIn wsL_law wsX8_init := goodIn_r _ [66, 67, 12, 13, 6, 68, 69, 70, 71, 33, 72, 73, 74, 75, 76, 77, 78, 79, 80, 81, 82, 83, 84, 85, 86, 87, 88, 89, 90, 91, 92, 93, 94, 95, 96, 97, 98, 99, 100, 101, 102, 103, 104, 105, 106, 107, 108, 109, 110, 111, 112, 113, 114, 115, 116, 117, 118, 119, 120, 121, 122, 123, 124, 125, 126, 127, 128, 129, 130, 131, 132, 133, 134, 135, 136, 137, 138, 139, 140, 141, 142, 143, 144, 145, 146, 147, 148, 149, 150, 151, 152, 153, 154, 155, 156, 157, 158, 159, 160, 161, 162, 163, 164, 165, 166, 167, 168, 169, 170, 171, 172, 173, 174, 175, 176, 757, 758, 759, 760, 761, 762, 763, 764, 765, 766, 767, 768, 769, 770, 771, 772, 773, 774, 775, 776, 777, 778, 779, 780, 781, 782, 783, 784, 785, 786, 787, 788, 789, 790, 791, 792, 793, 794, 795, 796, 797] rfl (by decide +kernel)
set_option maxRecDepth 100000 in
theorem gL_law_X8_init : GoodIn wsL_law (wsX8_init) := ggL_law_X8_init
set_option maxRecDepth 100000 in
theorem ggL_law_X7_key : GoodIn wsL_law wsX7_key := goodIn_r _ [180, 17, 181, 182, 183, 16, 184, 40, 38, 39, 750, 751, 752, 753, 754, 755, 756, 798, 799, 800] rfl (by decide +kernel)
set_option maxRecDepth 100000 in
theorem gL_law_X7_key : GoodIn wsL_law (wsV RL 21 RX7 yX7_key wsX7_key) := goodIn_app (goodIn_of _ (by decide +kernel)) ggL_law_X7_key
set_option maxRecDepth 100000 in
theorem ggL_law_X8_key : GoodIn wsL_law wsX8_key := goodIn_r _ [188, 189, 190, 68, 69, 757, 758, 759, 760, 761, 762, 763, 764, 765, 766, 767, 768, 769, 770, 771, 772, 773, 774, 775, 776, 777, 778, 779, 780, 781, 782, 783, 784, 785, 786, 787, 788, 789, 790, 791, 792, 793, 794, 795, 796, 797] rfl (by decide +kernel)
set_option maxRecDepth 100000 in
theorem gL_law_X8_key : GoodIn wsL_law (wsV RL 25 RX8 yX8_key wsX8_key) := goodIn_app (goodIn_of _ (by decide +kernel)) ggL_law_X8_key
set_option maxRecDepth 100000 in
theorem ggL_law_X7_quorum : GoodIn wsL_law wsX7_quorum := goodIn_r _ [194, 21, 195, 196, 2, 197, 198, 199, 200, 20, 201, 45, 750, 751, 752, 753, 754, 755, 756, 801, 802] rfl (by decide +kernel)
set_option maxRecDepth 100000 in
theorem gL_law_X7_quorum : GoodIn wsL_law (wsV RL 26 RX7 yX7_quorum wsX7_quorum) := goodIn_app (goodIn_of _ (by decide +kernel)) ggL_law_X7_quorum
set_option maxRecDepth 100000 in
theorem ggL_law_X8_quorum : GoodIn wsL_law wsX8_quorum := goodIn_r _ [205, 189, 72, 206, 207, 5, 208, 757, 758, 759, 760, 761, 762, 763, 764, 765, 766, 767, 768, 769, 770, 771, 772, 773, 774, 775, 776, 777, 778, 779, 780, 781, 782, 783, 784, 785, 786, 787, 788, 789, 790, 791, 792, 793, 794, 795, 796, 797] rfl (by decide +kernel)
set_option maxRecDepth 100000 in
theorem gL_law_X8_quorum : GoodIn wsL_law (wsV RL 30 RX8 yX8_quorum wsX8_quorum) := goodIn_app (goodIn_of _ (by decide +kernel)) ggL_law_X8_quorum
set_option maxRecDepth 100000 in
theorem ggL_law_X7_holds : GoodIn wsL_law wsX7_holds := goodIn_r _ [212, 17, 21, 195, 196, 2, 197, 213, 214, 215, 16, 216, 40, 217, 218, 219, 20, 220, 46, 750, 751, 752, 753, 754, 755, 756, 798, 799, 800, 801, 802] rfl (by decide +kernel)
set_option maxRecDepth 100000 in
theorem gL_law_X7_holds : GoodIn wsL_law (wsV RL 31 RX7 yX7_holds wsX7_holds) := goodIn_app (goodIn_of _ (by decide +kernel)) ggL_law_X7_holds
set_option maxRecDepth 100000 in
theorem ggL_law_X8_holds : GoodIn wsL_law wsX8_holds := goodIn_r _ [224, 189, 73, 206, 207, 5, 208, 225, 226, 227, 228, 190, 757, 758, 759, 760, 761, 762, 763, 764, 765, 766, 767, 768, 769, 770, 771, 772, 773, 774, 775, 776, 777, 778, 779, 780, 781, 782, 783, 784, 785, 786, 787, 788, 789, 790, 791, 792, 793, 794, 795, 796, 797] rfl (by decide +kernel)
set_option maxRecDepth 100000 in
theorem gL_law_X8_holds : GoodIn wsL_law (wsV RL 35 RX8 yX8_holds wsX8_holds) := goodIn_app (goodIn_of _ (by decide +kernel)) ggL_law_X8_holds
set_option maxRecDepth 100000 in
theorem ggL_law_X7_row : GoodIn wsL_law wsX7_row := goodIn_r _ [232, 24, 23, 22, 233, 234, 21, 195, 196, 2, 197, 235, 236, 237, 238, 239, 240, 241, 242, 12, 13, 59, 243, 244, 245, 19, 20, 246, 247, 248, 249, 250, 251, 252, 253, 254, 33, 255, 256, 257, 258, 259, 260, 261, 262, 263, 42, 43, 44, 45, 46, 264, 265, 266, 267, 268, 269, 270, 271, 272, 273, 274, 70, 275, 276, 277, 278, 279, 280, 750, 751, 752, 753, 754, 755, 756, 811, 812, 813, 814, 815, 816, 817, 818, 819, 820, 821, 822, 823, 801, 802, 824, 825, 826, 827, 828, 829, 830] rfl (by decide +kernel)
set_option maxRecDepth 100000 in
theorem gL_law_X7_row : GoodIn wsL_law (wsV RL 36 RX7 yX7_row wsX7_row) := goodIn_app (goodIn_of _ (by decide +kernel)) ggL_law_X7_row
set_option maxRecDepth 100000 in
theorem ggL_law_X8_row : GoodIn wsL_law wsX8_row := goodIn_r _ [284, 189, 285, 286, 76, 77, 80, 74, 72, 75, 73, 206, 207, 5, 208, 757, 758, 759, 760, 761, 762, 763, 764, 765, 766, 767, 768, 769, 770, 771, 772, 773, 774, 775, 776, 777, 778, 779, 780, 781, 782, 783, 784, 785, 786, 787, 788, 789, 790, 791, 792, 793, 794, 795, 796, 797] rfl (by decide +kernel)
set_option maxRecDepth 100000 in
theorem gL_law_X8_row : GoodIn wsL_law (wsV RL 40 RX8 yX8_row wsX8_row) := goodIn_app (goodIn_of _ (by decide +kernel)) ggL_law_X8_row
