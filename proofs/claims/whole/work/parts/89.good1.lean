set_option maxRecDepth 100000 in
theorem ggL_law_X7_init : GoodIn wsL_law wsX7_init := goodIn_r _ [10, 11, 12, 13, 14, 15, 16, 17, 18, 19, 20, 21, 22, 23, 24, 25, 26, 27, 28, 29, 30, 31, 32, 33, 34, 35, 36, 37, 6, 38, 39, 40, 41, 42, 43, 44, 45, 46, 47, 48, 49, 50, 51, 52, 53, 54, 55, 56, 57, 58, 59, 60, 61, 799, 800, 801, 751, 752, 753, 754, 755, 756, 757, 802, 803, 804, 805, 806, 807, 808, 809, 810] rfl (by decide +kernel)
set_option maxRecDepth 100000 in
theorem gL_law_X7_init : GoodIn wsL_law (wsX7_init) := ggL_law_X7_init
set_option maxRecDepth 100000 in
theorem ggL_law_X8_init : GoodIn wsL_law wsX8_init := goodIn_r _ [64, 65, 12, 13, 6, 66, 67, 68, 69, 33, 70, 71, 72, 73, 74, 75, 76, 77, 78, 79, 80, 81, 82, 83, 84, 85, 86, 87, 88, 89, 90, 91, 92, 93, 94, 95, 96, 97, 98, 99, 100, 101, 102, 103, 104, 105, 106, 107, 108, 109, 110, 111, 112, 113, 114, 115, 116, 117, 118, 119, 120, 121, 122, 123, 124, 125, 126, 127, 128, 129, 130, 131, 132, 133, 134, 135, 136, 137, 138, 139, 140, 141, 142, 143, 144, 145, 146, 147, 148, 149, 150, 151, 152, 153, 154, 155, 156, 157, 158, 159, 160, 161, 162, 163, 164, 165, 166, 167, 168, 169, 170, 171, 172, 173, 174, 758, 759, 760, 761, 762, 763, 764, 765, 766, 767, 768, 769, 770, 771, 772, 773, 774, 775, 776, 777, 778, 779, 780, 781, 782, 783, 784, 785, 786, 787, 788, 789, 790, 791, 792, 793, 794, 795, 796, 797, 798] rfl (by decide +kernel)
set_option maxRecDepth 100000 in
theorem gL_law_X8_init : GoodIn wsL_law (wsX8_init) := ggL_law_X8_init
set_option maxRecDepth 100000 in
theorem ggL_law_X7_key : GoodIn wsL_law wsX7_key := goodIn_r _ [178, 17, 179, 180, 181, 16, 182, 40, 38, 39, 751, 752, 753, 754, 755, 756, 757, 799, 800, 801] rfl (by decide +kernel)
set_option maxRecDepth 100000 in
theorem gL_law_X7_key : GoodIn wsL_law (wsV RL 21 RX7 yX7_key wsX7_key) := goodIn_app (goodIn_of _ (by decide +kernel)) ggL_law_X7_key
set_option maxRecDepth 100000 in
theorem ggL_law_X8_key : GoodIn wsL_law wsX8_key := goodIn_r _ [186, 187, 188, 66, 67, 758, 759, 760, 761, 762, 763, 764, 765, 766, 767, 768, 769, 770, 771, 772, 773, 774, 775, 776, 777, 778, 779, 780, 781, 782, 783, 784, 785, 786, 787, 788, 789, 790, 791, 792, 793, 794, 795, 796, 797, 798] rfl (by decide +kernel)
set_option maxRecDepth 100000 in
theorem gL_law_X8_key : GoodIn wsL_law (wsV RL 25 RX8 yX8_key wsX8_key) := goodIn_app (goodIn_of _ (by decide +kernel)) ggL_law_X8_key
set_option maxRecDepth 100000 in
theorem ggL_law_X7_quorum : GoodIn wsL_law wsX7_quorum := goodIn_r _ [192, 21, 193, 194, 2, 195, 196, 197, 198, 20, 199, 45, 751, 752, 753, 754, 755, 756, 757, 802, 803] rfl (by decide +kernel)
set_option maxRecDepth 100000 in
theorem gL_law_X7_quorum : GoodIn wsL_law (wsV RL 26 RX7 yX7_quorum wsX7_quorum) := goodIn_app (goodIn_of _ (by decide +kernel)) ggL_law_X7_quorum
set_option maxRecDepth 100000 in
theorem ggL_law_X8_quorum : GoodIn wsL_law wsX8_quorum := goodIn_r _ [203, 187, 70, 204, 205, 5, 206, 758, 759, 760, 761, 762, 763, 764, 765, 766, 767, 768, 769, 770, 771, 772, 773, 774, 775, 776, 777, 778, 779, 780, 781, 782, 783, 784, 785, 786, 787, 788, 789, 790, 791, 792, 793, 794, 795, 796, 797, 798] rfl (by decide +kernel)
set_option maxRecDepth 100000 in
theorem gL_law_X8_quorum : GoodIn wsL_law (wsV RL 30 RX8 yX8_quorum wsX8_quorum) := goodIn_app (goodIn_of _ (by decide +kernel)) ggL_law_X8_quorum
set_option maxRecDepth 100000 in
theorem ggL_law_X7_holds : GoodIn wsL_law wsX7_holds := goodIn_r _ [210, 17, 21, 193, 194, 2, 195, 211, 212, 213, 16, 214, 40, 215, 216, 217, 20, 218, 46, 751, 752, 753, 754, 755, 756, 757, 799, 800, 801, 802, 803] rfl (by decide +kernel)
set_option maxRecDepth 100000 in
theorem gL_law_X7_holds : GoodIn wsL_law (wsV RL 31 RX7 yX7_holds wsX7_holds) := goodIn_app (goodIn_of _ (by decide +kernel)) ggL_law_X7_holds
set_option maxRecDepth 100000 in
theorem ggL_law_X8_holds : GoodIn wsL_law wsX8_holds := goodIn_r _ [222, 187, 71, 204, 205, 5, 206, 223, 224, 225, 226, 188, 758, 759, 760, 761, 762, 763, 764, 765, 766, 767, 768, 769, 770, 771, 772, 773, 774, 775, 776, 777, 778, 779, 780, 781, 782, 783, 784, 785, 786, 787, 788, 789, 790, 791, 792, 793, 794, 795, 796, 797, 798] rfl (by decide +kernel)
set_option maxRecDepth 100000 in
theorem gL_law_X8_holds : GoodIn wsL_law (wsV RL 35 RX8 yX8_holds wsX8_holds) := goodIn_app (goodIn_of _ (by decide +kernel)) ggL_law_X8_holds
set_option maxRecDepth 100000 in
theorem ggL_law_X7_row : GoodIn wsL_law wsX7_row := goodIn_r _ [230, 24, 23, 22, 231, 232, 21, 193, 194, 2, 195, 233, 234, 235, 236, 237, 238, 239, 240, 12, 13, 57, 241, 242, 243, 19, 20, 244, 245, 246, 247, 248, 249, 250, 251, 252, 33, 253, 254, 255, 256, 257, 258, 259, 260, 261, 42, 43, 44, 45, 46, 262, 263, 264, 265, 266, 267, 268, 269, 270, 271, 272, 68, 273, 274, 275, 276, 277, 278, 751, 752, 753, 754, 755, 756, 757, 811, 812, 813, 814, 815, 816, 817, 818, 819, 820, 821, 822, 823, 802, 803, 824, 825, 826, 827, 828, 829, 830] rfl (by decide +kernel)
set_option maxRecDepth 100000 in
theorem gL_law_X7_row : GoodIn wsL_law (wsV RL 36 RX7 yX7_row wsX7_row) := goodIn_app (goodIn_of _ (by decide +kernel)) ggL_law_X7_row
set_option maxRecDepth 100000 in
theorem ggL_law_X8_row : GoodIn wsL_law wsX8_row := goodIn_r _ [282, 187, 283, 284, 74, 75, 78, 72, 70, 73, 71, 204, 205, 5, 206, 758, 759, 760, 761, 762, 763, 764, 765, 766, 767, 768, 769, 770, 771, 772, 773, 774, 775, 776, 777, 778, 779, 780, 781, 782, 783, 784, 785, 786, 787, 788, 789, 790, 791, 792, 793, 794, 795, 796, 797, 798] rfl (by decide +kernel)
set_option maxRecDepth 100000 in
theorem gL_law_X8_row : GoodIn wsL_law (wsV RL 40 RX8 yX8_row wsX8_row) := goodIn_app (goodIn_of _ (by decide +kernel)) ggL_law_X8_row
