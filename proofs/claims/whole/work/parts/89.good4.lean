set_option maxRecDepth 100000 in
theorem gL_law_X7_version : GoodIn wsL_law (wsV RL 89 RX7 yX7_version wsX7_version) := goodIn_app (goodIn_of _ (by decide +kernel)) ggL_law_X7_version
set_option maxRecDepth 100000 in
theorem ggL_law_X8_version : GoodIn wsL_law wsX8_version := goodIn_r _ [698, 187, 91, 75, 204, 205, 5, 206, 758, 759, 760, 761, 762, 763, 764, 765, 766, 767, 768, 769, 770, 771, 772, 773, 774, 775, 776, 777, 778, 779, 780, 781, 782, 783, 784, 785, 786, 787, 788, 789, 790, 791, 792, 793, 794, 795, 796, 797, 798] rfl (by decide +kernel)
set_option maxRecDepth 100000 in
theorem gL_law_X8_version : GoodIn wsL_law (wsV RL 92 RX8 yX8_version wsX8_version) := goodIn_app (goodIn_of _ (by decide +kernel)) ggL_law_X8_version
set_option maxRecDepth 100000 in
theorem ggL_law_X7_current : GoodIn wsL_law wsX7_current := goodIn_r _ [702, 28, 694, 552, 553, 27, 554, 51, 194, 2, 195, 751, 752, 753, 754, 755, 756, 757, 811, 812, 813, 814, 815, 816, 817, 818, 819, 820, 821, 822, 823, 804, 805, 806] rfl (by decide +kernel)
set_option maxRecDepth 100000 in
theorem gL_law_X7_current : GoodIn wsL_law (wsV RL 93 RX7 yX7_current wsX7_current) := goodIn_app (goodIn_of _ (by decide +kernel)) ggL_law_X7_current
set_option maxRecDepth 100000 in
theorem ggL_law_X8_current : GoodIn wsL_law wsX8_current := goodIn_r _ [706, 187, 91, 204, 205, 5, 206, 758, 759, 760, 761, 762, 763, 764, 765, 766, 767, 768, 769, 770, 771, 772, 773, 774, 775, 776, 777, 778, 779, 780, 781, 782, 783, 784, 785, 786, 787, 788, 789, 790, 791, 792, 793, 794, 795, 796, 797, 798] rfl (by decide +kernel)
set_option maxRecDepth 100000 in
theorem gL_law_X8_current : GoodIn wsL_law (wsV RL 96 RX8 yX8_current wsX8_current) := goodIn_app (goodIn_of _ (by decide +kernel)) ggL_law_X8_current
set_option maxRecDepth 100000 in
theorem ggL_law_X7_hash : GoodIn wsL_law wsX7_hash := goodIn_r _ [710, 32, 34, 293, 294, 295, 2, 296, 23, 398, 399, 400, 31, 401, 61, 419, 420, 421, 232, 422, 258, 259, 260, 242, 241, 244, 252, 248, 423, 416, 417, 418, 58, 424, 412, 413, 414, 415, 425, 408, 409, 410, 411, 426, 427, 428, 20, 429, 45, 46, 430, 431, 432, 350, 351, 352, 433, 434, 435, 251, 436, 274, 271, 272, 273, 437, 438, 439, 440, 441, 442, 254, 253, 443, 444, 445, 247, 446, 267, 265, 266, 447, 448, 711, 712, 713, 714, 449, 450, 451, 452, 453, 60, 454, 455, 456, 457, 458, 459, 460, 461, 462, 463, 464, 465, 59, 466, 467, 468, 469, 470, 471, 472, 473, 474, 715, 716, 717, 718, 751, 752, 753, 754, 755, 756, 757, 807, 808, 809, 810, 811, 812, 813, 814, 815, 816, 817, 818, 819, 820, 821, 822, 823, 802, 803, 827, 828, 829, 830, 824, 825, 826] rfl (by decide +kernel)
set_option maxRecDepth 100000 in
theorem gL_law_X7_hash : GoodIn wsL_law (wsV RL 97 RX7 yX7_hash wsX7_hash) := goodIn_app (goodIn_of _ (by decide +kernel)) ggL_law_X7_hash
set_option maxRecDepth 100000 in
theorem ggL_law_X8_hash : GoodIn wsL_law wsX8_hash := goodIn_r _ [722, 187, 492, 94, 93, 313, 314, 315, 5, 316, 284, 498, 499, 500, 501, 74, 75, 78, 76, 77, 72, 73, 79, 80, 81, 82, 83, 84, 85, 86, 87, 493, 494, 495, 496, 92, 497, 502, 503, 504, 505, 506, 507, 171, 103, 508, 509, 510, 511, 169, 170, 512, 513, 514, 515, 168, 516, 517, 518, 519, 520, 521, 522, 758, 759, 760, 761, 762, 763, 764, 765, 766, 767, 768, 769, 770, 771, 772, 773, 774, 775, 776, 777, 778, 779, 780, 781, 782, 783, 784, 785, 786, 787, 788, 789, 790, 791, 792, 793, 794, 795, 796, 797, 798] rfl (by decide +kernel)
set_option maxRecDepth 100000 in
theorem gL_law_X8_hash : GoodIn wsL_law (wsV RL 100 RX8 yX8_hash wsX8_hash) := goodIn_app (goodIn_of _ (by decide +kernel)) ggL_law_X8_hash
set_option maxRecDepth 100000 in
theorem ggL_law_L_digest : GoodIn wsL_law wsL_digest := goodIn_r _ [726, 727, 728, 729, 2, 730, 731, 732, 733, 34, 831, 832, 833, 834, 835, 836, 751, 752, 753, 754, 755, 756, 757] rfl (by decide +kernel)
set_option maxRecDepth 100000 in
theorem gL_law_L_digest : GoodIn wsL_law (va_wsS RL 101 yL_digest wsL_digest) := goodIn_app (goodIn_of _ (by decide +kernel)) ggL_law_L_digest
set_option maxRecDepth 100000 in
theorem ggL_law_X8_digest : GoodIn wsL_law wsX8_digest := goodIn_r _ [737, 187, 94, 758, 759, 760, 761, 762, 763, 764, 765, 766, 767, 768, 769, 770, 771, 772, 773, 774, 775, 776, 777, 778, 779, 780, 781, 782, 783, 784, 785, 786, 787, 788, 789, 790, 791, 792, 793, 794, 795, 796, 797, 798] rfl (by decide +kernel)
set_option maxRecDepth 100000 in
theorem gL_law_X8_digest : GoodIn wsL_law (wsV RL 106 RX8 yX8_digest wsX8_digest) := goodIn_app (goodIn_of _ (by decide +kernel)) ggL_law_X8_digest
set_option maxRecDepth 100000 in
theorem ggL_law_X8_thrown : GoodIn wsL_law wsX8_thrown := goodIn_r _ [741, 187, 758, 759, 760, 761, 762, 763, 764, 765, 766, 767, 768, 769, 770, 771, 772, 773, 774, 775, 776, 777, 778, 779, 780, 781, 782, 783, 784, 785, 786, 787, 788, 789, 790, 791, 792, 793, 794, 795, 796, 797, 798] rfl (by decide +kernel)
set_option maxRecDepth 100000 in
theorem gL_law_X8_thrown : GoodIn wsL_law (wsV RL 107 RX8 yX8_thrown wsX8_thrown) := goodIn_app (goodIn_of _ (by decide +kernel)) ggL_law_X8_thrown
set_option maxRecDepth 100000 in
theorem ggL_law_X7_about : GoodIn wsL_law wsX7_about := goodIn_r _ [745, 293, 294, 295, 2, 296, 23, 746, 567, 468, 568, 569, 570, 571, 811, 812, 813, 814, 815, 816, 817, 818, 819, 820, 821, 822, 823, 824, 825, 826, 827, 828, 829, 830, 751, 752, 753, 754, 755, 756, 757] rfl (by decide +kernel)
set_option maxRecDepth 100000 in
theorem gL_law_X7_about : GoodIn wsL_law (wsV RL 111 RX7 yX7_about wsX7_about) := goodIn_app (goodIn_of _ (by decide +kernel)) ggL_law_X7_about
set_option maxRecDepth 100000 in
theorem ggL_law_X8_about : GoodIn wsL_law wsX8_about := goodIn_r _ [750, 187, 74, 75, 88, 79, 82, 86, 313, 314, 315, 5, 316, 284, 609, 610, 611, 612, 188, 89, 90, 488, 489, 490, 491, 492, 66, 93, 493, 494, 495, 496, 92, 497, 498, 499, 500, 501, 78, 76, 77, 72, 73, 80, 81, 83, 84, 85, 87, 502, 503, 504, 505, 506, 507, 171, 103, 508, 509, 510, 511, 169, 170, 512, 513, 514, 515, 168, 516, 517, 518, 519, 520, 521, 522, 613, 614, 615, 758, 759, 760, 761, 762, 763, 764, 765, 766, 767, 768, 769, 770, 771, 772, 773, 774, 775, 776, 777, 778, 779, 780, 781, 782, 783, 784, 785, 786, 787, 788, 789, 790, 791, 792, 793, 794, 795, 796, 797, 798] rfl (by decide +kernel)
set_option maxRecDepth 100000 in
theorem gL_law_X8_about : GoodIn wsL_law (wsV RL 114 RX8 yX8_about wsX8_about) := goodIn_app (goodIn_of _ (by decide +kernel)) ggL_law_X8_about
