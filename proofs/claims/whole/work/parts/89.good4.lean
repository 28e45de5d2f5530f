set_option maxRecDepth 100000 in
theorem gL_law_X7_version : GoodIn wsL_law (wsV RL 89 RX7 yX7_version wsX7_version) := goodIn_app (goodIn_of _ (by decide +kernel)) ggL_law_X7_version
set_option maxRecDepth 100000 in
theorem ggL_law_X8_version : GoodIn wsL_law wsX8_version := goodIn_r _ [697, 189, 93, 77, 206, 207, 5, 208, 757, 758, 759, 760, 761, 762, 763, 764, 765, 766, 767, 768, 769, 770, 771, 772, 773, 774, 775, 776, 777, 778, 779, 780, 781, 782, 783, 784, 785, 786, 787, 788, 789, 790, 791, 792, 793, 794, 795, 796, 797] rfl (by decide +kernel)
set_option maxRecDepth 100000 in
theorem gL_law_X8_version : GoodIn wsL_law (wsV RL 92 RX8 yX8_version wsX8_version) := goodIn_app (goodIn_of _ (by decide +kernel)) ggL_law_X8_version
set_option maxRecDepth 100000 in
theorem ggL_law_X7_current : GoodIn wsL_law wsX7_current := goodIn_r _ [701, 28, 693, 546, 547, 27, 548, 52, 196, 2, 197, 750, 751, 752, 753, 754, 755, 756, 811, 812, 813, 814, 815, 816, 817, 818, 819, 820, 821, 822, 823, 803, 804, 805, 806] rfl (by decide +kernel)
set_option maxRecDepth 100000 in
theorem gL_law_X7_current : GoodIn wsL_law (wsV RL 93 RX7 yX7_current wsX7_current) := goodIn_app (goodIn_of _ (by decide +kernel)) ggL_law_X7_current
set_option maxRecDepth 100000 in
theorem ggL_law_X8_current : GoodIn wsL_law wsX8_current := goodIn_r _ [705, 189, 93, 206, 207, 5, 208, 757, 758, 759, 760, 761, 762, 763, 764, 765, 766, 767, 768, 769, 770, 771, 772, 773, 774, 775, 776, 777, 778, 779, 780, 781, 782, 783, 784, 785, 786, 787, 788, 789, 790, 791, 792, 793, 794, 795, 796, 797] rfl (by decide +kernel)
set_option maxRecDepth 100000 in
theorem gL_law_X8_current : GoodIn wsL_law (wsV RL 96 RX8 yX8_current wsX8_current) := goodIn_app (goodIn_of _ (by decide +kernel)) ggL_law_X8_current
set_option maxRecDepth 100000 in
theorem ggL_law_X7_hash : GoodIn wsL_law wsX7_hash := goodIn_r _ [709, 32, 34, 295, 296, 297, 2, 298, 23, 400, 401, 402, 31, 403, 63, 421, 422, 423, 234, 424, 260, 261, 262, 244, 243, 246, 254, 250, 425, 418, 419, 420, 60, 426, 414, 415, 416, 417, 427, 410, 411, 412, 413, 428, 429, 430, 20, 431, 45, 46, 432, 433, 434, 352, 353, 354, 435, 436, 437, 253, 438, 276, 273, 274, 275, 439, 440, 441, 442, 443, 444, 256, 255, 445, 446, 447, 249, 448, 269, 267, 268, 449, 450, 710, 711, 712, 713, 451, 452, 453, 454, 455, 62, 456, 457, 458, 459, 460, 461, 462, 463, 464, 465, 466, 467, 61, 468, 469, 470, 471, 472, 473, 474, 475, 476, 714, 715, 716, 717, 750, 751, 752, 753, 754, 755, 756, 807, 808, 809, 810, 811, 812, 813, 814, 815, 816, 817, 818, 819, 820, 821, 822, 823, 801, 802, 827, 828, 829, 830, 824, 825, 826] rfl (by decide +kernel)
set_option maxRecDepth 100000 in
theorem gL_law_X7_hash : GoodIn wsL_law (wsV RL 97 RX7 yX7_hash wsX7_hash) := goodIn_app (goodIn_of _ (by decide +kernel)) ggL_law_X7_hash
set_option maxRecDepth 100000 in
theorem ggL_law_X8_hash : GoodIn wsL_law wsX8_hash := goodIn_r _ [721, 189, 494, 96, 95, 315, 316, 317, 5, 318, 286, 500, 501, 502, 503, 76, 77, 80, 78, 79, 74, 75, 81, 82, 83, 84, 85, 86, 87, 88, 89, 495, 496, 497, 498, 94, 499, 504, 505, 506, 507, 508, 509, 173, 105, 510, 511, 512, 513, 171, 172, 514, 515, 516, 517, 170, 518, 519, 520, 521, 522, 523, 524, 757, 758, 759, 760, 761, 762, 763, 764, 765, 766, 767, 768, 769, 770, 771, 772, 773, 774, 775, 776, 777, 778, 779, 780, 781, 782, 783, 784, 785, 786, 787, 788, 789, 790, 791, 792, 793, 794, 795, 796, 797] rfl (by decide +kernel)
set_option maxRecDepth 100000 in
theorem gL_law_X8_hash : GoodIn wsL_law (wsV RL 100 RX8 yX8_hash wsX8_hash) := goodIn_app (goodIn_of _ (by decide +kernel)) ggL_law_X8_hash
set_option maxRecDepth 100000 in
theorem ggL_law_L_digest : GoodIn wsL_law wsL_digest := goodIn_r _ [725, 726, 727, 728, 2, 729, 730, 731, 732, 34, 831, 832, 833, 834, 835, 836, 750, 751, 752, 753, 754, 755, 756] rfl (by decide +kernel)
set_option maxRecDepth 100000 in
theorem gL_law_L_digest : GoodIn wsL_law (va_wsS RL 101 yL_digest wsL_digest) := goodIn_app (goodIn_of _ (by decide +kernel)) ggL_law_L_digest
set_option maxRecDepth 100000 in
theorem ggL_law_X8_digest : GoodIn wsL_law wsX8_digest := goodIn_r _ [736, 189, 96, 757, 758, 759, 760, 761, 762, 763, 764, 765, 766, 767, 768, 769, 770, 771, 772, 773, 774, 775, 776, 777, 778, 779, 780, 781, 782, 783, 784, 785, 786, 787, 788, 789, 790, 791, 792, 793, 794, 795, 796, 797] rfl (by decide +kernel)
set_option maxRecDepth 100000 in
theorem gL_law_X8_digest : GoodIn wsL_law (wsV RL 106 RX8 yX8_digest wsX8_digest) := goodIn_app (goodIn_of _ (by decide +kernel)) ggL_law_X8_digest
set_option maxRecDepth 100000 in
theorem ggL_law_X8_thrown : GoodIn wsL_law wsX8_thrown := goodIn_r _ [740, 189, 757, 758, 759, 760, 761, 762, 763, 764, 765, 766, 767, 768, 769, 770, 771, 772, 773, 774, 775, 776, 777, 778, 779, 780, 781, 782, 783, 784, 785, 786, 787, 788, 789, 790, 791, 792, 793, 794, 795, 796, 797] rfl (by decide +kernel)
set_option maxRecDepth 100000 in
theorem gL_law_X8_thrown : GoodIn wsL_law (wsV RL 107 RX8 yX8_thrown wsX8_thrown) := goodIn_app (goodIn_of _ (by decide +kernel)) ggL_law_X8_thrown
set_option maxRecDepth 100000 in
theorem ggL_law_X7_about : GoodIn wsL_law wsX7_about := goodIn_r _ [744, 295, 296, 297, 2, 298, 23, 745, 566, 470, 567, 568, 569, 570, 811, 812, 813, 814, 815, 816, 817, 818, 819, 820, 821, 822, 823, 824, 825, 826, 827, 828, 829, 830, 750, 751, 752, 753, 754, 755, 756] rfl (by decide +kernel)
set_option maxRecDepth 100000 in
theorem gL_law_X7_about : GoodIn wsL_law (wsV RL 111 RX7 yX7_about wsX7_about) := goodIn_app (goodIn_of _ (by decide +kernel)) ggL_law_X7_about
set_option maxRecDepth 100000 in
theorem ggL_law_X8_about : GoodIn wsL_law wsX8_about := goodIn_r _ [749, 189, 76, 77, 90, 81, 84, 88, 315, 316, 317, 5, 318, 286, 608, 609, 610, 611, 190, 91, 92, 490, 491, 492, 493, 494, 68, 95, 495, 496, 497, 498, 94, 499, 500, 501, 502, 503, 80, 78, 79, 74, 75, 82, 83, 85, 86, 87, 89, 504, 505, 506, 507, 508, 509, 173, 105, 510, 511, 512, 513, 171, 172, 514, 515, 516, 517, 170, 518, 519, 520, 521, 522, 523, 524, 612, 613, 614, 757, 758, 759, 760, 761, 762, 763, 764, 765, 766, 767, 768, 769, 770, 771, 772, 773, 774, 775, 776, 777, 778, 779, 780, 781, 782, 783, 784, 785, 786, 787, 788, 789, 790, 791, 792, 793, 794, 795, 796, 797] rfl (by decide +kernel)
set_option maxRecDepth 100000 in
theorem gL_law_X8_about : GoodIn wsL_law (wsV RL 114 RX8 yX8_about wsX8_about) := goodIn_app (goodIn_of _ (by decide +kernel)) ggL_law_X8_about
