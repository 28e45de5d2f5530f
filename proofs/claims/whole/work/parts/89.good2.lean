set_option maxRecDepth 100000 in
theorem ggL_law_X7_octet : GoodIn wsL_law wsX7_octet := goodIn_r _ [288, 289, 290, 291, 2, 292, 293, 294, 295, 296, 23, 297, 298, 299, 232, 300, 255, 301, 302, 303, 304, 242, 241, 751, 752, 753, 754, 755, 756, 757, 811, 812, 813, 814, 815, 816, 817, 818, 819, 820, 821, 822, 823] rfl (by decide +kernel)
set_option maxRecDepth 100000 in
theorem gL_law_X7_octet : GoodIn wsL_law (wsV RL 41 RX7 yX7_octet wsX7_octet) := goodIn_app (goodIn_of _ (by decide +kernel)) ggL_law_X7_octet
set_option maxRecDepth 100000 in
theorem ggL_law_X8_octet : GoodIn wsL_law wsX8_octet := goodIn_r _ [308, 187, 76, 77, 309, 310, 311, 5, 312, 88, 313, 314, 315, 316, 284, 758, 759, 760, 761, 762, 763, 764, 765, 766, 767, 768, 769, 770, 771, 772, 773, 774, 775, 776, 777, 778, 779, 780, 781, 782, 783, 784, 785, 786, 787, 788, 789, 790, 791, 792, 793, 794, 795, 796, 797, 798] rfl (by decide +kernel)
set_option maxRecDepth 100000 in
theorem gL_law_X8_octet : GoodIn wsL_law (wsV RL 45 RX8 yX8_octet wsX8_octet) := goodIn_app (goodIn_of _ (by decide +kernel)) ggL_law_X8_octet
set_option maxRecDepth 100000 in
theorem ggL_law_X7_tells : GoodIn wsL_law wsX7_tells := goodIn_r _ [320, 289, 290, 291, 2, 292, 293, 294, 295, 296, 23, 297, 298, 299, 232, 300, 255, 321, 322, 323, 324, 258, 233, 234, 235, 236, 325, 326, 327, 247, 328, 265, 266, 267, 329, 330, 331, 332, 333, 334, 335, 336, 811, 812, 813, 814, 815, 816, 817, 818, 819, 820, 821, 822, 823, 751, 752, 753, 754, 755, 756, 757, 824, 825, 826] rfl (by decide +kernel)
set_option maxRecDepth 100000 in
theorem gL_law_X7_tells : GoodIn wsL_law (wsV RL 46 RX7 yX7_tells wsX7_tells) := goodIn_app (goodIn_of _ (by decide +kernel)) ggL_law_X7_tells
set_option maxRecDepth 100000 in
theorem ggL_law_X8_tells : GoodIn wsL_law wsX8_tells := goodIn_r _ [340, 187, 283, 74, 79, 80, 81, 309, 310, 311, 5, 312, 88, 313, 314, 315, 316, 284, 341, 342, 343, 344, 758, 759, 760, 761, 762, 763, 764, 765, 766, 767, 768, 769, 770, 771, 772, 773, 774, 775, 776, 777, 778, 779, 780, 781, 782, 783, 784, 785, 786, 787, 788, 789, 790, 791, 792, 793, 794, 795, 796, 797, 798] rfl (by decide +kernel)
set_option maxRecDepth 100000 in
theorem gL_law_X8_tells : GoodIn wsL_law (wsV RL 50 RX8 yX8_tells wsX8_tells) := goodIn_app (goodIn_of _ (by decide +kernel)) ggL_law_X8_tells
set_option maxRecDepth 100000 in
theorem ggL_law_X7_delegate : GoodIn wsL_law wsX7_delegate := goodIn_r _ [348, 289, 290, 291, 2, 292, 293, 294, 295, 296, 23, 297, 298, 299, 232, 300, 255, 349, 350, 351, 352, 258, 353, 354, 355, 356, 357, 358, 359, 360, 361, 251, 362, 274, 271, 272, 273, 811, 812, 813, 814, 815, 816, 817, 818, 819, 820, 821, 822, 823, 751, 752, 753, 754, 755, 756, 757, 827, 828, 829, 830] rfl (by decide +kernel)
set_option maxRecDepth 100000 in
theorem gL_law_X7_delegate : GoodIn wsL_law (wsV RL 51 RX7 yX7_delegate wsX7_delegate) := goodIn_app (goodIn_of _ (by decide +kernel)) ggL_law_X7_delegate
set_option maxRecDepth 100000 in
theorem ggL_law_X8_delegate : GoodIn wsL_law wsX8_delegate := goodIn_r _ [366, 187, 74, 82, 83, 84, 85, 309, 310, 311, 5, 312, 88, 313, 314, 315, 316, 284, 367, 368, 369, 370, 758, 759, 760, 761, 762, 763, 764, 765, 766, 767, 768, 769, 770, 771, 772, 773, 774, 775, 776, 777, 778, 779, 780, 781, 782, 783, 784, 785, 786, 787, 788, 789, 790, 791, 792, 793, 794, 795, 796, 797, 798] rfl (by decide +kernel)
set_option maxRecDepth 100000 in
theorem gL_law_X8_delegate : GoodIn wsL_law (wsV RL 55 RX8 yX8_delegate wsX8_delegate) := goodIn_app (goodIn_of _ (by decide +kernel)) ggL_law_X8_delegate
set_option maxRecDepth 100000 in
theorem ggL_law_X7_lists : GoodIn wsL_law wsX7_lists := goodIn_r _ [374, 289, 290, 291, 2, 292, 293, 294, 295, 296, 23, 297, 298, 299, 232, 300, 255, 349, 350, 351, 352, 258, 375, 376, 377, 356, 357, 358, 378, 379, 380, 381, 254, 253, 751, 752, 753, 754, 755, 756, 757, 811, 812, 813, 814, 815, 816, 817, 818, 819, 820, 821, 822, 823] rfl (by decide +kernel)
set_option maxRecDepth 100000 in
theorem gL_law_X7_lists : GoodIn wsL_law (wsV RL 56 RX7 yX7_lists wsX7_lists) := goodIn_app (goodIn_of _ (by decide +kernel)) ggL_law_X7_lists
set_option maxRecDepth 100000 in
theorem ggL_law_X8_lists : GoodIn wsL_law wsX8_lists := goodIn_r _ [385, 187, 74, 86, 87, 309, 310, 311, 5, 312, 88, 313, 314, 315, 316, 284, 367, 368, 369, 370, 758, 759, 760, 761, 762, 763, 764, 765, 766, 767, 768, 769, 770, 771, 772, 773, 774, 775, 776, 777, 778, 779, 780, 781, 782, 783, 784, 785, 786, 787, 788, 789, 790, 791, 792, 793, 794, 795, 796, 797, 798] rfl (by decide +kernel)
set_option maxRecDepth 100000 in
theorem gL_law_X8_lists : GoodIn wsL_law (wsV RL 59 RX8 yX8_lists wsX8_lists) := goodIn_app (goodIn_of _ (by decide +kernel)) ggL_law_X8_lists
set_option maxRecDepth 100000 in
theorem ggL_law_X7_sign : GoodIn wsL_law wsX7_sign := goodIn_r _ [389, 17, 293, 294, 295, 2, 296, 23, 211, 212, 213, 16, 214, 40, 390, 391, 392, 232, 393, 255, 394, 395, 396, 397, 32, 398, 399, 400, 31, 401, 61, 402, 403, 404, 405, 38, 406, 407, 408, 409, 410, 411, 412, 413, 414, 415, 416, 417, 418, 58, 419, 420, 421, 422, 258, 259, 260, 242, 241, 244, 252, 248, 423, 424, 425, 426, 427, 428, 20, 429, 45, 46, 430, 431, 432, 350, 351, 352, 433, 434, 435, 251, 436, 274, 271, 272, 273, 437, 438, 439, 440, 441, 442, 254, 253, 443, 444, 445, 247, 446, 267, 265, 266, 447, 448, 449, 450, 451, 452, 453, 60, 454, 455, 456, 457, 458, 459, 460, 461, 462, 463, 464, 465, 59, 466, 467, 468, 469, 470, 471, 472, 473, 474, 475, 476, 477, 478, 479, 480, 481, 482, 483, 256, 751, 752, 753, 754, 755, 756, 757, 799, 800, 801, 811, 812, 813, 814, 815, 816, 817, 818, 819, 820, 821, 822, 823, 807, 808, 809, 810, 802, 803, 827, 828, 829, 830, 824, 825, 826] rfl (by decide +kernel)
set_option maxRecDepth 100000 in
theorem gL_law_X7_sign : GoodIn wsL_law (wsV RL 60 RX7 yX7_sign wsX7_sign) := goodIn_app (goodIn_of _ (by decide +kernel)) ggL_law_X7_sign
set_option maxRecDepth 100000 in
theorem ggL_law_X8_sign : GoodIn wsL_law wsX8_sign := goodIn_r _ [487, 187, 88, 313, 314, 315, 5, 316, 284, 223, 224, 225, 226, 188, 488, 489, 490, 491, 492, 66, 93, 493, 494, 495, 496, 92, 497, 498, 499, 500, 501, 74, 75, 78, 76, 77, 72, 73, 79, 80, 81, 82, 83, 84, 85, 86, 87, 502, 503, 504, 505, 506, 507, 171, 103, 508, 509, 510, 511, 169, 170, 512, 513, 514, 515, 168, 516, 517, 518, 519, 520, 521, 522, 523, 524, 525, 526, 89, 90, 758, 759, 760, 761, 762, 763, 764, 765, 766, 767, 768, 769, 770, 771, 772, 773, 774, 775, 776, 777, 778, 779, 780, 781, 782, 783, 784, 785, 786, 787, 788, 789, 790, 791, 792, 793, 794, 795, 796, 797, 798] rfl (by decide +kernel)
set_option maxRecDepth 100000 in
theorem gL_law_X8_sign : GoodIn wsL_law (wsV RL 64 RX8 yX8_sign wsX8_sign) := goodIn_app (goodIn_of _ (by decide +kernel)) ggL_law_X8_sign
set_option maxRecDepth 100000 in
theorem ggL_law_X7_forge : GoodIn wsL_law wsX7_forge := goodIn_r _ [530, 17, 293, 294, 295, 2, 296, 23, 211, 212, 213, 16, 214, 40, 390, 391, 392, 232, 393, 255, 394, 395, 396, 397, 32, 398, 399, 400, 31, 401, 61, 402, 403, 404, 405, 38, 406, 407, 408, 409, 410, 411, 412, 413, 414, 415, 416, 417, 418, 58, 419, 420, 421, 422, 258, 259, 260, 242, 241, 244, 252, 248, 423, 424, 425, 426, 427, 428, 20, 429, 45, 46, 430, 431, 432, 350, 351, 352, 433, 434, 435, 251, 436, 274, 271, 272, 273, 437, 438, 439, 440, 441, 442, 254, 253, 443, 444, 445, 247, 446, 267, 265, 266, 447, 448, 449, 450, 451, 452, 453, 60, 454, 455, 456, 457, 458, 459, 460, 461, 462, 463, 464, 465, 59, 466, 467, 468, 469, 470, 471, 472, 473, 474, 475, 476, 477, 478, 479, 480, 481, 482, 483, 256, 751, 752, 753, 754, 755, 756, 757, 799, 800, 801, 811, 812, 813, 814, 815, 816, 817, 818, 819, 820, 821, 822, 823, 807, 808, 809, 810, 802, 803, 827, 828, 829, 830, 824, 825, 826] rfl (by decide +kernel)
