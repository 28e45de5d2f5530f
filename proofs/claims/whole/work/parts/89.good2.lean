set_option maxRecDepth 100000 in
theorem ggL_law_X7_octet : GoodIn wsL_law wsX7_octet := goodIn_r _ [290, 291, 292, 293, 2, 294, 295, 296, 297, 298, 23, 299, 300, 301, 234, 302, 257, 303, 304, 305, 306, 244, 243, 750, 751, 752, 753, 754, 755, 756, 811, 812, 813, 814, 815, 816, 817, 818, 819, 820, 821, 822, 823] rfl (by decide +kernel)
set_option maxRecDepth 100000 in
theorem gL_law_X7_octet : GoodIn wsL_law (wsV RL 41 RX7 yX7_octet wsX7_octet) := goodIn_app (goodIn_of _ (by decide +kernel)) ggL_law_X7_octet
set_option maxRecDepth 100000 in
theorem ggL_law_X8_octet : GoodIn wsL_law wsX8_octet := goodIn_r _ [310, 189, 78, 79, 311, 312, 313, 5, 314, 90, 315, 316, 317, 318, 286, 757, 758, 759, 760, 761, 762, 763, 764, 765, 766, 767, 768, 769, 770, 771, 772, 773, 774, 775, 776, 777, 778, 779, 780, 781, 782, 783, 784, 785, 786, 787, 788, 789, 790, 791, 792, 793, 794, 795, 796, 797] rfl (by decide +kernel)
set_option maxRecDepth 100000 in
theorem gL_law_X8_octet : GoodIn wsL_law (wsV RL 45 RX8 yX8_octet wsX8_octet) := goodIn_app (goodIn_of _ (by decide +kernel)) ggL_law_X8_octet
set_option maxRecDepth 100000 in
theorem ggL_law_X7_tells : GoodIn wsL_law wsX7_tells := goodIn_r _ [322, 291, 292, 293, 2, 294, 295, 296, 297, 298, 23, 299, 300, 301, 234, 302, 257, 323, 324, 325, 326, 260, 235, 236, 237, 238, 327, 328, 329, 249, 330, 267, 268, 269, 331, 332, 333, 334, 335, 336, 337, 338, 811, 812, 813, 814, 815, 816, 817, 818, 819, 820, 821, 822, 823, 750, 751, 752, 753, 754, 755, 756, 824, 825, 826] rfl (by decide +kernel)
set_option maxRecDepth 100000 in
theorem gL_law_X7_tells : GoodIn wsL_law (wsV RL 46 RX7 yX7_tells wsX7_tells) := goodIn_app (goodIn_of _ (by decide +kernel)) ggL_law_X7_tells
set_option maxRecDepth 100000 in
theorem ggL_law_X8_tells : GoodIn wsL_law wsX8_tells := goodIn_r _ [342, 189, 285, 76, 81, 82, 83, 311, 312, 313, 5, 314, 90, 315, 316, 317, 318, 286, 343, 344, 345, 346, 757, 758, 759, 760, 761, 762, 763, 764, 765, 766, 767, 768, 769, 770, 771, 772, 773, 774, 775, 776, 777, 778, 779, 780, 781, 782, 783, 784, 785, 786, 787, 788, 789, 790, 791, 792, 793, 794, 795, 796, 797] rfl (by decide +kernel)
set_option maxRecDepth 100000 in
theorem gL_law_X8_tells : GoodIn wsL_law (wsV RL 50 RX8 yX8_tells wsX8_tells) := goodIn_app (goodIn_of _ (by decide +kernel)) ggL_law_X8_tells
set_option maxRecDepth 100000 in
theorem ggL_law_X7_delegate : GoodIn wsL_law wsX7_delegate := goodIn_r _ [350, 291, 292, 293, 2, 294, 295, 296, 297, 298, 23, 299, 300, 301, 234, 302, 257, 351, 352, 353, 354, 260, 355, 356, 357, 358, 359, 360, 361, 362, 363, 253, 364, 276, 273, 274, 275, 811, 812, 813, 814, 815, 816, 817, 818, 819, 820, 821, 822, 823, 750, 751, 752, 753, 754, 755, 756, 827, 828, 829, 830] rfl (by decide +kernel)
set_option maxRecDepth 100000 in
theorem gL_law_X7_delegate : GoodIn wsL_law (wsV RL 51 RX7 yX7_delegate wsX7_delegate) := goodIn_app (goodIn_of _ (by decide +kernel)) ggL_law_X7_delegate
set_option maxRecDepth 100000 in
theorem ggL_law_X8_delegate : GoodIn wsL_law wsX8_delegate := goodIn_r _ [368, 189, 76, 84, 85, 86, 87, 311, 312, 313, 5, 314, 90, 315, 316, 317, 318, 286, 369, 370, 371, 372, 757, 758, 759, 760, 761, 762, 763, 764, 765, 766, 767, 768, 769, 770, 771, 772, 773, 774, 775, 776, 777, 778, 779, 780, 781, 782, 783, 784, 785, 786, 787, 788, 789, 790, 791, 792, 793, 794, 795, 796, 797] rfl (by decide +kernel)
set_option maxRecDepth 100000 in
theorem gL_law_X8_delegate : GoodIn wsL_law (wsV RL 55 RX8 yX8_delegate wsX8_delegate) := goodIn_app (goodIn_of _ (by decide +kernel)) ggL_law_X8_delegate
set_option maxRecDepth 100000 in
theorem ggL_law_X7_lists : GoodIn wsL_law wsX7_lists := goodIn_r _ [376, 291, 292, 293, 2, 294, 295, 296, 297, 298, 23, 299, 300, 301, 234, 302, 257, 351, 352, 353, 354, 260, 377, 378, 379, 358, 359, 360, 380, 381, 382, 383, 256, 255, 750, 751, 752, 753, 754, 755, 756, 811, 812, 813, 814, 815, 816, 817, 818, 819, 820, 821, 822, 823] rfl (by decide +kernel)
set_option maxRecDepth 100000 in
theorem gL_law_X7_lists : GoodIn wsL_law (wsV RL 56 RX7 yX7_lists wsX7_lists) := goodIn_app (goodIn_of _ (by decide +kernel)) ggL_law_X7_lists
set_option maxRecDepth 100000 in
theorem ggL_law_X8_lists : GoodIn wsL_law wsX8_lists := goodIn_r _ [387, 189, 76, 88, 89, 311, 312, 313, 5, 314, 90, 315, 316, 317, 318, 286, 369, 370, 371, 372, 757, 758, 759, 760, 761, 762, 763, 764, 765, 766, 767, 768, 769, 770, 771, 772, 773, 774, 775, 776, 777, 778, 779, 780, 781, 782, 783, 784, 785, 786, 787, 788, 789, 790, 791, 792, 793, 794, 795, 796, 797] rfl (by decide +kernel)
set_option maxRecDepth 100000 in
theorem gL_law_X8_lists : GoodIn wsL_law (wsV RL 59 RX8 yX8_lists wsX8_lists) := goodIn_app (goodIn_of _ (by decide +kernel)) ggL_law_X8_lists
set_option maxRecDepth 100000 in
theorem ggL_law_X7_sign : GoodIn wsL_law wsX7_sign := goodIn_r _ [391, 17, 295, 296, 297, 2, 298, 23, 213, 214, 215, 16, 216, 40, 392, 393, 394, 234, 395, 257, 396, 397, 398, 399, 32, 400, 401, 402, 31, 403, 63, 404, 405, 406, 407, 38, 408, 409, 410, 411, 412, 413, 414, 415, 416, 417, 418, 419, 420, 60, 421, 422, 423, 424, 260, 261, 262, 244, 243, 246, 254, 250, 425, 426, 427, 428, 429, 430, 20, 431, 45, 46, 432, 433, 434, 352, 353, 354, 435, 436, 437, 253, 438, 276, 273, 274, 275, 439, 440, 441, 442, 443, 444, 256, 255, 445, 446, 447, 249, 448, 269, 267, 268, 449, 450, 451, 452, 453, 454, 455, 62, 456, 457, 458, 459, 460, 461, 462, 463, 464, 465, 466, 467, 61, 468, 469, 470, 471, 472, 473, 474, 475, 476, 477, 478, 479, 480, 481, 482, 483, 484, 485, 258, 750, 751, 752, 753, 754, 755, 756, 798, 799, 800, 811, 812, 813, 814, 815, 816, 817, 818, 819, 820, 821, 822, 823, 807, 808, 809, 810, 801, 802, 827, 828, 829, 830, 824, 825, 826] rfl (by decide +kernel)
set_option maxRecDepth 100000 in
theorem gL_law_X7_sign : GoodIn wsL_law (wsV RL 60 RX7 yX7_sign wsX7_sign) := goodIn_app (goodIn_of _ (by decide +kernel)) ggL_law_X7_sign
set_option maxRecDepth 100000 in
theorem ggL_law_X8_sign : GoodIn wsL_law wsX8_sign := goodIn_r _ [489, 189, 90, 315, 316, 317, 5, 318, 286, 225, 226, 227, 228, 190, 490, 491, 492, 493, 494, 68, 95, 495, 496, 497, 498, 94, 499, 500, 501, 502, 503, 76, 77, 80, 78, 79, 74, 75, 81, 82, 83, 84, 85, 86, 87, 88, 89, 504, 505, 506, 507, 508, 509, 173, 105, 510, 511, 512, 513, 171, 172, 514, 515, 516, 517, 170, 518, 519, 520, 521, 522, 523, 524, 525, 526, 527, 528, 91, 92, 757, 758, 759, 760, 761, 762, 763, 764, 765, 766, 767, 768, 769, 770, 771, 772, 773, 774, 775, 776, 777, 778, 779, 780, 781, 782, 783, 784, 785, 786, 787, 788, 789, 790, 791, 792, 793, 794, 795, 796, 797] rfl (by decide +kernel)
set_option maxRecDepth 100000 in
theorem gL_law_X8_sign : GoodIn wsL_law (wsV RL 64 RX8 yX8_sign wsX8_sign) := goodIn_app (goodIn_of _ (by decide +kernel)) ggL_law_X8_sign
set_option maxRecDepth 100000 in
theorem ggL_law_X7_forge : GoodIn wsL_law wsX7_forge := goodIn_r _ [532, 17, 295, 296, 297, 2, 298, 23, 213, 214, 215, 16, 216, 40, 392, 393, 394, 234, 395, 257, 396, 397, 398, 399, 32, 400, 401, 402, 31, 403, 63, 404, 405, 406, 407, 38, 408, 409, 410, 411, 412, 413, 414, 415, 416, 417, 418, 419, 420, 60, 421, 422, 423, 424, 260, 261, 262, 244, 243, 246, 254, 250, 425, 426, 427, 428, 429, 430, 20, 431, 45, 46, 432, 433, 434, 352, 353, 354, 435, 436, 437, 253, 438, 276, 273, 274, 275, 439, 440, 441, 442, 443, 444, 256, 255, 445, 446, 447, 249, 448, 269, 267, 268, 449, 450, 451, 452, 453, 454, 455, 62, 456, 457, 458, 459, 460, 461, 462, 463, 464, 465, 466, 467, 61, 468, 469, 470, 471, 472, 473, 474, 475, 476, 477, 478, 479, 480, 481, 482, 483, 484, 485, 258, 750, 751, 752, 753, 754, 755, 756, 798, 799, 800, 811, 812, 813, 814, 815, 816, 817, 818, 819, 820, 821, 822, 823, 807, 808, 809, 810, 801, 802, 827, 828, 829, 830, 824, 825, 826] rfl (by decide +kernel)
