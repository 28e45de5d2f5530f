set_option maxRecDepth 100000 in
theorem gL_law_X7_forge : GoodIn wsL_law (wsV RL 65 RX7 yX7_forge wsX7_forge) := goodIn_app (goodIn_of _ (by decide +kernel)) ggL_law_X7_forge
set_option maxRecDepth 100000 in
theorem ggL_law_X8_forge : GoodIn wsL_law wsX8_forge := goodIn_r _ [536, 189, 90, 315, 316, 317, 5, 318, 286, 225, 226, 227, 228, 190, 525, 526, 527, 528, 91, 92, 757, 758, 759, 760, 761, 762, 763, 764, 765, 766, 767, 768, 769, 770, 771, 772, 773, 774, 775, 776, 777, 778, 779, 780, 781, 782, 783, 784, 785, 786, 787, 788, 789, 790, 791, 792, 793, 794, 795, 796, 797] rfl (by decide +kernel)
set_option maxRecDepth 100000 in
theorem gL_law_X8_forge : GoodIn wsL_law (wsV RL 69 RX8 yX8_forge wsX8_forge) := goodIn_app (goodIn_of _ (by decide +kernel)) ggL_law_X8_forge
set_option maxRecDepth 100000 in
theorem ggL_law_X7_verify : GoodIn wsL_law wsX7_verify := goodIn_r _ [540, 28, 295, 296, 297, 2, 298, 23, 541, 542, 543, 27, 544, 545, 546, 547, 548, 52, 196, 197, 549, 550, 551, 234, 552, 262, 553, 554, 555, 556, 55, 53, 557, 558, 559, 16, 560, 40, 39, 561, 562, 563, 20, 564, 46, 45, 565, 566, 470, 567, 568, 569, 570, 571, 572, 573, 574, 575, 576, 577, 578, 579, 580, 581, 249, 582, 269, 268, 335, 336, 337, 338, 267, 583, 584, 585, 586, 587, 588, 589, 590, 591, 750, 751, 752, 753, 754, 755, 756, 811, 812, 813, 814, 815, 816, 817, 818, 819, 820, 821, 822, 823, 803, 804, 805, 806, 798, 799, 800, 801, 802, 824, 825, 826] rfl (by decide +kernel)
set_option maxRecDepth 100000 in
theorem gL_law_X7_verify : GoodIn wsL_law (wsV RL 70 RX7 yX7_verify wsX7_verify) := goodIn_app (goodIn_of _ (by decide +kernel)) ggL_law_X7_verify
set_option maxRecDepth 100000 in
theorem ggL_law_X8_verify : GoodIn wsL_law wsX8_verify := goodIn_r _ [595, 189, 596, 597, 598, 5, 599, 76, 93, 77, 315, 316, 317, 318, 286, 600, 601, 602, 603, 80, 604, 605, 606, 607, 75, 190, 69, 71, 74, 608, 609, 610, 611, 90, 91, 92, 490, 491, 492, 493, 494, 68, 95, 495, 496, 497, 498, 94, 499, 500, 501, 502, 503, 78, 79, 81, 82, 83, 84, 85, 86, 87, 88, 89, 504, 505, 506, 507, 508, 509, 173, 105, 510, 511, 512, 513, 171, 172, 514, 515, 516, 517, 170, 518, 519, 520, 521, 522, 523, 524, 612, 613, 614, 615, 616, 617, 618, 343, 344, 345, 346, 619, 620, 621, 622, 757, 758, 759, 760, 761, 762, 763, 764, 765, 766, 767, 768, 769, 770, 771, 772, 773, 774, 775, 776, 777, 778, 779, 780, 781, 782, 783, 784, 785, 786, 787, 788, 789, 790, 791, 792, 793, 794, 795, 796, 797] rfl (by decide +kernel)
set_option maxRecDepth 100000 in
theorem gL_law_X8_verify : GoodIn wsL_law (wsV RL 74 RX8 yX8_verify wsX8_verify) := goodIn_app (goodIn_of _ (by decide +kernel)) ggL_law_X8_verify
set_option maxRecDepth 100000 in
theorem ggL_law_X7_update : GoodIn wsL_law wsX7_update := goodIn_r _ [626, 28, 295, 296, 297, 2, 298, 23, 541, 542, 543, 27, 544, 545, 546, 547, 548, 52, 196, 197, 549, 550, 551, 234, 552, 262, 553, 554, 555, 556, 55, 53, 557, 558, 559, 16, 560, 40, 39, 561, 562, 563, 20, 564, 46, 45, 565, 566, 470, 567, 568, 569, 570, 571, 572, 573, 574, 575, 576, 577, 578, 579, 580, 581, 249, 582, 269, 268, 335, 336, 337, 338, 267, 583, 584, 585, 586, 587, 588, 589, 590, 591, 627, 628, 629, 630, 750, 751, 752, 753, 754, 755, 756, 811, 812, 813, 814, 815, 816, 817, 818, 819, 820, 821, 822, 823, 803, 804, 805, 806, 798, 799, 800, 801, 802, 824, 825, 826] rfl (by decide +kernel)
set_option maxRecDepth 100000 in
theorem gL_law_X7_update : GoodIn wsL_law (wsV RL 75 RX7 yX7_update wsX7_update) := goodIn_app (goodIn_of _ (by decide +kernel)) ggL_law_X7_update
set_option maxRecDepth 100000 in
theorem ggL_law_X8_update : GoodIn wsL_law wsX8_update := goodIn_r _ [634, 189, 93, 76, 596, 597, 598, 5, 599, 77, 315, 316, 317, 318, 286, 600, 601, 602, 603, 80, 604, 605, 606, 607, 75, 190, 69, 71, 74, 608, 609, 610, 611, 90, 91, 92, 490, 491, 492, 493, 494, 68, 95, 495, 496, 497, 498, 94, 499, 500, 501, 502, 503, 78, 79, 81, 82, 83, 84, 85, 86, 87, 88, 89, 504, 505, 506, 507, 508, 509, 173, 105, 510, 511, 512, 513, 171, 172, 514, 515, 516, 517, 170, 518, 519, 520, 521, 522, 523, 524, 612, 613, 614, 615, 616, 617, 618, 343, 344, 345, 346, 619, 620, 621, 622, 757, 758, 759, 760, 761, 762, 763, 764, 765, 766, 767, 768, 769, 770, 771, 772, 773, 774, 775, 776, 777, 778, 779, 780, 781, 782, 783, 784, 785, 786, 787, 788, 789, 790, 791, 792, 793, 794, 795, 796, 797] rfl (by decide +kernel)
set_option maxRecDepth 100000 in
theorem gL_law_X8_update : GoodIn wsL_law (wsV RL 78 RX8 yX8_update wsX8_update) := goodIn_app (goodIn_of _ (by decide +kernel)) ggL_law_X8_update
set_option maxRecDepth 100000 in
theorem ggL_law_X7_revoke : GoodIn wsL_law wsX7_revoke := goodIn_r _ [638, 17, 28, 213, 214, 215, 16, 216, 40, 639, 640, 641, 27, 642, 53, 750, 751, 752, 753, 754, 755, 756, 798, 799, 800, 803, 804, 805, 806] rfl (by decide +kernel)
set_option maxRecDepth 100000 in
theorem gL_law_X7_revoke : GoodIn wsL_law (wsV RL 79 RX7 yX7_revoke wsX7_revoke) := goodIn_app (goodIn_of _ (by decide +kernel)) ggL_law_X7_revoke
set_option maxRecDepth 100000 in
theorem ggL_law_X8_revoke : GoodIn wsL_law wsX8_revoke := goodIn_r _ [646, 189, 71, 225, 226, 227, 5, 228, 190, 757, 758, 759, 760, 761, 762, 763, 764, 765, 766, 767, 768, 769, 770, 771, 772, 773, 774, 775, 776, 777, 778, 779, 780, 781, 782, 783, 784, 785, 786, 787, 788, 789, 790, 791, 792, 793, 794, 795, 796, 797] rfl (by decide +kernel)
set_option maxRecDepth 100000 in
theorem gL_law_X8_revoke : GoodIn wsL_law (wsV RL 83 RX8 yX8_revoke wsX8_revoke) := goodIn_app (goodIn_of _ (by decide +kernel)) ggL_law_X8_revoke
set_option maxRecDepth 100000 in
theorem ggL_law_X7_find : GoodIn wsL_law wsX7_find := goodIn_r _ [650, 28, 377, 378, 2, 379, 358, 359, 360, 651, 652, 653, 27, 654, 54, 655, 656, 657, 658, 545, 546, 547, 548, 52, 196, 197, 659, 660, 661, 234, 662, 256, 255, 663, 664, 665, 666, 667, 668, 355, 356, 357, 669, 670, 671, 672, 750, 751, 752, 753, 754, 755, 756, 803, 804, 805, 806, 827, 828, 829, 830, 811, 812, 813, 814, 815, 816, 817, 818, 819, 820, 821, 822, 823] rfl (by decide +kernel)
set_option maxRecDepth 100000 in
theorem gL_law_X7_find : GoodIn wsL_law (wsV RL 84 RX7 yX7_find wsX7_find) := goodIn_app (goodIn_of _ (by decide +kernel)) ggL_law_X7_find
set_option maxRecDepth 100000 in
theorem ggL_law_X8_find : GoodIn wsL_law wsX8_find := goodIn_r _ [676, 189, 93, 174, 677, 175, 176, 87, 85, 84, 86, 369, 370, 5, 371, 372, 678, 679, 680, 681, 682, 683, 684, 685, 88, 89, 686, 687, 688, 757, 758, 759, 760, 761, 762, 763, 764, 765, 766, 767, 768, 769, 770, 771, 772, 773, 774, 775, 776, 777, 778, 779, 780, 781, 782, 783, 784, 785, 786, 787, 788, 789, 790, 791, 792, 793, 794, 795, 796, 797] rfl (by decide +kernel)
set_option maxRecDepth 100000 in
theorem gL_law_X8_find : GoodIn wsL_law (wsV RL 88 RX8 yX8_find wsX8_find) := goodIn_app (goodIn_of _ (by decide +kernel)) ggL_law_X8_find
set_option maxRecDepth 100000 in
theorem ggL_law_X7_version : GoodIn wsL_law wsX7_version := goodIn_r _ [692, 28, 195, 196, 2, 197, 693, 546, 547, 27, 548, 52, 750, 751, 752, 753, 754, 755, 756, 811, 812, 813, 814, 815, 816, 817, 818, 819, 820, 821, 822, 823, 803, 804, 805, 806] rfl (by decide +kernel)
