set_option maxRecDepth 100000 in
theorem gL_law_X7_forge : GoodIn wsL_law (wsV RL 65 RX7 yX7_forge wsX7_forge) := goodIn_app (goodIn_of _ (by decide +kernel)) ggL_law_X7_forge
set_option maxRecDepth 100000 in
theorem ggL_law_X8_forge : GoodIn wsL_law wsX8_forge := goodIn_r _ [534, 187, 88, 313, 314, 315, 5, 316, 284, 223, 224, 225, 226, 188, 523, 524, 525, 526, 89, 90, 758, 759, 760, 761, 762, 763, 764, 765, 766, 767, 768, 769, 770, 771, 772, 773, 774, 775, 776, 777, 778, 779, 780, 781, 782, 783, 784, 785, 786, 787, 788, 789, 790, 791, 792, 793, 794, 795, 796, 797, 798] rfl (by decide +kernel)
set_option maxRecDepth 100000 in
theorem gL_law_X8_forge : GoodIn wsL_law (wsV RL 69 RX8 yX8_forge wsX8_forge) := goodIn_app (goodIn_of _ (by decide +kernel)) ggL_law_X8_forge
set_option maxRecDepth 100000 in
theorem ggL_law_X7_verify : GoodIn wsL_law wsX7_verify := goodIn_r _ [538, 293, 294, 295, 2, 296, 23, 539, 540, 541, 542, 28, 17, 543, 544, 545, 16, 546, 40, 39, 547, 548, 549, 27, 550, 52, 551, 552, 553, 554, 51, 194, 195, 555, 556, 557, 232, 558, 260, 559, 560, 561, 562, 563, 564, 20, 565, 46, 45, 566, 567, 468, 568, 569, 570, 571, 572, 573, 574, 575, 576, 577, 578, 579, 580, 581, 582, 247, 583, 267, 266, 333, 334, 335, 336, 265, 584, 585, 586, 587, 588, 589, 590, 591, 592, 751, 752, 753, 754, 755, 756, 757, 799, 800, 801, 804, 805, 806, 811, 812, 813, 814, 815, 816, 817, 818, 819, 820, 821, 822, 823, 802, 803, 824, 825, 826] rfl (by decide +kernel)
set_option maxRecDepth 100000 in
theorem gL_law_X7_verify : GoodIn wsL_law (wsV RL 70 RX7 yX7_verify wsX7_verify) := goodIn_app (goodIn_of _ (by decide +kernel)) ggL_law_X7_verify
set_option maxRecDepth 100000 in
theorem ggL_law_X8_verify : GoodIn wsL_law wsX8_verify := goodIn_r _ [596, 187, 597, 598, 599, 5, 600, 74, 91, 75, 313, 314, 315, 316, 284, 601, 602, 603, 604, 78, 605, 606, 607, 608, 73, 188, 67, 69, 72, 609, 610, 611, 612, 88, 89, 90, 488, 489, 490, 491, 492, 66, 93, 493, 494, 495, 496, 92, 497, 498, 499, 500, 501, 76, 77, 79, 80, 81, 82, 83, 84, 85, 86, 87, 502, 503, 504, 505, 506, 507, 171, 103, 508, 509, 510, 511, 169, 170, 512, 513, 514, 515, 168, 516, 517, 518, 519, 520, 521, 522, 613, 614, 615, 616, 617, 618, 619, 341, 342, 343, 344, 620, 621, 622, 623, 758, 759, 760, 761, 762, 763, 764, 765, 766, 767, 768, 769, 770, 771, 772, 773, 774, 775, 776, 777, 778, 779, 780, 781, 782, 783, 784, 785, 786, 787, 788, 789, 790, 791, 792, 793, 794, 795, 796, 797, 798] rfl (by decide +kernel)
set_option maxRecDepth 100000 in
theorem gL_law_X8_verify : GoodIn wsL_law (wsV RL 74 RX8 yX8_verify wsX8_verify) := goodIn_app (goodIn_of _ (by decide +kernel)) ggL_law_X8_verify
set_option maxRecDepth 100000 in
theorem ggL_law_X7_update : GoodIn wsL_law wsX7_update := goodIn_r _ [627, 28, 293, 294, 295, 2, 296, 23, 539, 540, 541, 542, 17, 543, 544, 545, 16, 546, 40, 39, 547, 548, 549, 27, 550, 52, 551, 552, 553, 554, 51, 194, 195, 555, 556, 557, 232, 558, 260, 559, 560, 561, 562, 563, 564, 20, 565, 46, 45, 566, 567, 468, 568, 569, 570, 571, 572, 573, 574, 575, 576, 577, 578, 579, 580, 581, 582, 247, 583, 267, 266, 333, 334, 335, 336, 265, 584, 585, 586, 587, 588, 589, 590, 591, 592, 628, 629, 630, 631, 751, 752, 753, 754, 755, 756, 757, 799, 800, 801, 804, 805, 806, 811, 812, 813, 814, 815, 816, 817, 818, 819, 820, 821, 822, 823, 802, 803, 824, 825, 826] rfl (by decide +kernel)
set_option maxRecDepth 100000 in
theorem gL_law_X7_update : GoodIn wsL_law (wsV RL 75 RX7 yX7_update wsX7_update) := goodIn_app (goodIn_of _ (by decide +kernel)) ggL_law_X7_update
set_option maxRecDepth 100000 in
theorem ggL_law_X8_update : GoodIn wsL_law wsX8_update := goodIn_r _ [635, 187, 91, 74, 597, 598, 599, 5, 600, 75, 313, 314, 315, 316, 284, 601, 602, 603, 604, 78, 605, 606, 607, 608, 73, 188, 67, 69, 72, 609, 610, 611, 612, 88, 89, 90, 488, 489, 490, 491, 492, 66, 93, 493, 494, 495, 496, 92, 497, 498, 499, 500, 501, 76, 77, 79, 80, 81, 82, 83, 84, 85, 86, 87, 502, 503, 504, 505, 506, 507, 171, 103, 508, 509, 510, 511, 169, 170, 512, 513, 514, 515, 168, 516, 517, 518, 519, 520, 521, 522, 613, 614, 615, 616, 617, 618, 619, 341, 342, 343, 344, 620, 621, 622, 623, 758, 759, 760, 761, 762, 763, 764, 765, 766, 767, 768, 769, 770, 771, 772, 773, 774, 775, 776, 777, 778, 779, 780, 781, 782, 783, 784, 785, 786, 787, 788, 789, 790, 791, 792, 793, 794, 795, 796, 797, 798] rfl (by decide +kernel)
set_option maxRecDepth 100000 in
theorem gL_law_X8_update : GoodIn wsL_law (wsV RL 78 RX8 yX8_update wsX8_update) := goodIn_app (goodIn_of _ (by decide +kernel)) ggL_law_X8_update
set_option maxRecDepth 100000 in
theorem ggL_law_X7_revoke : GoodIn wsL_law wsX7_revoke := goodIn_r _ [639, 17, 28, 211, 212, 213, 16, 214, 40, 640, 641, 642, 27, 643, 52, 751, 752, 753, 754, 755, 756, 757, 799, 800, 801, 804, 805, 806] rfl (by decide +kernel)
set_option maxRecDepth 100000 in
theorem gL_law_X7_revoke : GoodIn wsL_law (wsV RL 79 RX7 yX7_revoke wsX7_revoke) := goodIn_app (goodIn_of _ (by decide +kernel)) ggL_law_X7_revoke
set_option maxRecDepth 100000 in
theorem ggL_law_X8_revoke : GoodIn wsL_law wsX8_revoke := goodIn_r _ [647, 187, 69, 223, 224, 225, 5, 226, 188, 758, 759, 760, 761, 762, 763, 764, 765, 766, 767, 768, 769, 770, 771, 772, 773, 774, 775, 776, 777, 778, 779, 780, 781, 782, 783, 784, 785, 786, 787, 788, 789, 790, 791, 792, 793, 794, 795, 796, 797, 798] rfl (by decide +kernel)
set_option maxRecDepth 100000 in
theorem gL_law_X8_revoke : GoodIn wsL_law (wsV RL 83 RX8 yX8_revoke wsX8_revoke) := goodIn_app (goodIn_of _ (by decide +kernel)) ggL_law_X8_revoke
set_option maxRecDepth 100000 in
theorem ggL_law_X7_find : GoodIn wsL_law wsX7_find := goodIn_r _ [651, 28, 375, 376, 2, 377, 356, 357, 358, 652, 653, 654, 27, 655, 53, 656, 657, 658, 659, 551, 552, 553, 554, 51, 194, 195, 660, 661, 662, 232, 663, 254, 253, 664, 665, 666, 667, 668, 669, 353, 354, 355, 670, 671, 672, 673, 751, 752, 753, 754, 755, 756, 757, 804, 805, 806, 827, 828, 829, 830, 811, 812, 813, 814, 815, 816, 817, 818, 819, 820, 821, 822, 823] rfl (by decide +kernel)
set_option maxRecDepth 100000 in
theorem gL_law_X7_find : GoodIn wsL_law (wsV RL 84 RX7 yX7_find wsX7_find) := goodIn_app (goodIn_of _ (by decide +kernel)) ggL_law_X7_find
set_option maxRecDepth 100000 in
theorem ggL_law_X8_find : GoodIn wsL_law wsX8_find := goodIn_r _ [677, 187, 91, 172, 678, 173, 174, 85, 83, 82, 84, 367, 368, 5, 369, 370, 679, 680, 681, 682, 683, 684, 685, 686, 86, 87, 687, 688, 689, 758, 759, 760, 761, 762, 763, 764, 765, 766, 767, 768, 769, 770, 771, 772, 773, 774, 775, 776, 777, 778, 779, 780, 781, 782, 783, 784, 785, 786, 787, 788, 789, 790, 791, 792, 793, 794, 795, 796, 797, 798] rfl (by decide +kernel)
set_option maxRecDepth 100000 in
theorem gL_law_X8_find : GoodIn wsL_law (wsV RL 88 RX8 yX8_find wsX8_find) := goodIn_app (goodIn_of _ (by decide +kernel)) ggL_law_X8_find
set_option maxRecDepth 100000 in
theorem ggL_law_X7_version : GoodIn wsL_law wsX7_version := goodIn_r _ [693, 28, 193, 194, 2, 195, 694, 552, 553, 27, 554, 51, 751, 752, 753, 754, 755, 756, 757, 811, 812, 813, 814, 815, 816, 817, 818, 819, 820, 821, 822, 823, 804, 805, 806] rfl (by decide +kernel)
