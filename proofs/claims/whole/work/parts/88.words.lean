/-! THE WORDS: the names' words are among the tables' -/
theorem in_pos {big ws : List Cond} (ps : List Nat) (h : ws = ps.filterMap (fun i => big[i]?)) : ∀ w ∈ ws, w ∈ big := by
  intro w hw
  rw [h] at hw
  obtain ⟨i, -, hi⟩ := List.mem_filterMap.mp hw
  exact List.mem_of_getElem? hi
set_option maxRecDepth 100000 in
theorem wsL_in1 : ∀ w ∈ wsL_law_r1, w ∈ lw_tbl := in_pos [54, 55, 37, 678, 679, 42, 78, 1060, 56, 57, 58, 59, 60, 61, 62, 63, 38, 132, 79, 80, 39, 133, 93, 134] rfl
set_option maxRecDepth 100000 in
theorem wsL_in2 : ∀ w ∈ wsL_law_r2, w ∈ lw_tbl := in_pos [135, 95, 96, 40, 136, 112, 113, 41, 137, 92, 138, 65, 66, 67, 68, 69, 70, 81, 82, 83, 84, 85, 86, 98] rfl
set_option maxRecDepth 100000 in
theorem wsL_in3 : ∀ w ∈ wsL_law_r3, w ∈ lw_tbl := in_pos [99, 100, 101, 102, 103, 104, 115, 116, 117, 131, 118, 119, 120, 121, 680, 681, 682, 683, 759, 760, 242, 761, 762, 763] rfl
set_option maxRecDepth 100000 in
theorem wsL_in4 : ∀ w ∈ wsL_law_r4, w ∈ lw_tbl := in_pos [764, 765, 766, 767, 768, 769, 770, 771, 772, 773, 774, 775, 776, 777, 778, 779, 780, 781, 782, 783, 785, 786, 787, 684] rfl
set_option maxRecDepth 100000 in
theorem wsL_in5 : ∀ w ∈ wsL_law_r5, w ∈ lw_tbl := in_pos [685, 686, 687, 688, 689, 690, 691, 788, 692, 693, 694, 695, 696, 697, 698, 699, 700, 701, 702, 703, 704, 705, 706, 707] rfl
set_option maxRecDepth 100000 in
theorem wsL_in6 : ∀ w ∈ wsL_law_r6, w ∈ lw_tbl := in_pos [708, 709, 710, 711, 712, 713, 714, 715, 716, 717, 718, 719, 720, 721, 722, 723, 724, 725, 726, 727, 728, 729, 730, 731] rfl
set_option maxRecDepth 100000 in
theorem wsL_in7 : ∀ w ∈ wsL_law_r7, w ∈ lw_tbl := in_pos [732, 733, 734, 735, 736, 737, 738, 739, 740, 741, 742, 743, 744, 745, 746, 747, 748, 749, 750, 751, 752, 753, 754, 755] rfl
set_option maxRecDepth 100000 in
theorem wsL_in8 : ∀ w ∈ wsL_law_r8, w ∈ lw_tbl := in_pos [789, 790, 791, 792, 793, 795, 796, 154, 155, 156, 157, 158, 159, 160, 161, 884, 885, 886, 887, 756, 757, 162, 163, 164] rfl
set_option maxRecDepth 100000 in
theorem wsL_in9 : ∀ w ∈ wsL_law_r9, w ∈ lw_tbl := in_pos [165, 166, 167, 168, 169, 170, 171, 172, 888, 889, 890, 891, 892, 893, 894, 174, 175, 176, 177, 178, 179, 180, 181, 182] rfl
set_option maxRecDepth 100000 in
theorem wsL_in10 : ∀ w ∈ wsL_law_r10, w ∈ lw_tbl := in_pos [183, 184, 185, 895, 896, 897, 898, 899, 901, 16, 902, 186, 187, 188, 189, 194, 43, 190, 191, 192, 193, 195, 196, 197] rfl
set_option maxRecDepth 100000 in
theorem wsL_in11 : ∀ w ∈ wsL_law_r11, w ∈ lw_tbl := in_pos [198, 252, 253, 199, 254, 201, 202, 44, 257, 218, 219, 45, 260, 263, 264, 266, 268, 243, 245, 248, 251, 200, 204, 205] rfl
set_option maxRecDepth 100000 in
theorem wsL_in12 : ∀ w ∈ wsL_law_r12, w ∈ lw_tbl := in_pos [206, 207, 208, 209, 221, 222, 223, 224, 226, 228, 230, 298, 299, 300, 301, 903, 904, 905, 906, 907, 758, 302, 303, 304] rfl
set_option maxRecDepth 100000 in
theorem wsL_in13 : ∀ w ∈ wsL_law_r13, w ∈ lw_tbl := in_pos [305, 306, 308, 0, 309, 310, 312, 1, 313, 314, 315, 316, 317, 318, 319, 320, 321, 908, 909, 910, 911, 912, 914, 17] rfl
set_option maxRecDepth 100000 in
theorem wsL_in14 : ∀ w ∈ wsL_law_r14, w ∈ lw_tbl := in_pos [915, 916, 918, 18, 919, 322, 323, 324, 325, 326, 327, 328, 329, 330, 331, 332, 333, 338, 339, 46, 340, 334, 336, 2] rfl
set_option maxRecDepth 100000 in
theorem wsL_in15 : ∀ w ∈ wsL_law_r15, w ∈ lw_tbl := in_pos [337, 920, 921, 922, 923, 924, 926, 19, 927, 341, 342, 343, 344, 345, 346, 347, 348, 349, 350, 351, 352, 353, 354, 355] rfl
set_option maxRecDepth 100000 in
theorem wsL_in16 : ∀ w ∈ wsL_law_r16, w ∈ lw_tbl := in_pos [356, 357, 358, 928, 929, 930, 931, 932, 933, 934, 935, 359, 360, 361, 362, 363, 364, 365, 366, 367, 368, 369, 936, 937] rfl
set_option maxRecDepth 100000 in
theorem wsL_in17 : ∀ w ∈ wsL_law_r17, w ∈ lw_tbl := in_pos [938, 939, 370, 371, 372, 373, 374, 375, 376, 377, 378, 380, 3, 381, 382, 383, 384, 385, 386, 387, 388, 389, 390, 391] rfl
set_option maxRecDepth 100000 in
theorem wsL_in18 : ∀ w ∈ wsL_law_r18, w ∈ lw_tbl := in_pos [392, 393, 394, 395, 396, 397, 398, 399, 400, 401, 402, 403, 404, 405, 406, 407, 408, 409, 410, 411, 412, 413, 414, 415] rfl
set_option maxRecDepth 100000 in
theorem wsL_in19 : ∀ w ∈ wsL_law_r19, w ∈ lw_tbl := in_pos [416, 417, 418, 419, 420, 421, 422, 423, 425, 4, 426, 427, 428, 429, 430, 431, 432, 433, 434, 435, 436, 441, 443, 445] rfl
set_option maxRecDepth 100000 in
theorem wsL_in20 : ∀ w ∈ wsL_law_r20, w ∈ lw_tbl := in_pos [444, 47, 437, 439, 5, 440, 446, 448, 6, 449, 450, 451, 48, 452, 453, 455, 7, 456, 457, 459, 460, 461, 462, 463] rfl
set_option maxRecDepth 100000 in
theorem wsL_in21 : ∀ w ∈ wsL_law_r21, w ∈ lw_tbl := in_pos [464, 465, 466, 467, 940, 941, 942, 943, 944, 946, 20, 947, 784, 948, 950, 21, 951, 952, 953, 955, 22, 956, 957, 959] rfl
set_option maxRecDepth 100000 in
theorem wsL_in22 : ∀ w ∈ wsL_law_r22, w ∈ lw_tbl := in_pos [23, 960, 961, 962, 963, 965, 24, 966, 967, 969, 25, 970, 971, 972, 973, 974, 976, 26, 977, 978, 980, 27, 981, 468] rfl
set_option maxRecDepth 100000 in
theorem wsL_in23 : ∀ w ∈ wsL_law_r23, w ∈ lw_tbl := in_pos [469, 470, 471, 982, 983, 984, 985, 472, 473, 474, 475, 476, 478, 8, 479, 480, 481, 482, 483, 484, 485, 486, 487, 488] rfl
set_option maxRecDepth 100000 in
theorem wsL_in24 : ∀ w ∈ wsL_law_r24, w ∈ lw_tbl := in_pos [489, 490, 491, 493, 494, 495, 496, 497, 498, 499, 500, 501, 502, 503, 504, 505, 506, 507, 508, 509, 510, 512, 9, 513] rfl
set_option maxRecDepth 100000 in
theorem wsL_in25 : ∀ w ∈ wsL_law_r25, w ∈ lw_tbl := in_pos [514, 516, 10, 517, 518, 519, 520, 521, 522, 524, 11, 525, 526, 527, 528, 529, 530, 986, 987, 988, 989, 990, 992, 28] rfl
set_option maxRecDepth 100000 in
theorem wsL_in26 : ∀ w ∈ wsL_law_r26, w ∈ lw_tbl := in_pos [993, 994, 996, 29, 997, 998, 1000, 30, 1001, 1002, 1004, 31, 1005, 1006, 1007, 1008, 1009, 1011, 32, 1012, 1013, 1015, 33, 1016] rfl
set_option maxRecDepth 100000 in
theorem wsL_in27 : ∀ w ∈ wsL_law_r27, w ∈ lw_tbl := in_pos [531, 532, 533, 534, 535, 536, 537, 538, 1017, 1018, 1019, 1020, 539, 540, 541, 542, 543, 544, 545, 546, 1021, 1022, 1023, 1024] rfl
set_option maxRecDepth 100000 in
theorem wsL_in28 : ∀ w ∈ wsL_law_r28, w ∈ lw_tbl := in_pos [547, 548, 549, 550, 551, 552, 553, 554, 555, 557, 12, 558, 559, 560, 561, 562, 563, 565, 13, 566, 568, 569, 570, 572] rfl
set_option maxRecDepth 100000 in
theorem wsL_in29 : ∀ w ∈ wsL_law_r29, w ∈ lw_tbl := in_pos [14, 573, 1025, 1026, 1027, 1028, 794, 1029, 1031, 34, 1032, 1033, 1035, 35, 1036, 1037, 1038, 1039, 574, 575, 576, 577, 578, 1040] rfl
set_option maxRecDepth 100000 in
theorem wsL_in30 : ∀ w ∈ wsL_law_r30, w ∈ lw_tbl := in_pos [1041, 1042, 1043, 579, 580, 581, 582, 1044, 1045, 1046, 1047, 583, 584, 585, 586, 587, 588, 589, 590, 591, 592, 593, 594, 1048] rfl
set_option maxRecDepth 100000 in
theorem wsL_in31 : ∀ w ∈ wsL_law_r31, w ∈ lw_tbl := in_pos [1049, 1050, 1051, 600, 601, 36, 602, 604, 605, 606, 607, 608, 609, 53, 1052, 1053, 1054, 1055, 880, 881, 882, 883, 595, 596] rfl
set_option maxRecDepth 100000 in
theorem wsL_in32 : ∀ w ∈ wsL_law_r32, w ∈ lw_tbl := in_pos [597, 598, 599, 1056, 1057, 1058, 1059] rfl
set_option maxRecDepth 100000 in
theorem wsT_X0 : ∀ w ∈ wsX00, w ∈ lw_tbl := in_pos [105, 107, 109] rfl
set_option maxRecDepth 100000 in
theorem wsT_X1 : ∀ w ∈ wsX10, w ∈ lw_tbl := in_pos [233, 235, 237, 239] rfl
set_option maxRecDepth 100000 in
theorem wsT_X2 : ∀ w ∈ wsX20, w ∈ lw_tbl := in_pos [71, 73, 75] rfl
set_option maxRecDepth 100000 in
theorem wsT_X3 : ∀ w ∈ wsX30, w ∈ lw_tbl := in_pos [87, 89] rfl
set_option maxRecDepth 100000 in
theorem wsT_X4 : ∀ w ∈ wsX40, w ∈ lw_tbl := in_pos [271, 273, 275, 277, 279, 281, 283, 285, 287, 289, 291, 293, 295] rfl
set_option maxRecDepth 100000 in
theorem wsT_X5 : ∀ w ∈ wsX50, w ∈ lw_tbl := in_pos [122, 124, 126, 128] rfl
set_option maxRecDepth 100000 in
theorem wsT_X6 : ∀ w ∈ wsX60, w ∈ lw_tbl := in_pos [211, 213, 215] rfl
set_option maxRecDepth 100000 in
theorem wsT_X7 : ∀ w ∈ wsX70, w ∈ lw_tbl := in_pos [139, 141, 143, 145, 147, 149, 151] rfl
set_option maxRecDepth 100000 in
theorem wsT_X8 : ∀ w ∈ wsX80, w ∈ lw_tbl := in_pos [797, 799, 801, 803, 805, 807, 809, 811, 813, 815, 817, 819, 821, 823, 825, 827, 829, 831, 833, 835, 837, 839, 841, 843, 845, 847, 849, 851, 853, 855, 857, 859, 861, 863, 865, 867, 869, 871, 873, 875, 877] rfl
set_option maxRecDepth 100000 in
theorem wsT_Jx00060 : ∀ w ∈ wsJx000600, w ∈ lw_tbl := in_pos [621, 623, 625, 627, 629, 674] rfl
theorem wsL_law_all : ∀ w ∈ wsL_law, w ∈ lw_tbl := List.forall_mem_append.mpr ⟨List.forall_mem_append.mpr ⟨List.forall_mem_append.mpr ⟨List.forall_mem_append.mpr ⟨List.forall_mem_append.mpr ⟨List.forall_mem_append.mpr ⟨List.forall_mem_append.mpr ⟨List.forall_mem_append.mpr ⟨List.forall_mem_append.mpr ⟨List.forall_mem_append.mpr ⟨List.forall_mem_append.mpr ⟨List.forall_mem_append.mpr ⟨wsL_in1, List.forall_mem_append.mpr ⟨wsL_in2, List.forall_mem_append.mpr ⟨wsL_in3, List.forall_mem_append.mpr ⟨wsL_in4, List.forall_mem_append.mpr ⟨wsL_in5, List.forall_mem_append.mpr ⟨wsL_in6, List.forall_mem_append.mpr ⟨wsL_in7, List.forall_mem_append.mpr ⟨wsL_in8, List.forall_mem_append.mpr ⟨wsL_in9, List.forall_mem_append.mpr ⟨wsL_in10, List.forall_mem_append.mpr ⟨wsL_in11, List.forall_mem_append.mpr ⟨wsL_in12, List.forall_mem_append.mpr ⟨wsL_in13, List.forall_mem_append.mpr ⟨wsL_in14, List.forall_mem_append.mpr ⟨wsL_in15, List.forall_mem_append.mpr ⟨wsL_in16, List.forall_mem_append.mpr ⟨wsL_in17, List.forall_mem_append.mpr ⟨wsL_in18, List.forall_mem_append.mpr ⟨wsL_in19, List.forall_mem_append.mpr ⟨wsL_in20, List.forall_mem_append.mpr ⟨wsL_in21, List.forall_mem_append.mpr ⟨wsL_in22, List.forall_mem_append.mpr ⟨wsL_in23, List.forall_mem_append.mpr ⟨wsL_in24, List.forall_mem_append.mpr ⟨wsL_in25, List.forall_mem_append.mpr ⟨wsL_in26, List.forall_mem_append.mpr ⟨wsL_in27, List.forall_mem_append.mpr ⟨wsL_in28, List.forall_mem_append.mpr ⟨wsL_in29, List.forall_mem_append.mpr ⟨wsL_in30, List.forall_mem_append.mpr ⟨wsL_in31, wsL_in32⟩⟩⟩⟩⟩⟩⟩⟩⟩⟩⟩⟩⟩⟩⟩⟩⟩⟩⟩⟩⟩⟩⟩⟩⟩⟩⟩⟩⟩⟩⟩, wsT_X7⟩, wsT_X8⟩, wsT_X2⟩, wsT_X3⟩, wsT_X0⟩, wsT_X5⟩, wsT_X4⟩, wsT_X6⟩, wsT_X1⟩, wsT_Jx00060⟩, fun _ h => absurd h List.not_mem_nil⟩
set_option maxRecDepth 100000 in
theorem wsLD_in : ∀ w ∈ wsLD, w ∈ lw_tbl := in_pos [602, 604, 605, 606, 37, 603, 610, 607, 608, 609, 53, 138, 621, 623, 625, 627, 629, 674, 139, 141, 143, 145, 147, 149, 151, 607, 608, 53, 49, 632, 641, 643, 646, 648, 633, 634, 60, 61, 635, 640, 644, 667, 622, 668, 624, 669, 626, 636, 638, 628, 663, 664, 666, 628, 651, 652, 653, 654, 612, 654, 655, 656, 657, 614, 657, 658, 659, 660, 616, 660, 661, 662, 663, 618, 650, 609, 610, 619, 620, 621, 623, 625, 627, 631, 630, 629] rfl
theorem wsLD_good : ∀ w ∈ wsLD, (w.onTables && w.keepsFace) = true := fun w hw => List.all_eq_true.mp (show wsLD.all (fun w => w.onTables && w.keepsFace) = true by decide +kernel) w hw

