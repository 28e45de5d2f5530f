/-! THE WORDS: the names' words are among the tables' -/
theorem in_pos {big ws : List Cond} (ps : List Nat) (h : ws = ps.filterMap (fun i => big[i]?)) : ∀ w ∈ ws, w ∈ big := by
  intro w hw
  rw [h] at hw
  obtain ⟨i, -, hi⟩ := List.mem_filterMap.mp hw
  exact List.mem_of_getElem? hi
set_option maxRecDepth 100000 in
theorem wsL_in1 : ∀ w ∈ wsL_law_r1, w ∈ lw_tbl := in_pos [54, 55, 37, 678, 679, 42, 78, 1060, 56, 57, 58, 59, 60, 61, 62, 63, 38, 135, 79, 80, 39, 136, 93, 137] rfl
set_option maxRecDepth 100000 in
theorem wsL_in2 : ∀ w ∈ wsL_law_r2, w ∈ lw_tbl := in_pos [138, 95, 96, 40, 139, 115, 116, 41, 140, 92, 141, 65, 66, 67, 68, 69, 70, 81, 82, 83, 84, 85, 86, 97] rfl
set_option maxRecDepth 100000 in
theorem wsL_in3 : ∀ w ∈ wsL_law_r3, w ∈ lw_tbl := in_pos [98, 99, 100, 101, 103, 104, 105, 102, 118, 119, 120, 134, 121, 122, 123, 124, 680, 681, 682, 683, 759, 760, 245, 761] rfl
set_option maxRecDepth 100000 in
theorem wsL_in4 : ∀ w ∈ wsL_law_r4, w ∈ lw_tbl := in_pos [762, 763, 764, 765, 766, 767, 768, 769, 770, 771, 772, 773, 774, 775, 776, 777, 778, 779, 780, 781, 782, 783, 785, 786] rfl
set_option maxRecDepth 100000 in
theorem wsL_in5 : ∀ w ∈ wsL_law_r5, w ∈ lw_tbl := in_pos [787, 684, 685, 686, 687, 688, 689, 690, 691, 788, 692, 693, 694, 695, 696, 697, 698, 699, 700, 701, 702, 703, 704, 705] rfl
set_option maxRecDepth 100000 in
theorem wsL_in6 : ∀ w ∈ wsL_law_r6, w ∈ lw_tbl := in_pos [706, 707, 708, 709, 710, 711, 712, 713, 714, 715, 716, 717, 718, 719, 720, 721, 722, 723, 724, 725, 726, 727, 728, 729] rfl
set_option maxRecDepth 100000 in
theorem wsL_in7 : ∀ w ∈ wsL_law_r7, w ∈ lw_tbl := in_pos [730, 731, 732, 733, 734, 735, 736, 737, 738, 739, 740, 741, 742, 743, 744, 745, 746, 747, 748, 749, 750, 751, 752, 753] rfl
set_option maxRecDepth 100000 in
theorem wsL_in8 : ∀ w ∈ wsL_law_r8, w ∈ lw_tbl := in_pos [754, 755, 789, 790, 791, 792, 793, 795, 796, 157, 158, 159, 160, 161, 162, 163, 164, 884, 885, 886, 887, 756, 757, 165] rfl
set_option maxRecDepth 100000 in
theorem wsL_in9 : ∀ w ∈ wsL_law_r9, w ∈ lw_tbl := in_pos [166, 167, 168, 169, 170, 171, 172, 173, 174, 175, 888, 889, 890, 891, 892, 893, 894, 177, 178, 179, 180, 181, 182, 183] rfl
set_option maxRecDepth 100000 in
theorem wsL_in10 : ∀ w ∈ wsL_law_r10, w ∈ lw_tbl := in_pos [184, 185, 186, 187, 188, 895, 896, 897, 898, 899, 901, 16, 902, 189, 190, 191, 192, 197, 43, 193, 194, 195, 196, 198] rfl
set_option maxRecDepth 100000 in
theorem wsL_in11 : ∀ w ∈ wsL_law_r11, w ∈ lw_tbl := in_pos [199, 200, 201, 255, 256, 202, 257, 204, 205, 44, 260, 221, 222, 45, 263, 266, 267, 269, 271, 246, 248, 251, 254, 203] rfl
set_option maxRecDepth 100000 in
theorem wsL_in12 : ∀ w ∈ wsL_law_r12, w ∈ lw_tbl := in_pos [207, 208, 209, 210, 211, 212, 224, 225, 226, 227, 229, 231, 233, 301, 302, 303, 304, 903, 904, 905, 906, 907, 758, 305] rfl
set_option maxRecDepth 100000 in
theorem wsL_in13 : ∀ w ∈ wsL_law_r13, w ∈ lw_tbl := in_pos [306, 307, 308, 309, 311, 0, 312, 313, 315, 1, 316, 317, 318, 319, 320, 321, 322, 323, 324, 908, 909, 910, 911, 912] rfl
set_option maxRecDepth 100000 in
theorem wsL_in14 : ∀ w ∈ wsL_law_r14, w ∈ lw_tbl := in_pos [914, 17, 915, 916, 918, 18, 919, 325, 326, 327, 328, 329, 330, 331, 332, 333, 334, 335, 336, 341, 342, 46, 343, 337] rfl
set_option maxRecDepth 100000 in
theorem wsL_in15 : ∀ w ∈ wsL_law_r15, w ∈ lw_tbl := in_pos [339, 2, 340, 920, 921, 922, 923, 924, 926, 19, 927, 344, 345, 346, 347, 348, 349, 350, 351, 352, 353, 354, 355, 356] rfl
set_option maxRecDepth 100000 in
theorem wsL_in16 : ∀ w ∈ wsL_law_r16, w ∈ lw_tbl := in_pos [357, 358, 359, 360, 361, 928, 929, 930, 931, 932, 933, 934, 935, 362, 363, 364, 365, 366, 367, 368, 369, 370, 371, 372] rfl
set_option maxRecDepth 100000 in
theorem wsL_in17 : ∀ w ∈ wsL_law_r17, w ∈ lw_tbl := in_pos [936, 937, 938, 939, 373, 374, 375, 376, 377, 378, 379, 380, 381, 383, 3, 384, 385, 386, 387, 388, 389, 390, 391, 392] rfl
set_option maxRecDepth 100000 in
theorem wsL_in18 : ∀ w ∈ wsL_law_r18, w ∈ lw_tbl := in_pos [393, 394, 395, 396, 397, 398, 399, 400, 401, 402, 403, 404, 405, 406, 407, 408, 409, 410, 411, 412, 413, 414, 415, 416] rfl
set_option maxRecDepth 100000 in
theorem wsL_in19 : ∀ w ∈ wsL_law_r19, w ∈ lw_tbl := in_pos [417, 418, 419, 420, 421, 422, 423, 424, 425, 426, 428, 4, 429, 430, 431, 432, 433, 434, 435, 436, 437, 438, 439, 444] rfl
set_option maxRecDepth 100000 in
theorem wsL_in20 : ∀ w ∈ wsL_law_r20, w ∈ lw_tbl := in_pos [446, 448, 447, 47, 440, 442, 5, 443, 449, 451, 6, 452, 453, 454, 48, 455, 456, 458, 7, 459, 460, 462, 463, 464] rfl
set_option maxRecDepth 100000 in
theorem wsL_in21 : ∀ w ∈ wsL_law_r21, w ∈ lw_tbl := in_pos [465, 466, 467, 468, 469, 470, 940, 941, 942, 943, 944, 946, 20, 947, 784, 948, 950, 21, 951, 952, 953, 955, 22, 956] rfl
set_option maxRecDepth 100000 in
theorem wsL_in22 : ∀ w ∈ wsL_law_r22, w ∈ lw_tbl := in_pos [957, 959, 23, 960, 961, 962, 963, 965, 24, 966, 967, 969, 25, 970, 971, 972, 973, 974, 976, 26, 977, 978, 980, 27] rfl
set_option maxRecDepth 100000 in
theorem wsL_in23 : ∀ w ∈ wsL_law_r23, w ∈ lw_tbl := in_pos [981, 471, 472, 473, 474, 982, 983, 984, 985, 475, 476, 477, 478, 479, 480, 481, 482, 483, 484, 485, 486, 488, 489, 490] rfl
set_option maxRecDepth 100000 in
theorem wsL_in24 : ∀ w ∈ wsL_law_r24, w ∈ lw_tbl := in_pos [491, 492, 494, 8, 495, 496, 497, 498, 499, 500, 501, 502, 503, 504, 505, 506, 507, 508, 509, 510, 512, 9, 513, 514] rfl
set_option maxRecDepth 100000 in
theorem wsL_in25 : ∀ w ∈ wsL_law_r25, w ∈ lw_tbl := in_pos [516, 10, 517, 518, 519, 520, 521, 522, 524, 11, 525, 526, 527, 528, 529, 530, 986, 987, 988, 989, 990, 992, 28, 993] rfl
set_option maxRecDepth 100000 in
theorem wsL_in26 : ∀ w ∈ wsL_law_r26, w ∈ lw_tbl := in_pos [994, 996, 29, 997, 998, 1000, 30, 1001, 1002, 1004, 31, 1005, 1006, 1007, 1008, 1009, 1011, 32, 1012, 1013, 1015, 33, 1016, 531] rfl
set_option maxRecDepth 100000 in
theorem wsL_in27 : ∀ w ∈ wsL_law_r27, w ∈ lw_tbl := in_pos [532, 533, 534, 535, 536, 537, 538, 1017, 1018, 1019, 1020, 539, 540, 541, 542, 543, 544, 545, 546, 1021, 1022, 1023, 1024, 547] rfl
set_option maxRecDepth 100000 in
theorem wsL_in28 : ∀ w ∈ wsL_law_r28, w ∈ lw_tbl := in_pos [548, 549, 550, 551, 552, 553, 554, 555, 557, 12, 558, 559, 560, 561, 562, 563, 565, 13, 566, 568, 569, 570, 572, 14] rfl
set_option maxRecDepth 100000 in
theorem wsL_in29 : ∀ w ∈ wsL_law_r29, w ∈ lw_tbl := in_pos [573, 1025, 1026, 1027, 1028, 794, 1029, 1031, 34, 1032, 1033, 1035, 35, 1036, 1037, 1038, 1039, 574, 575, 576, 577, 578, 1040, 1041] rfl
set_option maxRecDepth 100000 in
theorem wsL_in30 : ∀ w ∈ wsL_law_r30, w ∈ lw_tbl := in_pos [1042, 1043, 579, 580, 581, 582, 1044, 1045, 1046, 1047, 583, 584, 585, 586, 587, 588, 589, 590, 591, 592, 593, 594, 1048, 1049] rfl
set_option maxRecDepth 100000 in
theorem wsL_in31 : ∀ w ∈ wsL_law_r31, w ∈ lw_tbl := in_pos [1050, 1051, 600, 601, 36, 602, 604, 605, 606, 607, 608, 609, 53, 1052, 1053, 1054, 1055, 880, 881, 882, 883, 595, 596, 597] rfl
set_option maxRecDepth 100000 in
theorem wsL_in32 : ∀ w ∈ wsL_law_r32, w ∈ lw_tbl := in_pos [598, 599, 1056, 1057, 1058, 1059] rfl
set_option maxRecDepth 100000 in
theorem wsT_X0 : ∀ w ∈ wsX00, w ∈ lw_tbl := in_pos [106, 108, 110, 112] rfl
set_option maxRecDepth 100000 in
theorem wsT_X1 : ∀ w ∈ wsX10, w ∈ lw_tbl := in_pos [236, 238, 240, 242] rfl
set_option maxRecDepth 100000 in
theorem wsT_X2 : ∀ w ∈ wsX20, w ∈ lw_tbl := in_pos [71, 73, 75] rfl
set_option maxRecDepth 100000 in
theorem wsT_X3 : ∀ w ∈ wsX30, w ∈ lw_tbl := in_pos [87, 89] rfl
set_option maxRecDepth 100000 in
theorem wsT_X4 : ∀ w ∈ wsX40, w ∈ lw_tbl := in_pos [274, 276, 278, 280, 282, 284, 286, 288, 290, 292, 294, 296, 298] rfl
set_option maxRecDepth 100000 in
theorem wsT_X5 : ∀ w ∈ wsX50, w ∈ lw_tbl := in_pos [125, 127, 129, 131] rfl
set_option maxRecDepth 100000 in
theorem wsT_X6 : ∀ w ∈ wsX60, w ∈ lw_tbl := in_pos [214, 216, 218] rfl
set_option maxRecDepth 100000 in
theorem wsT_X7 : ∀ w ∈ wsX70, w ∈ lw_tbl := in_pos [142, 144, 146, 148, 150, 152, 154] rfl
set_option maxRecDepth 100000 in
theorem wsT_X8 : ∀ w ∈ wsX80, w ∈ lw_tbl := in_pos [797, 799, 801, 803, 805, 807, 809, 811, 813, 815, 817, 819, 821, 823, 825, 827, 829, 831, 833, 835, 837, 839, 841, 843, 845, 847, 849, 851, 853, 855, 857, 859, 861, 863, 865, 867, 869, 871, 873, 875, 877] rfl
set_option maxRecDepth 100000 in
theorem wsT_Jx00060 : ∀ w ∈ wsJx000600, w ∈ lw_tbl := in_pos [621, 623, 625, 627, 629, 674] rfl
theorem wsL_law_all : ∀ w ∈ wsL_law, w ∈ lw_tbl := List.forall_mem_append.mpr ⟨List.forall_mem_append.mpr ⟨List.forall_mem_append.mpr ⟨List.forall_mem_append.mpr ⟨List.forall_mem_append.mpr ⟨List.forall_mem_append.mpr ⟨List.forall_mem_append.mpr ⟨List.forall_mem_append.mpr ⟨List.forall_mem_append.mpr ⟨List.forall_mem_append.mpr ⟨List.forall_mem_append.mpr ⟨List.forall_mem_append.mpr ⟨wsL_in1, List.forall_mem_append.mpr ⟨wsL_in2, List.forall_mem_append.mpr ⟨wsL_in3, List.forall_mem_append.mpr ⟨wsL_in4, List.forall_mem_append.mpr ⟨wsL_in5, List.forall_mem_append.mpr ⟨wsL_in6, List.forall_mem_append.mpr ⟨wsL_in7, List.forall_mem_append.mpr ⟨wsL_in8, List.forall_mem_append.mpr ⟨wsL_in9, List.forall_mem_append.mpr ⟨wsL_in10, List.forall_mem_append.mpr ⟨wsL_in11, List.forall_mem_append.mpr ⟨wsL_in12, List.forall_mem_append.mpr ⟨wsL_in13, List.forall_mem_append.mpr ⟨wsL_in14, List.forall_mem_append.mpr ⟨wsL_in15, List.forall_mem_append.mpr ⟨wsL_in16, List.forall_mem_append.mpr ⟨wsL_in17, List.forall_mem_append.mpr ⟨wsL_in18, List.forall_mem_append.mpr ⟨wsL_in19, List.forall_mem_append.mpr ⟨wsL_in20, List.forall_mem_append.mpr ⟨wsL_in21, List.forall_mem_append.mpr ⟨wsL_in22, List.forall_mem_append.mpr ⟨wsL_in23, List.forall_mem_append.mpr ⟨wsL_in24, List.forall_mem_append.mpr ⟨wsL_in25, List.forall_mem_append.mpr ⟨wsL_in26, List.forall_mem_append.mpr ⟨wsL_in27, List.forall_mem_append.mpr ⟨wsL_in28, List.forall_mem_append.mpr ⟨wsL_in29, List.forall_mem_append.mpr ⟨wsL_in30, List.forall_mem_append.mpr ⟨wsL_in31, wsL_in32⟩⟩⟩⟩⟩⟩⟩⟩⟩⟩⟩⟩⟩⟩⟩⟩⟩⟩⟩⟩⟩⟩⟩⟩⟩⟩⟩⟩⟩⟩⟩, wsT_X7⟩, wsT_X8⟩, wsT_X2⟩, wsT_X3⟩, wsT_X0⟩, wsT_X5⟩, wsT_X4⟩, wsT_X6⟩, wsT_X1⟩, wsT_Jx00060⟩, fun _ h => absurd h List.not_mem_nil⟩
set_option maxRecDepth 100000 in
theorem wsLD_in : ∀ w ∈ wsLD, w ∈ lw_tbl := in_pos [602, 604, 605, 606, 37, 603, 610, 607, 608, 609, 53, 141, 621, 623, 625, 627, 629, 674, 142, 144, 146, 148, 150, 152, 154, 607, 608, 53, 49, 632, 641, 643, 646, 648, 633, 634, 60, 61, 635, 640, 644, 667, 622, 668, 624, 669, 626, 636, 638, 628, 663, 664, 666, 628, 651, 652, 653, 654, 612, 654, 655, 656, 657, 614, 657, 658, 659, 660, 616, 660, 661, 662, 663, 618, 650, 609, 610, 619, 620, 621, 623, 625, 627, 631, 630, 629] rfl
theorem wsLD_good : ∀ w ∈ wsLD, (w.onTables && w.keepsFace) = true := fun w hw => List.all_eq_true.mp (show wsLD.all (fun w => w.onTables && w.keepsFace) = true by decide +kernel) w hw
