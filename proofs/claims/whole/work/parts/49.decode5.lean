theorem dX8_fits_85 : decode cX8_fits 85 = .ok (.iinc 5 1, 3) := by decide +kernel
theorem dX8_fits_88 : decode cX8_fits 88 = .ok (.goto (-61), 3) := by decide +kernel
theorem dX8_fits_91 : decode cX8_fits 91 = .ok (.iload 4, 2) := by decide +kernel
theorem dX8_fits_93 : decode cX8_fits 93 = .ok (.ireturn, 1) := by decide +kernel
theorem dX8_hasPath_0 : decode cX8_hasPath 0 = .ok (.iconst 0, 1) := by decide +kernel
theorem dX8_hasPath_1 : decode cX8_hasPath 1 = .ok (.istore_n 3, 1) := by decide +kernel
theorem dX8_hasPath_2 : decode cX8_hasPath 2 = .ok (.bipush 6, 2) := by decide +kernel
theorem dX8_hasPath_4 : decode cX8_hasPath 4 = .ok (.iload_n 1, 1) := by decide +kernel
theorem dX8_hasPath_5 : decode cX8_hasPath 5 = .ok (.imul, 1) := by decide +kernel
theorem dX8_hasPath_6 : decode cX8_hasPath 6 = .ok (.istore 4, 2) := by decide +kernel
theorem dX8_hasPath_8 : decode cX8_hasPath 8 = .ok (.iload 4, 2) := by decide +kernel
theorem dX8_hasPath_10 : decode cX8_hasPath 10 = .ok (.bipush 6, 2) := by decide +kernel
theorem dX8_hasPath_12 : decode cX8_hasPath 12 = .ok (.iload_n 1, 1) := by decide +kernel
theorem dX8_hasPath_13 : decode cX8_hasPath 13 = .ok (.imul, 1) := by decide +kernel
theorem dX8_hasPath_14 : decode cX8_hasPath 14 = .ok (.aload_n 0, 1) := by decide +kernel
theorem dX8_hasPath_15 : decode cX8_hasPath 15 = .ok (.getfield 69, 3) := by decide +kernel
theorem dX8_hasPath_18 : decode cX8_hasPath 18 = .ok (.iload_n 1, 1) := by decide +kernel
theorem dX8_hasPath_19 : decode cX8_hasPath 19 = .ok (.iaload, 1) := by decide +kernel
theorem dX8_hasPath_20 : decode cX8_hasPath 20 = .ok (.iadd, 1) := by decide +kernel
theorem dX8_hasPath_21 : decode cX8_hasPath 21 = .ok (.if_icmp .ge 30, 3) := by decide +kernel
theorem dX8_hasPath_24 : decode cX8_hasPath 24 = .ok (.iload_n 3, 1) := by decide +kernel
theorem dX8_hasPath_25 : decode cX8_hasPath 25 = .ok (.ifCond .ne 14, 3) := by decide +kernel
theorem dX8_hasPath_28 : decode cX8_hasPath 28 = .ok (.aload_n 0, 1) := by decide +kernel
theorem dX8_hasPath_29 : decode cX8_hasPath 29 = .ok (.getfield 72, 3) := by decide +kernel
theorem dX8_hasPath_32 : decode cX8_hasPath 32 = .ok (.iload 4, 2) := by decide +kernel
theorem dX8_hasPath_34 : decode cX8_hasPath 34 = .ok (.iaload, 1) := by decide +kernel
theorem dX8_hasPath_35 : decode cX8_hasPath 35 = .ok (.iload_n 2, 1) := by decide +kernel
theorem dX8_hasPath_36 : decode cX8_hasPath 36 = .ok (.if_icmp .ne 7, 3) := by decide +kernel
theorem dX8_hasPath_39 : decode cX8_hasPath 39 = .ok (.iconst 1, 1) := by decide +kernel
theorem dX8_hasPath_40 : decode cX8_hasPath 40 = .ok (.goto 4, 3) := by decide +kernel
theorem dX8_hasPath_43 : decode cX8_hasPath 43 = .ok (.iconst 0, 1) := by decide +kernel
theorem dX8_hasPath_44 : decode cX8_hasPath 44 = .ok (.istore_n 3, 1) := by decide +kernel
theorem dX8_hasPath_45 : decode cX8_hasPath 45 = .ok (.iinc 4 1, 3) := by decide +kernel
theorem dX8_hasPath_48 : decode cX8_hasPath 48 = .ok (.goto (-40), 3) := by decide +kernel
theorem dX8_hasPath_51 : decode cX8_hasPath 51 = .ok (.iload_n 3, 1) := by decide +kernel
theorem dX8_hasPath_52 : decode cX8_hasPath 52 = .ok (.ireturn, 1) := by decide +kernel
theorem dX8_enter_0 : decode cX8_enter 0 = .ok (.aload_n 0, 1) := by decide +kernel
theorem dX8_enter_1 : decode cX8_enter 1 = .ok (.getfield 183, 3) := by decide +kernel
theorem dX8_enter_4 : decode cX8_enter 4 = .ok (.iload_n 1, 1) := by decide +kernel
theorem dX8_enter_5 : decode cX8_enter 5 = .ok (.iconst 1, 1) := by decide +kernel
theorem dX8_enter_6 : decode cX8_enter 6 = .ok (.bastore, 1) := by decide +kernel
theorem dX8_enter_7 : decode cX8_enter 7 = .ok (.aload_n 0, 1) := by decide +kernel
theorem dX8_enter_8 : decode cX8_enter 8 = .ok (.getfield 186, 3) := by decide +kernel
theorem dX8_enter_11 : decode cX8_enter 11 = .ok (.aload_n 0, 1) := by decide +kernel
theorem dX8_enter_12 : decode cX8_enter 12 = .ok (.getfield 291, 3) := by decide +kernel
theorem dX8_enter_15 : decode cX8_enter 15 = .ok (.iload_n 1, 1) := by decide +kernel
theorem dX8_enter_16 : decode cX8_enter 16 = .ok (.iastore, 1) := by decide +kernel
theorem dX8_enter_17 : decode cX8_enter 17 = .ok (.aload_n 0, 1) := by decide +kernel
theorem dX8_enter_18 : decode cX8_enter 18 = .ok (.getfield 189, 3) := by decide +kernel
theorem dX8_enter_21 : decode cX8_enter 21 = .ok (.aload_n 0, 1) := by decide +kernel
theorem dX8_enter_22 : decode cX8_enter 22 = .ok (.getfield 291, 3) := by decide +kernel
theorem dX8_enter_25 : decode cX8_enter 25 = .ok (.iconst 0, 1) := by decide +kernel
theorem dX8_enter_26 : decode cX8_enter 26 = .ok (.iastore, 1) := by decide +kernel
theorem dX8_enter_27 : decode cX8_enter 27 = .ok (.aload_n 0, 1) := by decide +kernel
theorem dX8_enter_28 : decode cX8_enter 28 = .ok (.dup, 1) := by decide +kernel
theorem dX8_enter_29 : decode cX8_enter 29 = .ok (.getfield 291, 3) := by decide +kernel
theorem dX8_enter_32 : decode cX8_enter 32 = .ok (.iconst 1, 1) := by decide +kernel
theorem dX8_enter_33 : decode cX8_enter 33 = .ok (.iadd, 1) := by decide +kernel
theorem dX8_enter_34 : decode cX8_enter 34 = .ok (.putfield 291, 3) := by decide +kernel
theorem dX8_enter_37 : decode cX8_enter 37 = .ok (.return_, 1) := by decide +kernel
set_option maxRecDepth 20000 in
theorem ggX8_find_X8_partsOf : GoodIn wsX8_find wsX8_partsOf := goodIn_r _ [14, 15] (by decide +kernel) (by decide +kernel)
set_option maxRecDepth 20000 in
theorem gX8_find_X8_partsOf : GoodIn wsX8_find (va_wsS RX8 258 yX8_partsOf wsX8_partsOf) := goodIn_app (goodIn_of _ (by decide +kernel)) ggX8_find_X8_partsOf
set_option maxRecDepth 20000 in
theorem ggX8_find_X8_enter : GoodIn wsX8_find wsX8_enter := goodIn_r _ [19, 3, 5, 4, 6, 29, 30, 31, 32, 33, 34, 35, 36, 37, 38, 39, 40, 41, 42, 43, 44, 45, 46, 47, 48, 49, 50, 51, 52, 53, 54, 55, 56, 57, 58, 59, 60, 61, 62, 63, 64, 65, 66, 67, 68, 69] (by decide +kernel) (by decide +kernel)
set_option maxRecDepth 20000 in
theorem gX8_find_X8_enter : GoodIn wsX8_find (wsV RX8 294 RX8 yX8_enter wsX8_enter) := goodIn_app (goodIn_of _ (by decide +kernel)) ggX8_find_X8_enter
set_option maxRecDepth 20000 in
theorem ggX8_find_X8_hasPath : GoodIn wsX8_find wsX8_hasPath := goodIn_r _ [23, 24, 25, 29, 30, 31, 32, 33, 34, 35, 36, 37, 38, 39, 40, 41, 42, 43, 44, 45, 46, 47, 48, 49, 50, 51, 52, 53, 54, 55, 56, 57, 58, 59, 60, 61, 62, 63, 64, 65, 66, 67, 68, 69] (by decide +kernel) (by decide +kernel)
set_option maxRecDepth 20000 in
theorem gX8_find_X8_hasPath : GoodIn wsX8_find (wsV RX8 297 RX8 yX8_hasPath wsX8_hasPath) := goodIn_app (goodIn_of _ (by decide +kernel)) ggX8_find_X8_hasPath
set_option maxRecDepth 20000 in
theorem ggX8_find_X8_fits : GoodIn wsX8_find wsX8_fits := goodIn_r _ [28, 11, 12, 13, 14, 15] (by decide +kernel) (by decide +kernel)
set_option maxRecDepth 20000 in
theorem gX8_find_X8_fits : GoodIn wsX8_find (va_wsS RX8 300 yX8_fits wsX8_fits) := goodIn_app (goodIn_of _ (by decide +kernel)) ggX8_find_X8_fits
theorem dX8_find_0 : decode cX8_find 0 = .ok (.aload_n 0, 1) := by decide +kernel
theorem dX8_find_1 : decode cX8_find 1 = .ok (.iconst 0, 1) := by decide +kernel
theorem dX8_find_2 : decode cX8_find 2 = .ok (.putfield 192, 3) := by decide +kernel
theorem dX8_find_5 : decode cX8_find 5 = .ok (.iload_n 1, 1) := by decide +kernel
theorem dX8_find_6 : decode cX8_find 6 = .ok (.bipush 14, 2) := by decide +kernel
theorem dX8_find_8 : decode cX8_find 8 = .ok (.invokestatic 258, 3) := by decide +kernel
theorem dX8_find_11 : decode cX8_find 11 = .ok (.ifCond .eq 13, 3) := by decide +kernel
theorem dX8_find_14 : decode cX8_find 14 = .ok (.aload_n 0, 1) := by decide +kernel
theorem dX8_find_15 : decode cX8_find 15 = .ok (.getfield 84, 3) := by decide +kernel
theorem dX8_find_18 : decode cX8_find 18 = .ok (.iconst 3, 1) := by decide +kernel
theorem dX8_find_19 : decode cX8_find 19 = .ok (.iaload, 1) := by decide +kernel
theorem dX8_find_20 : decode cX8_find 20 = .ok (.iconst (-1), 1) := by decide +kernel
theorem dX8_find_21 : decode cX8_find 21 = .ok (.if_icmp .ne 5, 3) := by decide +kernel
theorem dX8_find_24 : decode cX8_find 24 = .ok (.iconst (-1), 1) := by decide +kernel
theorem dX8_find_25 : decode cX8_find 25 = .ok (.ireturn, 1) := by decide +kernel
theorem dX8_find_26 : decode cX8_find 26 = .ok (.iconst 0, 1) := by decide +kernel
theorem dX8_find_27 : decode cX8_find 27 = .ok (.istore_n 2, 1) := by decide +kernel
theorem dX8_find_28 : decode cX8_find 28 = .ok (.iload_n 2, 1) := by decide +kernel
theorem dX8_find_29 : decode cX8_find 29 = .ok (.bipush 10, 2) := by decide +kernel
theorem dX8_find_31 : decode cX8_find 31 = .ok (.if_icmp .ge 16, 3) := by decide +kernel
theorem dX8_find_34 : decode cX8_find 34 = .ok (.aload_n 0, 1) := by decide +kernel
theorem dX8_find_35 : decode cX8_find 35 = .ok (.getfield 183, 3) := by decide +kernel
theorem dX8_find_38 : decode cX8_find 38 = .ok (.iload_n 2, 1) := by decide +kernel
theorem dX8_find_39 : decode cX8_find 39 = .ok (.iconst 0, 1) := by decide +kernel
theorem dX8_find_40 : decode cX8_find 40 = .ok (.bastore, 1) := by decide +kernel
theorem dX8_find_41 : decode cX8_find 41 = .ok (.iinc 2 1, 3) := by decide +kernel
theorem dX8_find_44 : decode cX8_find 44 = .ok (.goto (-16), 3) := by decide +kernel
theorem dX8_find_47 : decode cX8_find 47 = .ok (.aload_n 0, 1) := by decide +kernel
theorem dX8_find_48 : decode cX8_find 48 = .ok (.iconst 0, 1) := by decide +kernel
theorem dX8_find_49 : decode cX8_find 49 = .ok (.putfield 291, 3) := by decide +kernel
theorem dX8_find_52 : decode cX8_find 52 = .ok (.aload_n 0, 1) := by decide +kernel
theorem dX8_find_53 : decode cX8_find 53 = .ok (.iconst 3, 1) := by decide +kernel
theorem dX8_find_54 : decode cX8_find 54 = .ok (.invokevirtual 294, 3) := by decide +kernel
theorem dX8_find_57 : decode cX8_find 57 = .ok (.aload_n 0, 1) := by decide +kernel
theorem dX8_find_58 : decode cX8_find 58 = .ok (.getfield 291, 3) := by decide +kernel
theorem dX8_find_61 : decode cX8_find 61 = .ok (.ifCond .le 214, 3) := by decide +kernel
theorem dX8_find_64 : decode cX8_find 64 = .ok (.aload_n 0, 1) := by decide +kernel
theorem dX8_find_65 : decode cX8_find 65 = .ok (.getfield 291, 3) := by decide +kernel
theorem dX8_find_68 : decode cX8_find 68 = .ok (.iconst 1, 1) := by decide +kernel
theorem dX8_find_69 : decode cX8_find 69 = .ok (.isub, 1) := by decide +kernel
theorem dX8_find_70 : decode cX8_find 70 = .ok (.istore_n 2, 1) := by decide +kernel
theorem dX8_find_71 : decode cX8_find 71 = .ok (.aload_n 0, 1) := by decide +kernel
theorem dX8_find_72 : decode cX8_find 72 = .ok (.getfield 84, 3) := by decide +kernel
theorem dX8_find_75 : decode cX8_find 75 = .ok (.aload_n 0, 1) := by decide +kernel
theorem dX8_find_76 : decode cX8_find 76 = .ok (.getfield 186, 3) := by decide +kernel
theorem dX8_find_79 : decode cX8_find 79 = .ok (.iload_n 2, 1) := by decide +kernel
theorem dX8_find_80 : decode cX8_find 80 = .ok (.iaload, 1) := by decide +kernel
theorem dX8_find_81 : decode cX8_find 81 = .ok (.iaload, 1) := by decide +kernel
theorem dX8_find_82 : decode cX8_find 82 = .ok (.istore_n 3, 1) := by decide +kernel
theorem dX8_find_83 : decode cX8_find 83 = .ok (.aload_n 0, 1) := by decide +kernel
theorem dX8_find_84 : decode cX8_find 84 = .ok (.getfield 189, 3) := by decide +kernel
theorem dX8_find_87 : decode cX8_find 87 = .ok (.iload_n 2, 1) := by decide +kernel
theorem dX8_find_88 : decode cX8_find 88 = .ok (.iaload, 1) := by decide +kernel
theorem dX8_find_89 : decode cX8_find 89 = .ok (.ifCond .ne 19, 3) := by decide +kernel
theorem dX8_find_92 : decode cX8_find 92 = .ok (.aload_n 0, 1) := by decide +kernel
theorem dX8_find_93 : decode cX8_find 93 = .ok (.iload_n 3, 1) := by decide +kernel
theorem dX8_find_94 : decode cX8_find 94 = .ok (.iload_n 1, 1) := by decide +kernel
theorem dX8_find_95 : decode cX8_find 95 = .ok (.invokevirtual 297, 3) := by decide +kernel
theorem dX8_find_98 : decode cX8_find 98 = .ok (.ifCond .eq 10, 3) := by decide +kernel
theorem dX8_find_101 : decode cX8_find 101 = .ok (.aload_n 0, 1) := by decide +kernel
theorem dX8_find_102 : decode cX8_find 102 = .ok (.getfield 186, 3) := by decide +kernel
theorem dX8_find_105 : decode cX8_find 105 = .ok (.iload_n 2, 1) := by decide +kernel
theorem dX8_find_106 : decode cX8_find 106 = .ok (.iaload, 1) := by decide +kernel
theorem dX8_find_107 : decode cX8_find 107 = .ok (.ireturn, 1) := by decide +kernel
theorem dX8_find_108 : decode cX8_find 108 = .ok (.aload_n 0, 1) := by decide +kernel
theorem dX8_find_109 : decode cX8_find 109 = .ok (.getfield 189, 3) := by decide +kernel
theorem dX8_find_112 : decode cX8_find 112 = .ok (.iload_n 2, 1) := by decide +kernel
theorem dX8_find_113 : decode cX8_find 113 = .ok (.iaload, 1) := by decide +kernel
theorem dX8_find_114 : decode cX8_find 114 = .ok (.ifCond .le 51, 3) := by decide +kernel
theorem dX8_find_117 : decode cX8_find 117 = .ok (.aload_n 0, 1) := by decide +kernel
theorem dX8_find_118 : decode cX8_find 118 = .ok (.getfield 66, 3) := by decide +kernel
theorem dX8_find_121 : decode cX8_find 121 = .ok (.bipush 6, 2) := by decide +kernel
theorem dX8_find_123 : decode cX8_find 123 = .ok (.iload_n 3, 1) := by decide +kernel
theorem dX8_find_124 : decode cX8_find 124 = .ok (.imul, 1) := by decide +kernel
theorem dX8_find_125 : decode cX8_find 125 = .ok (.aload_n 0, 1) := by decide +kernel
theorem dX8_find_126 : decode cX8_find 126 = .ok (.getfield 189, 3) := by decide +kernel
theorem dX8_find_129 : decode cX8_find 129 = .ok (.iload_n 2, 1) := by decide +kernel
theorem dX8_find_130 : decode cX8_find 130 = .ok (.iaload, 1) := by decide +kernel
theorem dX8_find_131 : decode cX8_find 131 = .ok (.iadd, 1) := by decide +kernel
theorem dX8_find_132 : decode cX8_find 132 = .ok (.iconst 1, 1) := by decide +kernel
theorem dX8_find_133 : decode cX8_find 133 = .ok (.isub, 1) := by decide +kernel
theorem dX8_find_134 : decode cX8_find 134 = .ok (.baload, 1) := by decide +kernel
theorem dX8_find_135 : decode cX8_find 135 = .ok (.ifCond .eq 30, 3) := by decide +kernel
theorem dX8_find_138 : decode cX8_find 138 = .ok (.aload_n 0, 1) := by decide +kernel
