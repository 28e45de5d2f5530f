theorem dX8_goesOn_13 : decode cX8_goesOn 13 = .ok (.imul, 1) := by decide +kernel
theorem dX8_goesOn_14 : decode cX8_goesOn 14 = .ok (.aload_n 0, 1) := by decide +kernel
theorem dX8_goesOn_15 : decode cX8_goesOn 15 = .ok (.getfield 48, 3) := by decide +kernel
theorem dX8_goesOn_18 : decode cX8_goesOn 18 = .ok (.iload_n 1, 1) := by decide +kernel
theorem dX8_goesOn_19 : decode cX8_goesOn 19 = .ok (.iaload, 1) := by decide +kernel
theorem dX8_goesOn_20 : decode cX8_goesOn 20 = .ok (.iadd, 1) := by decide +kernel
theorem dX8_goesOn_21 : decode cX8_goesOn 21 = .ok (.if_icmp .ge 56, 3) := by decide +kernel
theorem dX8_goesOn_24 : decode cX8_goesOn 24 = .ok (.aload_n 0, 1) := by decide +kernel
theorem dX8_goesOn_25 : decode cX8_goesOn 25 = .ok (.iload_n 2, 1) := by decide +kernel
theorem dX8_goesOn_26 : decode cX8_goesOn 26 = .ok (.aload_n 0, 1) := by decide +kernel
theorem dX8_goesOn_27 : decode cX8_goesOn 27 = .ok (.getfield 51, 3) := by decide +kernel
theorem dX8_goesOn_30 : decode cX8_goesOn 30 = .ok (.iload 4, 2) := by decide +kernel
theorem dX8_goesOn_32 : decode cX8_goesOn 32 = .ok (.iaload, 1) := by decide +kernel
theorem dX8_goesOn_33 : decode cX8_goesOn 33 = .ok (.invokevirtual 254, 3) := by decide +kernel
theorem dX8_goesOn_36 : decode cX8_goesOn 36 = .ok (.istore 5, 2) := by decide +kernel
theorem dX8_goesOn_38 : decode cX8_goesOn 38 = .ok (.iload_n 3, 1) := by decide +kernel
theorem dX8_goesOn_39 : decode cX8_goesOn 39 = .ok (.ifCond .eq 30, 3) := by decide +kernel
theorem dX8_goesOn_42 : decode cX8_goesOn 42 = .ok (.iload 5, 2) := by decide +kernel
theorem dX8_goesOn_44 : decode cX8_goesOn 44 = .ok (.iconst (-1), 1) := by decide +kernel
theorem dX8_goesOn_45 : decode cX8_goesOn 45 = .ok (.if_icmp .eq 24, 3) := by decide +kernel
theorem dX8_goesOn_48 : decode cX8_goesOn 48 = .ok (.aload_n 0, 1) := by decide +kernel
theorem dX8_goesOn_49 : decode cX8_goesOn 49 = .ok (.getfield 54, 3) := by decide +kernel
theorem dX8_goesOn_52 : decode cX8_goesOn 52 = .ok (.iload 5, 2) := by decide +kernel
theorem dX8_goesOn_54 : decode cX8_goesOn 54 = .ok (.iaload, 1) := by decide +kernel
theorem dX8_goesOn_55 : decode cX8_goesOn 55 = .ok (.aload_n 0, 1) := by decide +kernel
theorem dX8_goesOn_56 : decode cX8_goesOn 56 = .ok (.getfield 54, 3) := by decide +kernel
theorem dX8_goesOn_59 : decode cX8_goesOn 59 = .ok (.iload 4, 2) := by decide +kernel
theorem dX8_goesOn_61 : decode cX8_goesOn 61 = .ok (.iaload, 1) := by decide +kernel
theorem dX8_goesOn_62 : decode cX8_goesOn 62 = .ok (.if_icmp .lt 7, 3) := by decide +kernel
theorem dX8_goesOn_65 : decode cX8_goesOn 65 = .ok (.iconst 1, 1) := by decide +kernel
theorem dX8_goesOn_66 : decode cX8_goesOn 66 = .ok (.goto 4, 3) := by decide +kernel
theorem dX8_goesOn_69 : decode cX8_goesOn 69 = .ok (.iconst 0, 1) := by decide +kernel
theorem dX8_goesOn_70 : decode cX8_goesOn 70 = .ok (.istore_n 3, 1) := by decide +kernel
theorem dX8_goesOn_71 : decode cX8_goesOn 71 = .ok (.iinc 4 1, 3) := by decide +kernel
theorem dX8_goesOn_74 : decode cX8_goesOn 74 = .ok (.goto (-66), 3) := by decide +kernel
theorem dX8_goesOn_77 : decode cX8_goesOn 77 = .ok (.iload_n 3, 1) := by decide +kernel
theorem dX8_goesOn_78 : decode cX8_goesOn 78 = .ok (.ireturn, 1) := by decide +kernel
set_option maxRecDepth 20000 in
theorem ggX8_rule_X8_isRow : GoodIn wsX8_rule wsX8_isRow := goodIn_r _ [8, 9, 100, 101, 102, 103, 104, 105, 106, 107, 108, 109, 110, 111, 112, 113, 114, 115, 116, 117, 118, 119, 120, 121, 122, 123, 124, 125, 126, 127, 128, 129, 130, 131, 132, 133, 134, 135, 136, 137, 138, 139, 140] (by decide +kernel) (by decide +kernel)
set_option maxRecDepth 20000 in
theorem gX8_rule_X8_isRow : GoodIn wsX8_rule (wsV RX8 202 RX8 yX8_isRow wsX8_isRow) := goodIn_app (goodIn_of _ (by decide +kernel)) ggX8_rule_X8_isRow
set_option maxRecDepth 20000 in
theorem ggX8_rule_X8_isAlive : GoodIn wsX8_rule wsX8_isAlive := goodIn_r _ [13, 14, 100, 101, 102, 103, 104, 105, 106, 107, 108, 109, 110, 111, 112, 113, 114, 115, 116, 117, 118, 119, 120, 121, 122, 123, 124, 125, 126, 127, 128, 129, 130, 131, 132, 133, 134, 135, 136, 137, 138, 139, 140] (by decide +kernel) (by decide +kernel)
set_option maxRecDepth 20000 in
theorem gX8_rule_X8_isAlive : GoodIn wsX8_rule (wsV RX8 271 RX8 yX8_isAlive wsX8_isAlive) := goodIn_app (goodIn_of _ (by decide +kernel)) ggX8_rule_X8_isAlive
set_option maxRecDepth 20000 in
theorem ggX8_rule_X8_hasQuorum : GoodIn wsX8_rule wsX8_hasQuorum := goodIn_r _ [18, 19, 20, 21, 22, 23, 24, 25, 26, 7, 27, 28, 29, 30, 31, 32, 33, 34, 35, 36, 37, 38, 39, 40, 41, 42, 43, 44, 45, 46, 47, 1, 3, 14, 48, 49, 50, 51, 52, 53, 54, 55, 56, 57, 58, 59, 60, 61, 62, 63, 64, 65, 66, 67, 68, 69, 70, 71, 72, 73, 74, 75, 76, 77, 78, 79, 80, 81, 82, 83, 84, 85, 86, 87, 100, 101, 102, 103, 104, 105, 106, 107, 108, 109, 110, 111, 112, 113, 114, 115, 116, 117, 118, 119, 120, 121, 122, 123, 124, 125, 126, 127, 128, 129, 130, 131, 132, 133, 134, 135, 136, 137, 138, 139, 140] (by decide +kernel) (by decide +kernel)
set_option maxRecDepth 20000 in
theorem gX8_rule_X8_hasQuorum : GoodIn wsX8_rule (wsV RX8 275 RX8 yX8_hasQuorum wsX8_hasQuorum) := goodIn_app (goodIn_of _ (by decide +kernel)) ggX8_rule_X8_hasQuorum
set_option maxRecDepth 20000 in
theorem ggX8_rule_X8_isTold : GoodIn wsX8_rule wsX8_isTold := goodIn_r _ [91, 2, 1, 52, 3, 10, 11, 12, 7, 13, 14, 92, 93, 94, 95, 50, 51, 100, 101, 102, 103, 104, 105, 106, 107, 108, 109, 110, 111, 112, 113, 114, 115, 116, 117, 118, 119, 120, 121, 122, 123, 124, 125, 126, 127, 128, 129, 130, 131, 132, 133, 134, 135, 136, 137, 138, 139, 140] (by decide +kernel) (by decide +kernel)
set_option maxRecDepth 20000 in
theorem gX8_rule_X8_isTold : GoodIn wsX8_rule (wsV RX8 279 RX8 yX8_isTold wsX8_isTold) := goodIn_app (goodIn_of _ (by decide +kernel)) ggX8_rule_X8_isTold
set_option maxRecDepth 20000 in
theorem ggX8_rule_X8_goesOn : GoodIn wsX8_rule wsX8_goesOn := goodIn_r _ [99, 50, 51, 52, 92, 93, 94, 7, 95, 100, 101, 102, 103, 104, 105, 106, 107, 108, 109, 110, 111, 112, 113, 114, 115, 116, 117, 118, 119, 120, 121, 122, 123, 124, 125, 126, 127, 128, 129, 130, 131, 132, 133, 134, 135, 136, 137, 138, 139, 140] (by decide +kernel) (by decide +kernel)
set_option maxRecDepth 20000 in
theorem gX8_rule_X8_goesOn : GoodIn wsX8_rule (wsV RX8 283 RX8 yX8_goesOn wsX8_goesOn) := goodIn_app (goodIn_of _ (by decide +kernel)) ggX8_rule_X8_goesOn
theorem dX8_rule_0 : decode cX8_rule 0 = .ok (.aload_n 0, 1) := by decide +kernel
theorem dX8_rule_1 : decode cX8_rule 1 = .ok (.iload_n 1, 1) := by decide +kernel
theorem dX8_rule_2 : decode cX8_rule 2 = .ok (.invokevirtual 202, 3) := by decide +kernel
theorem dX8_rule_5 : decode cX8_rule 5 = .ok (.ifCond .ne 5, 3) := by decide +kernel
theorem dX8_rule_8 : decode cX8_rule 8 = .ok (.iconst 1, 1) := by decide +kernel
theorem dX8_rule_9 : decode cX8_rule 9 = .ok (.ireturn, 1) := by decide +kernel
theorem dX8_rule_10 : decode cX8_rule 10 = .ok (.aload_n 0, 1) := by decide +kernel
theorem dX8_rule_11 : decode cX8_rule 11 = .ok (.getfield 33, 3) := by decide +kernel
theorem dX8_rule_14 : decode cX8_rule 14 = .ok (.iload_n 1, 1) := by decide +kernel
theorem dX8_rule_15 : decode cX8_rule 15 = .ok (.iaload, 1) := by decide +kernel
theorem dX8_rule_16 : decode cX8_rule 16 = .ok (.istore 4, 2) := by decide +kernel
theorem dX8_rule_18 : decode cX8_rule 18 = .ok (.aload_n 0, 1) := by decide +kernel
theorem dX8_rule_19 : decode cX8_rule 19 = .ok (.getfield 84, 3) := by decide +kernel
theorem dX8_rule_22 : decode cX8_rule 22 = .ok (.iconst 0, 1) := by decide +kernel
theorem dX8_rule_23 : decode cX8_rule 23 = .ok (.iaload, 1) := by decide +kernel
theorem dX8_rule_24 : decode cX8_rule 24 = .ok (.istore 5, 2) := by decide +kernel
theorem dX8_rule_26 : decode cX8_rule 26 = .ok (.iload 4, 2) := by decide +kernel
theorem dX8_rule_28 : decode cX8_rule 28 = .ok (.ifCond .eq 15, 3) := by decide +kernel
theorem dX8_rule_31 : decode cX8_rule 31 = .ok (.aload_n 0, 1) := by decide +kernel
theorem dX8_rule_32 : decode cX8_rule 32 = .ok (.iload 5, 2) := by decide +kernel
theorem dX8_rule_34 : decode cX8_rule 34 = .ok (.lload_n 2, 1) := by decide +kernel
theorem dX8_rule_35 : decode cX8_rule 35 = .ok (.invokevirtual 271, 3) := by decide +kernel
theorem dX8_rule_38 : decode cX8_rule 38 = .ok (.ifCond .ne 5, 3) := by decide +kernel
theorem dX8_rule_41 : decode cX8_rule 41 = .ok (.iconst 2, 1) := by decide +kernel
theorem dX8_rule_42 : decode cX8_rule 42 = .ok (.ireturn, 1) := by decide +kernel
theorem dX8_rule_43 : decode cX8_rule 43 = .ok (.iload 5, 2) := by decide +kernel
theorem dX8_rule_45 : decode cX8_rule 45 = .ok (.iconst (-1), 1) := by decide +kernel
theorem dX8_rule_46 : decode cX8_rule 46 = .ok (.if_icmp .eq 18, 3) := by decide +kernel
theorem dX8_rule_49 : decode cX8_rule 49 = .ok (.aload_n 0, 1) := by decide +kernel
theorem dX8_rule_50 : decode cX8_rule 50 = .ok (.iload_n 1, 1) := by decide +kernel
theorem dX8_rule_51 : decode cX8_rule 51 = .ok (.iload 4, 2) := by decide +kernel
theorem dX8_rule_53 : decode cX8_rule 53 = .ok (.iload 5, 2) := by decide +kernel
theorem dX8_rule_55 : decode cX8_rule 55 = .ok (.lload_n 2, 1) := by decide +kernel
theorem dX8_rule_56 : decode cX8_rule 56 = .ok (.invokevirtual 275, 3) := by decide +kernel
theorem dX8_rule_59 : decode cX8_rule 59 = .ok (.ifCond .ne 5, 3) := by decide +kernel
theorem dX8_rule_62 : decode cX8_rule 62 = .ok (.iconst 3, 1) := by decide +kernel
theorem dX8_rule_63 : decode cX8_rule 63 = .ok (.ireturn, 1) := by decide +kernel
theorem dX8_rule_64 : decode cX8_rule 64 = .ok (.iload 4, 2) := by decide +kernel
theorem dX8_rule_66 : decode cX8_rule 66 = .ok (.ifCond .ne 16, 3) := by decide +kernel
theorem dX8_rule_69 : decode cX8_rule 69 = .ok (.aload_n 0, 1) := by decide +kernel
theorem dX8_rule_70 : decode cX8_rule 70 = .ok (.iload_n 1, 1) := by decide +kernel
theorem dX8_rule_71 : decode cX8_rule 71 = .ok (.iconst 0, 1) := by decide +kernel
theorem dX8_rule_72 : decode cX8_rule 72 = .ok (.iload_n 1, 1) := by decide +kernel
theorem dX8_rule_73 : decode cX8_rule 73 = .ok (.lload_n 2, 1) := by decide +kernel
theorem dX8_rule_74 : decode cX8_rule 74 = .ok (.invokevirtual 275, 3) := by decide +kernel
theorem dX8_rule_77 : decode cX8_rule 77 = .ok (.ifCond .ne 5, 3) := by decide +kernel
theorem dX8_rule_80 : decode cX8_rule 80 = .ok (.iconst 4, 1) := by decide +kernel
theorem dX8_rule_81 : decode cX8_rule 81 = .ok (.ireturn, 1) := by decide +kernel
theorem dX8_rule_82 : decode cX8_rule 82 = .ok (.aload_n 0, 1) := by decide +kernel
theorem dX8_rule_83 : decode cX8_rule 83 = .ok (.getfield 84, 3) := by decide +kernel
theorem dX8_rule_86 : decode cX8_rule 86 = .ok (.iload 4, 2) := by decide +kernel
theorem dX8_rule_88 : decode cX8_rule 88 = .ok (.iaload, 1) := by decide +kernel
theorem dX8_rule_89 : decode cX8_rule 89 = .ok (.iconst (-1), 1) := by decide +kernel
theorem dX8_rule_90 : decode cX8_rule 90 = .ok (.if_icmp .ne 7, 3) := by decide +kernel
theorem dX8_rule_93 : decode cX8_rule 93 = .ok (.iconst 0, 1) := by decide +kernel
theorem dX8_rule_94 : decode cX8_rule 94 = .ok (.goto 15, 3) := by decide +kernel
theorem dX8_rule_97 : decode cX8_rule 97 = .ok (.aload_n 0, 1) := by decide +kernel
theorem dX8_rule_98 : decode cX8_rule 98 = .ok (.getfield 36, 3) := by decide +kernel
theorem dX8_rule_101 : decode cX8_rule 101 = .ok (.aload_n 0, 1) := by decide +kernel
theorem dX8_rule_102 : decode cX8_rule 102 = .ok (.getfield 84, 3) := by decide +kernel
theorem dX8_rule_105 : decode cX8_rule 105 = .ok (.iload 4, 2) := by decide +kernel
theorem dX8_rule_107 : decode cX8_rule 107 = .ok (.iaload, 1) := by decide +kernel
theorem dX8_rule_108 : decode cX8_rule 108 = .ok (.iaload, 1) := by decide +kernel
theorem dX8_rule_109 : decode cX8_rule 109 = .ok (.istore 6, 2) := by decide +kernel
theorem dX8_rule_111 : decode cX8_rule 111 = .ok (.iload 4, 2) := by decide +kernel
theorem dX8_rule_113 : decode cX8_rule 113 = .ok (.ifCond .ne 25, 3) := by decide +kernel
theorem dX8_rule_116 : decode cX8_rule 116 = .ok (.iload 5, 2) := by decide +kernel
theorem dX8_rule_118 : decode cX8_rule 118 = .ok (.iconst (-1), 1) := by decide +kernel
theorem dX8_rule_119 : decode cX8_rule 119 = .ok (.if_icmp .eq 32, 3) := by decide +kernel
theorem dX8_rule_122 : decode cX8_rule 122 = .ok (.aload_n 0, 1) := by decide +kernel
theorem dX8_rule_123 : decode cX8_rule 123 = .ok (.getfield 36, 3) := by decide +kernel
theorem dX8_rule_126 : decode cX8_rule 126 = .ok (.iload_n 1, 1) := by decide +kernel
theorem dX8_rule_127 : decode cX8_rule 127 = .ok (.iaload, 1) := by decide +kernel
theorem dX8_rule_128 : decode cX8_rule 128 = .ok (.iload 6, 2) := by decide +kernel
theorem dX8_rule_130 : decode cX8_rule 130 = .ok (.iconst 1, 1) := by decide +kernel
theorem dX8_rule_131 : decode cX8_rule 131 = .ok (.iadd, 1) := by decide +kernel
theorem dX8_rule_132 : decode cX8_rule 132 = .ok (.if_icmp .eq 19, 3) := by decide +kernel
theorem dX8_rule_135 : decode cX8_rule 135 = .ok (.goto 14, 3) := by decide +kernel
theorem dX8_rule_138 : decode cX8_rule 138 = .ok (.aload_n 0, 1) := by decide +kernel
theorem dX8_rule_139 : decode cX8_rule 139 = .ok (.getfield 36, 3) := by decide +kernel
theorem dX8_rule_142 : decode cX8_rule 142 = .ok (.iload_n 1, 1) := by decide +kernel
theorem dX8_rule_143 : decode cX8_rule 143 = .ok (.iaload, 1) := by decide +kernel
theorem dX8_rule_144 : decode cX8_rule 144 = .ok (.iload 6, 2) := by decide +kernel
theorem dX8_rule_146 : decode cX8_rule 146 = .ok (.if_icmp .ge 5, 3) := by decide +kernel
theorem dX8_rule_149 : decode cX8_rule 149 = .ok (.iconst 5, 1) := by decide +kernel
theorem dX8_rule_150 : decode cX8_rule 150 = .ok (.ireturn, 1) := by decide +kernel
theorem dX8_rule_151 : decode cX8_rule 151 = .ok (.aload_n 0, 1) := by decide +kernel
theorem dX8_rule_152 : decode cX8_rule 152 = .ok (.iload_n 1, 1) := by decide +kernel
theorem dX8_rule_153 : decode cX8_rule 153 = .ok (.lload_n 2, 1) := by decide +kernel
theorem dX8_rule_154 : decode cX8_rule 154 = .ok (.invokevirtual 271, 3) := by decide +kernel
theorem dX8_rule_157 : decode cX8_rule 157 = .ok (.ifCond .ne 6, 3) := by decide +kernel
theorem dX8_rule_160 : decode cX8_rule 160 = .ok (.bipush 6, 2) := by decide +kernel
theorem dX8_rule_162 : decode cX8_rule 162 = .ok (.ireturn, 1) := by decide +kernel
theorem dX8_rule_163 : decode cX8_rule 163 = .ok (.iload 4, 2) := by decide +kernel
theorem dX8_rule_165 : decode cX8_rule 165 = .ok (.iconst 2, 1) := by decide +kernel
theorem dX8_rule_166 : decode cX8_rule 166 = .ok (.if_icmp .ne 13, 3) := by decide +kernel
theorem dX8_rule_169 : decode cX8_rule 169 = .ok (.aload_n 0, 1) := by decide +kernel
theorem dX8_rule_170 : decode cX8_rule 170 = .ok (.iconst 1, 1) := by decide +kernel
theorem dX8_rule_171 : decode cX8_rule 171 = .ok (.iload_n 1, 1) := by decide +kernel
theorem dX8_rule_172 : decode cX8_rule 172 = .ok (.lload_n 2, 1) := by decide +kernel
theorem dX8_rule_173 : decode cX8_rule 173 = .ok (.invokevirtual 279, 3) := by decide +kernel
theorem dX8_rule_176 : decode cX8_rule 176 = .ok (.ifCond .eq 19, 3) := by decide +kernel
theorem dX8_rule_179 : decode cX8_rule 179 = .ok (.iload 4, 2) := by decide +kernel
