theorem dX8_forge_2 : decode cX8_forge 2 = .ok (.putfield 192, 3) := by decide +kernel
theorem dX8_forge_5 : decode cX8_forge 5 = .ok (.aload_n 0, 1) := by decide +kernel
theorem dX8_forge_6 : decode cX8_forge 6 = .ok (.iload_n 1, 1) := by decide +kernel
theorem dX8_forge_7 : decode cX8_forge 7 = .ok (.invokevirtual 202, 3) := by decide +kernel
theorem dX8_forge_10 : decode cX8_forge 10 = .ok (.ifCond .eq 22, 3) := by decide +kernel
theorem dX8_forge_13 : decode cX8_forge 13 = .ok (.aload_n 0, 1) := by decide +kernel
theorem dX8_forge_14 : decode cX8_forge 14 = .ok (.iload_n 2, 1) := by decide +kernel
theorem dX8_forge_15 : decode cX8_forge 15 = .ok (.invokevirtual 247, 3) := by decide +kernel
theorem dX8_forge_18 : decode cX8_forge 18 = .ok (.ifCond .eq 14, 3) := by decide +kernel
theorem dX8_forge_21 : decode cX8_forge 21 = .ok (.aload_n 0, 1) := by decide +kernel
theorem dX8_forge_22 : decode cX8_forge 22 = .ok (.getfield 75, 3) := by decide +kernel
theorem dX8_forge_25 : decode cX8_forge 25 = .ok (.iload_n 1, 1) := by decide +kernel
theorem dX8_forge_26 : decode cX8_forge 26 = .ok (.iaload, 1) := by decide +kernel
theorem dX8_forge_27 : decode cX8_forge 27 = .ok (.bipush 12, 2) := by decide +kernel
theorem dX8_forge_29 : decode cX8_forge 29 = .ok (.if_icmp .ne 5, 3) := by decide +kernel
theorem dX8_forge_32 : decode cX8_forge 32 = .ok (.iconst 0, 1) := by decide +kernel
theorem dX8_forge_33 : decode cX8_forge 33 = .ok (.ireturn, 1) := by decide +kernel
theorem dX8_forge_34 : decode cX8_forge 34 = .ok (.aload_n 0, 1) := by decide +kernel
theorem dX8_forge_35 : decode cX8_forge 35 = .ok (.iload_n 1, 1) := by decide +kernel
theorem dX8_forge_36 : decode cX8_forge 36 = .ok (.iload_n 2, 1) := by decide +kernel
theorem dX8_forge_37 : decode cX8_forge 37 = .ok (.lload_n 3, 1) := by decide +kernel
theorem dX8_forge_38 : decode cX8_forge 38 = .ok (.invokevirtual 261, 3) := by decide +kernel
theorem dX8_forge_41 : decode cX8_forge 41 = .ok (.iconst 1, 1) := by decide +kernel
theorem dX8_forge_42 : decode cX8_forge 42 = .ok (.ireturn, 1) := by decide +kernel
theorem dX8_isAlive_0 : decode cX8_isAlive 0 = .ok (.iload_n 1, 1) := by decide +kernel
theorem dX8_isAlive_1 : decode cX8_isAlive 1 = .ok (.iconst (-1), 1) := by decide +kernel
theorem dX8_isAlive_2 : decode cX8_isAlive 2 = .ok (.if_icmp .eq 18, 3) := by decide +kernel
theorem dX8_isAlive_5 : decode cX8_isAlive 5 = .ok (.aload_n 0, 1) := by decide +kernel
theorem dX8_isAlive_6 : decode cX8_isAlive 6 = .ok (.getfield 45, 3) := by decide +kernel
theorem dX8_isAlive_9 : decode cX8_isAlive 9 = .ok (.iload_n 1, 1) := by decide +kernel
theorem dX8_isAlive_10 : decode cX8_isAlive 10 = .ok (.laload, 1) := by decide +kernel
theorem dX8_isAlive_11 : decode cX8_isAlive 11 = .ok (.lload_n 2, 1) := by decide +kernel
theorem dX8_isAlive_12 : decode cX8_isAlive 12 = .ok (.lcmp, 1) := by decide +kernel
theorem dX8_isAlive_13 : decode cX8_isAlive 13 = .ok (.ifCond .le 7, 3) := by decide +kernel
theorem dX8_isAlive_16 : decode cX8_isAlive 16 = .ok (.iconst 1, 1) := by decide +kernel
theorem dX8_isAlive_17 : decode cX8_isAlive 17 = .ok (.goto 4, 3) := by decide +kernel
theorem dX8_isAlive_20 : decode cX8_isAlive 20 = .ok (.iconst 0, 1) := by decide +kernel
theorem dX8_isAlive_21 : decode cX8_isAlive 21 = .ok (.ireturn, 1) := by decide +kernel
set_option maxRecDepth 20000 in
theorem ggX8_hasQuorum_X8_rightKeys : GoodIn wsX8_hasQuorum wsX8_rightKeys := goodIn_r _ [10, 2, 11, 12, 13, 14, 15, 16, 9, 17, 18, 19, 20, 21, 22, 23, 24, 25, 26, 27, 28, 29, 30, 31, 32, 33, 34, 35, 5, 1, 36, 37, 38, 39, 40, 41, 42, 43, 44, 45, 46, 47, 48, 49, 50, 51, 52, 53, 54, 55, 56, 57, 58, 59, 60, 61, 62, 63, 64, 65, 66, 67, 68, 69, 70, 74, 75, 76, 77, 78, 79, 80, 81, 82, 83, 84, 85, 86, 87, 88, 89, 90, 91, 92, 93, 94, 95, 96, 97, 98, 99, 100, 101, 102, 103, 104, 105, 106, 107, 108, 109, 110, 111, 112, 113, 114] (by decide +kernel) (by decide +kernel)
set_option maxRecDepth 20000 in
theorem gX8_hasQuorum_X8_rightKeys : GoodIn wsX8_hasQuorum (wsV RX8 265 RX8 yX8_rightKeys wsX8_rightKeys) := goodIn_app (goodIn_of _ (by decide +kernel)) ggX8_hasQuorum_X8_rightKeys
set_option maxRecDepth 20000 in
theorem ggX8_hasQuorum_X8_bits : GoodIn wsX8_hasQuorum wsX8_bits := goodIn_r _ [73] (by decide +kernel) (by decide +kernel)
set_option maxRecDepth 20000 in
theorem gX8_hasQuorum_X8_bits : GoodIn wsX8_hasQuorum (va_wsS RX8 268 yX8_bits wsX8_bits) := goodIn_app (goodIn_of _ (by decide +kernel)) ggX8_hasQuorum_X8_bits
theorem dX8_hasQuorum_0 : decode cX8_hasQuorum 0 = .ok (.aload_n 0, 1) := by decide +kernel
theorem dX8_hasQuorum_1 : decode cX8_hasQuorum 1 = .ok (.iload_n 1, 1) := by decide +kernel
theorem dX8_hasQuorum_2 : decode cX8_hasQuorum 2 = .ok (.invokevirtual 265, 3) := by decide +kernel
theorem dX8_hasQuorum_5 : decode cX8_hasQuorum 5 = .ok (.aload_n 0, 1) := by decide +kernel
theorem dX8_hasQuorum_6 : decode cX8_hasQuorum 6 = .ok (.getfield 30, 3) := by decide +kernel
theorem dX8_hasQuorum_9 : decode cX8_hasQuorum 9 = .ok (.bipush 10, 2) := by decide +kernel
theorem dX8_hasQuorum_11 : decode cX8_hasQuorum 11 = .ok (.iload_n 3, 1) := by decide +kernel
theorem dX8_hasQuorum_12 : decode cX8_hasQuorum 12 = .ok (.imul, 1) := by decide +kernel
theorem dX8_hasQuorum_13 : decode cX8_hasQuorum 13 = .ok (.iload_n 2, 1) := by decide +kernel
theorem dX8_hasQuorum_14 : decode cX8_hasQuorum 14 = .ok (.iadd, 1) := by decide +kernel
theorem dX8_hasQuorum_15 : decode cX8_hasQuorum 15 = .ok (.iaload, 1) := by decide +kernel
theorem dX8_hasQuorum_16 : decode cX8_hasQuorum 16 = .ok (.iand, 1) := by decide +kernel
theorem dX8_hasQuorum_17 : decode cX8_hasQuorum 17 = .ok (.istore 6, 2) := by decide +kernel
theorem dX8_hasQuorum_19 : decode cX8_hasQuorum 19 = .ok (.iconst 0, 1) := by decide +kernel
theorem dX8_hasQuorum_20 : decode cX8_hasQuorum 20 = .ok (.istore 7, 2) := by decide +kernel
theorem dX8_hasQuorum_22 : decode cX8_hasQuorum 22 = .ok (.iload 7, 2) := by decide +kernel
theorem dX8_hasQuorum_24 : decode cX8_hasQuorum 24 = .ok (.aload_n 0, 1) := by decide +kernel
theorem dX8_hasQuorum_25 : decode cX8_hasQuorum 25 = .ok (.getfield 196, 3) := by decide +kernel
theorem dX8_hasQuorum_28 : decode cX8_hasQuorum 28 = .ok (.if_icmp .ge 43, 3) := by decide +kernel
theorem dX8_hasQuorum_31 : decode cX8_hasQuorum 31 = .ok (.aload_n 0, 1) := by decide +kernel
theorem dX8_hasQuorum_32 : decode cX8_hasQuorum 32 = .ok (.getfield 13, 3) := by decide +kernel
theorem dX8_hasQuorum_35 : decode cX8_hasQuorum 35 = .ok (.iload 7, 2) := by decide +kernel
theorem dX8_hasQuorum_37 : decode cX8_hasQuorum 37 = .ok (.laload, 1) := by decide +kernel
theorem dX8_hasQuorum_38 : decode cX8_hasQuorum 38 = .ok (.lload 4, 2) := by decide +kernel
theorem dX8_hasQuorum_40 : decode cX8_hasQuorum 40 = .ok (.lcmp, 1) := by decide +kernel
theorem dX8_hasQuorum_41 : decode cX8_hasQuorum 41 = .ok (.ifCond .le 13, 3) := by decide +kernel
theorem dX8_hasQuorum_44 : decode cX8_hasQuorum 44 = .ok (.aload_n 0, 1) := by decide +kernel
theorem dX8_hasQuorum_45 : decode cX8_hasQuorum 45 = .ok (.getfield 16, 3) := by decide +kernel
theorem dX8_hasQuorum_48 : decode cX8_hasQuorum 48 = .ok (.iload 7, 2) := by decide +kernel
theorem dX8_hasQuorum_50 : decode cX8_hasQuorum 50 = .ok (.baload, 1) := by decide +kernel
theorem dX8_hasQuorum_51 : decode cX8_hasQuorum 51 = .ok (.ifCond .eq 14, 3) := by decide +kernel
theorem dX8_hasQuorum_54 : decode cX8_hasQuorum 54 = .ok (.iload 6, 2) := by decide +kernel
theorem dX8_hasQuorum_56 : decode cX8_hasQuorum 56 = .ok (.iconst 1, 1) := by decide +kernel
theorem dX8_hasQuorum_57 : decode cX8_hasQuorum 57 = .ok (.iload 7, 2) := by decide +kernel
theorem dX8_hasQuorum_59 : decode cX8_hasQuorum 59 = .ok (.ishl, 1) := by decide +kernel
theorem dX8_hasQuorum_60 : decode cX8_hasQuorum 60 = .ok (.iconst (-1), 1) := by decide +kernel
theorem dX8_hasQuorum_61 : decode cX8_hasQuorum 61 = .ok (.ixor, 1) := by decide +kernel
theorem dX8_hasQuorum_62 : decode cX8_hasQuorum 62 = .ok (.iand, 1) := by decide +kernel
theorem dX8_hasQuorum_63 : decode cX8_hasQuorum 63 = .ok (.istore 6, 2) := by decide +kernel
theorem dX8_hasQuorum_65 : decode cX8_hasQuorum 65 = .ok (.iinc 7 1, 3) := by decide +kernel
theorem dX8_hasQuorum_68 : decode cX8_hasQuorum 68 = .ok (.goto (-46), 3) := by decide +kernel
theorem dX8_hasQuorum_71 : decode cX8_hasQuorum 71 = .ok (.iload 6, 2) := by decide +kernel
theorem dX8_hasQuorum_73 : decode cX8_hasQuorum 73 = .ok (.invokestatic 268, 3) := by decide +kernel
theorem dX8_hasQuorum_76 : decode cX8_hasQuorum 76 = .ok (.aload_n 0, 1) := by decide +kernel
theorem dX8_hasQuorum_77 : decode cX8_hasQuorum 77 = .ok (.getfield 27, 3) := by decide +kernel
theorem dX8_hasQuorum_80 : decode cX8_hasQuorum 80 = .ok (.bipush 10, 2) := by decide +kernel
theorem dX8_hasQuorum_82 : decode cX8_hasQuorum 82 = .ok (.iload_n 3, 1) := by decide +kernel
theorem dX8_hasQuorum_83 : decode cX8_hasQuorum 83 = .ok (.imul, 1) := by decide +kernel
theorem dX8_hasQuorum_84 : decode cX8_hasQuorum 84 = .ok (.iload_n 2, 1) := by decide +kernel
theorem dX8_hasQuorum_85 : decode cX8_hasQuorum 85 = .ok (.iadd, 1) := by decide +kernel
theorem dX8_hasQuorum_86 : decode cX8_hasQuorum 86 = .ok (.iaload, 1) := by decide +kernel
theorem dX8_hasQuorum_87 : decode cX8_hasQuorum 87 = .ok (.if_icmp .lt 7, 3) := by decide +kernel
theorem dX8_hasQuorum_90 : decode cX8_hasQuorum 90 = .ok (.iconst 1, 1) := by decide +kernel
theorem dX8_hasQuorum_91 : decode cX8_hasQuorum 91 = .ok (.goto 4, 3) := by decide +kernel
theorem dX8_hasQuorum_94 : decode cX8_hasQuorum 94 = .ok (.iconst 0, 1) := by decide +kernel
theorem dX8_hasQuorum_95 : decode cX8_hasQuorum 95 = .ok (.ireturn, 1) := by decide +kernel
set_option maxRecDepth 20000 in
theorem ggX8_isTold_X8_isAlive : GoodIn wsX8_isTold wsX8_isAlive := goodIn_r _ [9, 10, 17, 18, 19, 20, 21, 22, 23, 24, 25, 26, 27, 28, 29, 30, 31, 32, 33, 34, 35, 36, 37, 38, 39, 40, 41, 42, 43, 44, 45, 46, 47, 48, 49, 50, 51, 52, 53, 54, 55, 56, 57] (by decide +kernel) (by decide +kernel)
set_option maxRecDepth 20000 in
theorem gX8_isTold_X8_isAlive : GoodIn wsX8_isTold (wsV RX8 271 RX8 yX8_isAlive wsX8_isAlive) := goodIn_app (goodIn_of _ (by decide +kernel)) ggX8_isTold_X8_isAlive
set_option maxRecDepth 20000 in
theorem ggX8_isTold_X8_toldAt : GoodIn wsX8_isTold wsX8_toldAt := goodIn_r _ [14, 15, 16, 17, 18, 19, 20, 21, 22, 23, 24, 25, 26, 27, 28, 29, 30, 31, 32, 33, 34, 35, 36, 37, 38, 39, 40, 41, 42, 43, 44, 45, 46, 47, 48, 49, 50, 51, 52, 53, 54, 55, 56, 57] (by decide +kernel) (by decide +kernel)
set_option maxRecDepth 20000 in
theorem gX8_isTold_X8_toldAt : GoodIn wsX8_isTold (wsV RX8 254 RX8 yX8_toldAt wsX8_toldAt) := goodIn_app (goodIn_of _ (by decide +kernel)) ggX8_isTold_X8_toldAt
theorem dX8_isTold_0 : decode cX8_isTold 0 = .ok (.aload_n 0, 1) := by decide +kernel
theorem dX8_isTold_1 : decode cX8_isTold 1 = .ok (.aload_n 0, 1) := by decide +kernel
theorem dX8_isTold_2 : decode cX8_isTold 2 = .ok (.getfield 84, 3) := by decide +kernel
theorem dX8_isTold_5 : decode cX8_isTold 5 = .ok (.iload_n 1, 1) := by decide +kernel
theorem dX8_isTold_6 : decode cX8_isTold 6 = .ok (.iaload, 1) := by decide +kernel
theorem dX8_isTold_7 : decode cX8_isTold 7 = .ok (.lload_n 3, 1) := by decide +kernel
theorem dX8_isTold_8 : decode cX8_isTold 8 = .ok (.invokevirtual 271, 3) := by decide +kernel
theorem dX8_isTold_11 : decode cX8_isTold 11 = .ok (.ifCond .ne 5, 3) := by decide +kernel
theorem dX8_isTold_14 : decode cX8_isTold 14 = .ok (.iconst 0, 1) := by decide +kernel
theorem dX8_isTold_15 : decode cX8_isTold 15 = .ok (.ireturn, 1) := by decide +kernel
theorem dX8_isTold_16 : decode cX8_isTold 16 = .ok (.aload_n 0, 1) := by decide +kernel
theorem dX8_isTold_17 : decode cX8_isTold 17 = .ok (.aload_n 0, 1) := by decide +kernel
theorem dX8_isTold_18 : decode cX8_isTold 18 = .ok (.getfield 84, 3) := by decide +kernel
theorem dX8_isTold_21 : decode cX8_isTold 21 = .ok (.iload_n 1, 1) := by decide +kernel
theorem dX8_isTold_22 : decode cX8_isTold 22 = .ok (.iaload, 1) := by decide +kernel
theorem dX8_isTold_23 : decode cX8_isTold 23 = .ok (.aload_n 0, 1) := by decide +kernel
theorem dX8_isTold_24 : decode cX8_isTold 24 = .ok (.getfield 33, 3) := by decide +kernel
theorem dX8_isTold_27 : decode cX8_isTold 27 = .ok (.iload_n 2, 1) := by decide +kernel
theorem dX8_isTold_28 : decode cX8_isTold 28 = .ok (.iaload, 1) := by decide +kernel
theorem dX8_isTold_29 : decode cX8_isTold 29 = .ok (.invokevirtual 254, 3) := by decide +kernel
theorem dX8_isTold_32 : decode cX8_isTold 32 = .ok (.istore 5, 2) := by decide +kernel
theorem dX8_isTold_34 : decode cX8_isTold 34 = .ok (.iload 5, 2) := by decide +kernel
theorem dX8_isTold_36 : decode cX8_isTold 36 = .ok (.iconst (-1), 1) := by decide +kernel
theorem dX8_isTold_37 : decode cX8_isTold 37 = .ok (.if_icmp .eq 23, 3) := by decide +kernel
theorem dX8_isTold_40 : decode cX8_isTold 40 = .ok (.aload_n 0, 1) := by decide +kernel
theorem dX8_isTold_41 : decode cX8_isTold 41 = .ok (.getfield 54, 3) := by decide +kernel
theorem dX8_isTold_44 : decode cX8_isTold 44 = .ok (.iload 5, 2) := by decide +kernel
theorem dX8_isTold_46 : decode cX8_isTold 46 = .ok (.iaload, 1) := by decide +kernel
theorem dX8_isTold_47 : decode cX8_isTold 47 = .ok (.aload_n 0, 1) := by decide +kernel
theorem dX8_isTold_48 : decode cX8_isTold 48 = .ok (.getfield 36, 3) := by decide +kernel
theorem dX8_isTold_51 : decode cX8_isTold 51 = .ok (.iload_n 2, 1) := by decide +kernel
theorem dX8_isTold_52 : decode cX8_isTold 52 = .ok (.iaload, 1) := by decide +kernel
theorem dX8_isTold_53 : decode cX8_isTold 53 = .ok (.if_icmp .ne 7, 3) := by decide +kernel
theorem dX8_isTold_56 : decode cX8_isTold 56 = .ok (.iconst 1, 1) := by decide +kernel
theorem dX8_isTold_57 : decode cX8_isTold 57 = .ok (.goto 4, 3) := by decide +kernel
theorem dX8_isTold_60 : decode cX8_isTold 60 = .ok (.iconst 0, 1) := by decide +kernel
theorem dX8_isTold_61 : decode cX8_isTold 61 = .ok (.ireturn, 1) := by decide +kernel
set_option maxRecDepth 20000 in
theorem ggX8_goesOn_X8_toldAt : GoodIn wsX8_goesOn wsX8_toldAt := goodIn_r _ [8, 1, 2, 9, 10, 11, 12, 13, 14, 15, 16, 17, 18, 19, 20, 21, 22, 23, 24, 25, 26, 27, 28, 29, 30, 31, 32, 33, 34, 35, 36, 37, 38, 39, 40, 41, 42, 43, 44, 45, 46, 47, 48, 49] (by decide +kernel) (by decide +kernel)
set_option maxRecDepth 20000 in
theorem gX8_goesOn_X8_toldAt : GoodIn wsX8_goesOn (wsV RX8 254 RX8 yX8_toldAt wsX8_toldAt) := goodIn_app (goodIn_of _ (by decide +kernel)) ggX8_goesOn_X8_toldAt
theorem dX8_goesOn_0 : decode cX8_goesOn 0 = .ok (.iconst 1, 1) := by decide +kernel
theorem dX8_goesOn_1 : decode cX8_goesOn 1 = .ok (.istore_n 3, 1) := by decide +kernel
theorem dX8_goesOn_2 : decode cX8_goesOn 2 = .ok (.bipush 7, 2) := by decide +kernel
theorem dX8_goesOn_4 : decode cX8_goesOn 4 = .ok (.iload_n 1, 1) := by decide +kernel
theorem dX8_goesOn_5 : decode cX8_goesOn 5 = .ok (.imul, 1) := by decide +kernel
theorem dX8_goesOn_6 : decode cX8_goesOn 6 = .ok (.istore 4, 2) := by decide +kernel
theorem dX8_goesOn_8 : decode cX8_goesOn 8 = .ok (.iload 4, 2) := by decide +kernel
theorem dX8_goesOn_10 : decode cX8_goesOn 10 = .ok (.bipush 7, 2) := by decide +kernel
theorem dX8_goesOn_12 : decode cX8_goesOn 12 = .ok (.iload_n 1, 1) := by decide +kernel
