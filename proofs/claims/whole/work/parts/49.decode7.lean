theorem dX8_hash_34 : decode cX8_hash 34 = .ok (.iconst 0, 1) := by decide +kernel
theorem dX8_hash_35 : decode cX8_hash 35 = .ok (.istore_n 3, 1) := by decide +kernel
theorem dX8_hash_36 : decode cX8_hash 36 = .ok (.iload_n 3, 1) := by decide +kernel
theorem dX8_hash_37 : decode cX8_hash 37 = .ok (.bipush 32, 2) := by decide +kernel
theorem dX8_hash_39 : decode cX8_hash 39 = .ok (.if_icmp .ge 21, 3) := by decide +kernel
theorem dX8_hash_42 : decode cX8_hash 42 = .ok (.aload_n 0, 1) := by decide +kernel
theorem dX8_hash_43 : decode cX8_hash 43 = .ok (.getfield 93, 3) := by decide +kernel
theorem dX8_hash_46 : decode cX8_hash 46 = .ok (.iload_n 3, 1) := by decide +kernel
theorem dX8_hash_47 : decode cX8_hash 47 = .ok (.aload_n 0, 1) := by decide +kernel
theorem dX8_hash_48 : decode cX8_hash 48 = .ok (.getfield 90, 3) := by decide +kernel
theorem dX8_hash_51 : decode cX8_hash 51 = .ok (.iload_n 3, 1) := by decide +kernel
theorem dX8_hash_52 : decode cX8_hash 52 = .ok (.iaload, 1) := by decide +kernel
theorem dX8_hash_53 : decode cX8_hash 53 = .ok (.iastore, 1) := by decide +kernel
theorem dX8_hash_54 : decode cX8_hash 54 = .ok (.iinc 3 1, 3) := by decide +kernel
theorem dX8_hash_57 : decode cX8_hash 57 = .ok (.goto (-21), 3) := by decide +kernel
theorem dX8_hash_60 : decode cX8_hash 60 = .ok (.iload_n 2, 1) := by decide +kernel
theorem dX8_hash_61 : decode cX8_hash 61 = .ok (.ireturn, 1) := by decide +kernel
theorem dX8_digest_0 : decode cX8_digest 0 = .ok (.aload_n 0, 1) := by decide +kernel
theorem dX8_digest_1 : decode cX8_digest 1 = .ok (.iload_n 1, 1) := by decide +kernel
theorem dX8_digest_2 : decode cX8_digest 2 = .ok (.ifCond .lt 13, 3) := by decide +kernel
theorem dX8_digest_5 : decode cX8_digest 5 = .ok (.iload_n 1, 1) := by decide +kernel
theorem dX8_digest_6 : decode cX8_digest 6 = .ok (.bipush 32, 2) := by decide +kernel
theorem dX8_digest_8 : decode cX8_digest 8 = .ok (.if_icmp .ge 7, 3) := by decide +kernel
theorem dX8_digest_11 : decode cX8_digest 11 = .ok (.iconst 0, 1) := by decide +kernel
theorem dX8_digest_12 : decode cX8_digest 12 = .ok (.goto 4, 3) := by decide +kernel
theorem dX8_digest_15 : decode cX8_digest 15 = .ok (.iconst 1, 1) := by decide +kernel
theorem dX8_digest_16 : decode cX8_digest 16 = .ok (.putfield 192, 3) := by decide +kernel
theorem dX8_digest_19 : decode cX8_digest 19 = .ok (.aload_n 0, 1) := by decide +kernel
theorem dX8_digest_20 : decode cX8_digest 20 = .ok (.getfield 192, 3) := by decide +kernel
theorem dX8_digest_23 : decode cX8_digest 23 = .ok (.ifCond .le 7, 3) := by decide +kernel
theorem dX8_digest_26 : decode cX8_digest 26 = .ok (.iconst 0, 1) := by decide +kernel
theorem dX8_digest_27 : decode cX8_digest 27 = .ok (.goto 10, 3) := by decide +kernel
theorem dX8_digest_30 : decode cX8_digest 30 = .ok (.aload_n 0, 1) := by decide +kernel
theorem dX8_digest_31 : decode cX8_digest 31 = .ok (.getfield 93, 3) := by decide +kernel
theorem dX8_digest_34 : decode cX8_digest 34 = .ok (.iload_n 1, 1) := by decide +kernel
theorem dX8_digest_35 : decode cX8_digest 35 = .ok (.iaload, 1) := by decide +kernel
theorem dX8_digest_36 : decode cX8_digest 36 = .ok (.i2b, 1) := by decide +kernel
theorem dX8_digest_37 : decode cX8_digest 37 = .ok (.ireturn, 1) := by decide +kernel
set_option maxRecDepth 20000 in
theorem ggX8_about_X8_isRow : GoodIn wsX8_about wsX8_isRow := goodIn_r _ [12, 13, 78, 79, 80, 81, 82, 83, 84, 85, 86, 87, 88, 89, 90, 91, 92, 93, 94, 95, 96, 97, 98, 99, 100, 101, 102, 103, 104, 105, 106, 107, 108, 109, 110, 111, 112, 113, 114, 115, 116, 117, 118] (by decide +kernel) (by decide +kernel)
set_option maxRecDepth 20000 in
theorem gX8_about_X8_isRow : GoodIn wsX8_about (wsV RX8 202 RX8 yX8_isRow wsX8_isRow) := goodIn_app (goodIn_of _ (by decide +kernel)) ggX8_about_X8_isRow
set_option maxRecDepth 20000 in
theorem ggX8_about_X8_rightKeys : GoodIn wsX8_about wsX8_rightKeys := goodIn_r _ [17, 18, 4, 19, 20, 21, 22, 23, 11, 24, 25, 26, 27, 28, 29, 30, 31, 32, 33, 34, 35, 36, 37, 2, 3, 38, 39, 40, 41, 42, 5, 43, 44, 6, 45, 46, 47, 7, 48, 49, 50, 51, 52, 53, 54, 55, 56, 57, 58, 59, 60, 61, 62, 63, 64, 65, 66, 67, 68, 69, 70, 71, 72, 73, 74, 78, 79, 80, 81, 82, 83, 84, 85, 86, 87, 88, 89, 90, 91, 92, 93, 94, 95, 96, 97, 98, 99, 100, 101, 102, 103, 104, 105, 106, 107, 108, 109, 110, 111, 112, 113, 114, 115, 116, 117, 118] (by decide +kernel) (by decide +kernel)
set_option maxRecDepth 20000 in
theorem gX8_about_X8_rightKeys : GoodIn wsX8_about (wsV RX8 265 RX8 yX8_rightKeys wsX8_rightKeys) := goodIn_app (goodIn_of _ (by decide +kernel)) ggX8_about_X8_rightKeys
set_option maxRecDepth 20000 in
theorem ggX8_about_X8_bits : GoodIn wsX8_about wsX8_bits := goodIn_r _ [77] (by decide +kernel) (by decide +kernel)
set_option maxRecDepth 20000 in
theorem gX8_about_X8_bits : GoodIn wsX8_about (va_wsS RX8 268 yX8_bits wsX8_bits) := goodIn_app (goodIn_of _ (by decide +kernel)) ggX8_about_X8_bits
theorem dX8_about_0 : decode cX8_about 0 = .ok (.aload_n 0, 1) := by decide +kernel
theorem dX8_about_1 : decode cX8_about 1 = .ok (.iconst 0, 1) := by decide +kernel
theorem dX8_about_2 : decode cX8_about 2 = .ok (.putfield 192, 3) := by decide +kernel
theorem dX8_about_5 : decode cX8_about 5 = .ok (.aload_n 0, 1) := by decide +kernel
theorem dX8_about_6 : decode cX8_about 6 = .ok (.iload_n 1, 1) := by decide +kernel
theorem dX8_about_7 : decode cX8_about 7 = .ok (.invokevirtual 202, 3) := by decide +kernel
theorem dX8_about_10 : decode cX8_about 10 = .ok (.ifCond .ne 5, 3) := by decide +kernel
theorem dX8_about_13 : decode cX8_about 13 = .ok (.iconst (-1), 1) := by decide +kernel
theorem dX8_about_14 : decode cX8_about 14 = .ok (.ireturn, 1) := by decide +kernel
theorem dX8_about_15 : decode cX8_about 15 = .ok (.iload_n 2, 1) := by decide +kernel
theorem dX8_about_16 : decode cX8_about 16 = .ok (.tableswitch 95 0 6 #[44, 51, 58, 65, 74, 81, 88], 44) := by decide +kernel
theorem dX8_about_60 : decode cX8_about 60 = .ok (.aload_n 0, 1) := by decide +kernel
theorem dX8_about_61 : decode cX8_about 61 = .ok (.getfield 33, 3) := by decide +kernel
theorem dX8_about_64 : decode cX8_about 64 = .ok (.iload_n 1, 1) := by decide +kernel
theorem dX8_about_65 : decode cX8_about 65 = .ok (.iaload, 1) := by decide +kernel
theorem dX8_about_66 : decode cX8_about 66 = .ok (.ireturn, 1) := by decide +kernel
theorem dX8_about_67 : decode cX8_about 67 = .ok (.aload_n 0, 1) := by decide +kernel
theorem dX8_about_68 : decode cX8_about 68 = .ok (.getfield 36, 3) := by decide +kernel
theorem dX8_about_71 : decode cX8_about 71 = .ok (.iload_n 1, 1) := by decide +kernel
theorem dX8_about_72 : decode cX8_about 72 = .ok (.iaload, 1) := by decide +kernel
theorem dX8_about_73 : decode cX8_about 73 = .ok (.ireturn, 1) := by decide +kernel
theorem dX8_about_74 : decode cX8_about 74 = .ok (.aload_n 0, 1) := by decide +kernel
theorem dX8_about_75 : decode cX8_about 75 = .ok (.getfield 75, 3) := by decide +kernel
theorem dX8_about_78 : decode cX8_about 78 = .ok (.iload_n 1, 1) := by decide +kernel
theorem dX8_about_79 : decode cX8_about 79 = .ok (.iaload, 1) := by decide +kernel
theorem dX8_about_80 : decode cX8_about 80 = .ok (.ireturn, 1) := by decide +kernel
theorem dX8_about_81 : decode cX8_about 81 = .ok (.aload_n 0, 1) := by decide +kernel
theorem dX8_about_82 : decode cX8_about 82 = .ok (.iload_n 1, 1) := by decide +kernel
theorem dX8_about_83 : decode cX8_about 83 = .ok (.invokevirtual 265, 3) := by decide +kernel
theorem dX8_about_86 : decode cX8_about 86 = .ok (.invokestatic 268, 3) := by decide +kernel
theorem dX8_about_89 : decode cX8_about 89 = .ok (.ireturn, 1) := by decide +kernel
theorem dX8_about_90 : decode cX8_about 90 = .ok (.aload_n 0, 1) := by decide +kernel
theorem dX8_about_91 : decode cX8_about 91 = .ok (.getfield 48, 3) := by decide +kernel
theorem dX8_about_94 : decode cX8_about 94 = .ok (.iload_n 1, 1) := by decide +kernel
theorem dX8_about_95 : decode cX8_about 95 = .ok (.iaload, 1) := by decide +kernel
theorem dX8_about_96 : decode cX8_about 96 = .ok (.ireturn, 1) := by decide +kernel
theorem dX8_about_97 : decode cX8_about 97 = .ok (.aload_n 0, 1) := by decide +kernel
theorem dX8_about_98 : decode cX8_about 98 = .ok (.getfield 57, 3) := by decide +kernel
theorem dX8_about_101 : decode cX8_about 101 = .ok (.iload_n 1, 1) := by decide +kernel
theorem dX8_about_102 : decode cX8_about 102 = .ok (.iaload, 1) := by decide +kernel
theorem dX8_about_103 : decode cX8_about 103 = .ok (.ireturn, 1) := by decide +kernel
theorem dX8_about_104 : decode cX8_about 104 = .ok (.aload_n 0, 1) := by decide +kernel
theorem dX8_about_105 : decode cX8_about 105 = .ok (.getfield 69, 3) := by decide +kernel
theorem dX8_about_108 : decode cX8_about 108 = .ok (.iload_n 1, 1) := by decide +kernel
theorem dX8_about_109 : decode cX8_about 109 = .ok (.iaload, 1) := by decide +kernel
theorem dX8_about_110 : decode cX8_about 110 = .ok (.ireturn, 1) := by decide +kernel
theorem dX8_about_111 : decode cX8_about 111 = .ok (.iconst (-1), 1) := by decide +kernel
theorem dX8_about_112 : decode cX8_about 112 = .ok (.ireturn, 1) := by decide +kernel
