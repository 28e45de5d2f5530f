theorem dX0_init_0 : decode cX0_init 0 = .ok (.aload_n 0, 1) := by decide +kernel
theorem dX0_init_1 : decode cX0_init 1 = .ok (.invokespecial 3, 3) := by decide +kernel
theorem dX0_init_4 : decode cX0_init 4 = .ok (.aload_n 0, 1) := by decide +kernel
theorem dX0_init_5 : decode cX0_init 5 = .ok (.bipush 10, 2) := by decide +kernel
theorem dX0_init_7 : decode cX0_init 7 = .ok (.anewarray 9, 3) := by decide +kernel
theorem dX0_init_10 : decode cX0_init 10 = .ok (.putfield 11, 3) := by decide +kernel
theorem dX0_init_13 : decode cX0_init 13 = .ok (.aload_n 0, 1) := by decide +kernel
theorem dX0_init_14 : decode cX0_init 14 = .ok (.iconst 0, 1) := by decide +kernel
theorem dX0_init_15 : decode cX0_init 15 = .ok (.putfield 17, 3) := by decide +kernel
theorem dX0_init_18 : decode cX0_init 18 = .ok (.aload_n 0, 1) := by decide +kernel
theorem dX0_init_19 : decode cX0_init 19 = .ok (.iconst 0, 1) := by decide +kernel
theorem dX0_init_20 : decode cX0_init 20 = .ok (.putfield 21, 3) := by decide +kernel
theorem dX0_init_23 : decode cX0_init 23 = .ok (.return_, 1) := by decide +kernel
set_option maxRecDepth 20000 in
theorem ggX0_currentOf_X7_isRole : GoodIn wsX0_currentOf wsX7_isRole := goodIn_r _ [4] (by decide +kernel) (by decide +kernel)
set_option maxRecDepth 20000 in
theorem gX0_currentOf_X7_isRole_n24 : GoodIn wsX0_currentOf (wsX7_isRole) := ggX0_currentOf_X7_isRole
theorem dX0_currentOf_0 : decode cX0_currentOf 0 = .ok (.iload_n 1, 1) := by decide +kernel
theorem dX0_currentOf_1 : decode cX0_currentOf 1 = .ok (.invokestatic 24, 3) := by decide +kernel
theorem dX0_currentOf_4 : decode cX0_currentOf 4 = .ok (.ifCond .eq 12, 3) := by decide +kernel
theorem dX0_currentOf_7 : decode cX0_currentOf 7 = .ok (.aload_n 0, 1) := by decide +kernel
theorem dX0_currentOf_8 : decode cX0_currentOf 8 = .ok (.getfield 11, 3) := by decide +kernel
theorem dX0_currentOf_11 : decode cX0_currentOf 11 = .ok (.iload_n 1, 1) := by decide +kernel
theorem dX0_currentOf_12 : decode cX0_currentOf 12 = .ok (.aaload, 1) := by decide +kernel
theorem dX0_currentOf_13 : decode cX0_currentOf 13 = .ok (.goto 4, 3) := by decide +kernel
theorem dX0_currentOf_16 : decode cX0_currentOf 16 = .ok (.aconst_null, 1) := by decide +kernel
theorem dX0_currentOf_17 : decode cX0_currentOf 17 = .ok (.areturn, 1) := by decide +kernel
set_option maxRecDepth 20000 in
theorem ggX0_take_X7_isRole : GoodIn wsX0_take wsX7_isRole := goodIn_r _ [4] (by decide +kernel) (by decide +kernel)
set_option maxRecDepth 20000 in
theorem gX0_take_X7_isRole_n24 : GoodIn wsX0_take (wsX7_isRole) := ggX0_take_X7_isRole
theorem dX0_take_0 : decode cX0_take 0 = .ok (.aload_n 1, 1) := by decide +kernel
theorem dX0_take_1 : decode cX0_take 1 = .ok (.ifnull 23, 3) := by decide +kernel
theorem dX0_take_4 : decode cX0_take 4 = .ok (.aload_n 1, 1) := by decide +kernel
theorem dX0_take_5 : decode cX0_take 5 = .ok (.getfield 28, 3) := by decide +kernel
theorem dX0_take_8 : decode cX0_take 8 = .ok (.invokestatic 24, 3) := by decide +kernel
theorem dX0_take_11 : decode cX0_take 11 = .ok (.ifCond .eq 13, 3) := by decide +kernel
theorem dX0_take_14 : decode cX0_take 14 = .ok (.aload_n 0, 1) := by decide +kernel
theorem dX0_take_15 : decode cX0_take 15 = .ok (.getfield 11, 3) := by decide +kernel
theorem dX0_take_18 : decode cX0_take 18 = .ok (.aload_n 1, 1) := by decide +kernel
theorem dX0_take_19 : decode cX0_take 19 = .ok (.getfield 28, 3) := by decide +kernel
theorem dX0_take_22 : decode cX0_take 22 = .ok (.aload_n 1, 1) := by decide +kernel
theorem dX0_take_23 : decode cX0_take 23 = .ok (.aastore, 1) := by decide +kernel
theorem dX0_take_24 : decode cX0_take 24 = .ok (.return_, 1) := by decide +kernel
theorem dX0_learnRevoked_0 : decode cX0_learnRevoked 0 = .ok (.iconst 1, 1) := by decide +kernel
theorem dX0_learnRevoked_1 : decode cX0_learnRevoked 1 = .ok (.iload_n 1, 1) := by decide +kernel
theorem dX0_learnRevoked_2 : decode cX0_learnRevoked 2 = .ok (.ishl, 1) := by decide +kernel
theorem dX0_learnRevoked_3 : decode cX0_learnRevoked 3 = .ok (.istore_n 2, 1) := by decide +kernel
theorem dX0_learnRevoked_4 : decode cX0_learnRevoked 4 = .ok (.aload_n 0, 1) := by decide +kernel
theorem dX0_learnRevoked_5 : decode cX0_learnRevoked 5 = .ok (.getfield 17, 3) := by decide +kernel
theorem dX0_learnRevoked_8 : decode cX0_learnRevoked 8 = .ok (.iload_n 2, 1) := by decide +kernel
theorem dX0_learnRevoked_9 : decode cX0_learnRevoked 9 = .ok (.iand, 1) := by decide +kernel
theorem dX0_learnRevoked_10 : decode cX0_learnRevoked 10 = .ok (.ifCond .eq 5, 3) := by decide +kernel
theorem dX0_learnRevoked_13 : decode cX0_learnRevoked 13 = .ok (.iconst 0, 1) := by decide +kernel
theorem dX0_learnRevoked_14 : decode cX0_learnRevoked 14 = .ok (.ireturn, 1) := by decide +kernel
theorem dX0_learnRevoked_15 : decode cX0_learnRevoked 15 = .ok (.aload_n 0, 1) := by decide +kernel
theorem dX0_learnRevoked_16 : decode cX0_learnRevoked 16 = .ok (.dup, 1) := by decide +kernel
theorem dX0_learnRevoked_17 : decode cX0_learnRevoked 17 = .ok (.getfield 17, 3) := by decide +kernel
theorem dX0_learnRevoked_20 : decode cX0_learnRevoked 20 = .ok (.iload_n 2, 1) := by decide +kernel
theorem dX0_learnRevoked_21 : decode cX0_learnRevoked 21 = .ok (.ior, 1) := by decide +kernel
theorem dX0_learnRevoked_22 : decode cX0_learnRevoked 22 = .ok (.putfield 17, 3) := by decide +kernel
theorem dX0_learnRevoked_25 : decode cX0_learnRevoked 25 = .ok (.iconst 1, 1) := by decide +kernel
theorem dX0_learnRevoked_26 : decode cX0_learnRevoked 26 = .ok (.ireturn, 1) := by decide +kernel
set_option maxRecDepth 20000 in
theorem ggX0_firstBrokenRule_X0_currentOf : GoodIn wsX0_firstBrokenRule wsX0_currentOf := goodIn_r _ [6, 7, 8, 9, 10, 63, 64, 65] (by decide +kernel) (by decide +kernel)
set_option maxRecDepth 20000 in
theorem gX0_firstBrokenRule_X0_currentOf : GoodIn wsX0_firstBrokenRule (wsV RX0 31 RX0 yX0_currentOf wsX0_currentOf) := goodIn_app (goodIn_of _ (by decide +kernel)) ggX0_firstBrokenRule_X0_currentOf
set_option maxRecDepth 20000 in
theorem ggX0_firstBrokenRule_X4_isAliveAt : GoodIn wsX0_firstBrokenRule wsX4_isAliveAt := goodIn_r _ [15, 16, 66, 67, 68, 69, 70, 71, 72, 73, 74, 75, 76, 77, 78] (by decide +kernel) (by decide +kernel)
set_option maxRecDepth 20000 in
theorem gX0_firstBrokenRule_X4_isAliveAt : GoodIn wsX0_firstBrokenRule (wsV RX0 35 RX4 yX4_isAliveAt wsX4_isAliveAt) := goodIn_app (goodIn_of _ (by decide +kernel)) ggX0_firstBrokenRule_X4_isAliveAt
set_option maxRecDepth 20000 in
theorem ggX0_firstBrokenRule_X0_hasQuorum : GoodIn wsX0_firstBrokenRule wsX0_hasQuorum := goodIn_r _ [19, 20, 21, 22, 23, 24, 25, 26, 8, 9, 10, 27, 28, 29, 30, 31, 32, 33, 66, 67, 68, 69, 70, 71, 72, 73, 74, 75, 76, 77, 78, 79, 80] (by decide +kernel) (by decide +kernel)
set_option maxRecDepth 20000 in
theorem gX0_firstBrokenRule_X0_hasQuorum : GoodIn wsX0_firstBrokenRule (va_wsS RX0 39 yX0_hasQuorum wsX0_hasQuorum) := goodIn_app (goodIn_of _ (by decide +kernel)) ggX0_firstBrokenRule_X0_hasQuorum
set_option maxRecDepth 20000 in
theorem ggX0_firstBrokenRule_X0_hasFollowingVersion : GoodIn wsX0_firstBrokenRule wsX0_hasFollowingVersion := goodIn_r _ [37, 2, 3, 4, 5, 6, 7, 8, 9, 10, 66, 67, 68, 69, 70, 71, 72, 73, 74, 75, 76, 77, 78, 63, 64, 65] (by decide +kernel) (by decide +kernel)
set_option maxRecDepth 20000 in
theorem gX0_firstBrokenRule_X0_hasFollowingVersion : GoodIn wsX0_firstBrokenRule (wsV RX0 43 RX0 yX0_hasFollowingVersion wsX0_hasFollowingVersion) := goodIn_app (goodIn_of _ (by decide +kernel)) ggX0_firstBrokenRule_X0_hasFollowingVersion
set_option maxRecDepth 20000 in
theorem ggX0_firstBrokenRule_X0_isToldAsNeeded : GoodIn wsX0_firstBrokenRule wsX0_isToldAsNeeded := goodIn_r _ [41, 2, 3, 4, 5, 6, 7, 8, 9, 10, 11, 12, 13, 14, 15, 16, 42, 43, 44, 45, 46, 47, 48, 49, 50, 51, 52, 53, 66, 67, 68, 69, 70, 71, 72, 73, 74, 75, 76, 77, 78, 63, 64, 65, 81, 82, 83] (by decide +kernel) (by decide +kernel)
set_option maxRecDepth 20000 in
theorem gX0_firstBrokenRule_X0_isToldAsNeeded : GoodIn wsX0_firstBrokenRule (wsV RX0 47 RX0 yX0_isToldAsNeeded wsX0_isToldAsNeeded) := goodIn_app (goodIn_of _ (by decide +kernel)) ggX0_firstBrokenRule_X0_isToldAsNeeded
set_option maxRecDepth 20000 in
theorem ggX0_firstBrokenRule_X0_keepsWhatWasTold : GoodIn wsX0_firstBrokenRule wsX0_keepsWhatWasTold := goodIn_r _ [57, 2, 3, 4, 5, 6, 7, 8, 9, 10, 58, 59, 60, 45, 61, 47, 53, 48, 62, 43, 44, 46, 49, 50, 51, 52, 66, 67, 68, 69, 70, 71, 72, 73, 74, 75, 76, 77, 78, 63, 64, 65, 81, 82, 83] (by decide +kernel) (by decide +kernel)
set_option maxRecDepth 20000 in
theorem gX0_firstBrokenRule_X0_keepsWhatWasTold : GoodIn wsX0_firstBrokenRule (wsV RX0 51 RX0 yX0_keepsWhatWasTold wsX0_keepsWhatWasTold) := goodIn_app (goodIn_of _ (by decide +kernel)) ggX0_firstBrokenRule_X0_keepsWhatWasTold
theorem dX0_firstBrokenRule_0 : decode cX0_firstBrokenRule 0 = .ok (.aload_n 1, 1) := by decide +kernel
theorem dX0_firstBrokenRule_1 : decode cX0_firstBrokenRule 1 = .ok (.ifnonnull 5, 3) := by decide +kernel
theorem dX0_firstBrokenRule_4 : decode cX0_firstBrokenRule 4 = .ok (.iconst 1, 1) := by decide +kernel
theorem dX0_firstBrokenRule_5 : decode cX0_firstBrokenRule 5 = .ok (.ireturn, 1) := by decide +kernel
theorem dX0_firstBrokenRule_6 : decode cX0_firstBrokenRule 6 = .ok (.aload_n 0, 1) := by decide +kernel
theorem dX0_firstBrokenRule_7 : decode cX0_firstBrokenRule 7 = .ok (.iconst 0, 1) := by decide +kernel
theorem dX0_firstBrokenRule_8 : decode cX0_firstBrokenRule 8 = .ok (.invokevirtual 31, 3) := by decide +kernel
theorem dX0_firstBrokenRule_11 : decode cX0_firstBrokenRule 11 = .ok (.astore 5, 2) := by decide +kernel
theorem dX0_firstBrokenRule_13 : decode cX0_firstBrokenRule 13 = .ok (.iload 4, 2) := by decide +kernel
theorem dX0_firstBrokenRule_15 : decode cX0_firstBrokenRule 15 = .ok (.aload_n 0, 1) := by decide +kernel
theorem dX0_firstBrokenRule_16 : decode cX0_firstBrokenRule 16 = .ok (.getfield 17, 3) := by decide +kernel
theorem dX0_firstBrokenRule_19 : decode cX0_firstBrokenRule 19 = .ok (.iconst (-1), 1) := by decide +kernel
theorem dX0_firstBrokenRule_20 : decode cX0_firstBrokenRule 20 = .ok (.ixor, 1) := by decide +kernel
theorem dX0_firstBrokenRule_21 : decode cX0_firstBrokenRule 21 = .ok (.iand, 1) := by decide +kernel
theorem dX0_firstBrokenRule_22 : decode cX0_firstBrokenRule 22 = .ok (.istore 6, 2) := by decide +kernel
theorem dX0_firstBrokenRule_24 : decode cX0_firstBrokenRule 24 = .ok (.aload_n 1, 1) := by decide +kernel
theorem dX0_firstBrokenRule_25 : decode cX0_firstBrokenRule 25 = .ok (.getfield 28, 3) := by decide +kernel
theorem dX0_firstBrokenRule_28 : decode cX0_firstBrokenRule 28 = .ok (.ifCond .eq 19, 3) := by decide +kernel
theorem dX0_firstBrokenRule_31 : decode cX0_firstBrokenRule 31 = .ok (.aload 5, 2) := by decide +kernel
theorem dX0_firstBrokenRule_33 : decode cX0_firstBrokenRule 33 = .ok (.ifnull 12, 3) := by decide +kernel
theorem dX0_firstBrokenRule_36 : decode cX0_firstBrokenRule 36 = .ok (.aload 5, 2) := by decide +kernel
theorem dX0_firstBrokenRule_38 : decode cX0_firstBrokenRule 38 = .ok (.lload_n 2, 1) := by decide +kernel
theorem dX0_firstBrokenRule_39 : decode cX0_firstBrokenRule 39 = .ok (.invokevirtual 35, 3) := by decide +kernel
theorem dX0_firstBrokenRule_42 : decode cX0_firstBrokenRule 42 = .ok (.ifCond .ne 5, 3) := by decide +kernel
theorem dX0_firstBrokenRule_45 : decode cX0_firstBrokenRule 45 = .ok (.iconst 2, 1) := by decide +kernel
theorem dX0_firstBrokenRule_46 : decode cX0_firstBrokenRule 46 = .ok (.ireturn, 1) := by decide +kernel
theorem dX0_firstBrokenRule_47 : decode cX0_firstBrokenRule 47 = .ok (.aload 5, 2) := by decide +kernel
theorem dX0_firstBrokenRule_49 : decode cX0_firstBrokenRule 49 = .ok (.ifnull 16, 3) := by decide +kernel
theorem dX0_firstBrokenRule_52 : decode cX0_firstBrokenRule 52 = .ok (.aload_n 1, 1) := by decide +kernel
theorem dX0_firstBrokenRule_53 : decode cX0_firstBrokenRule 53 = .ok (.aload 5, 2) := by decide +kernel
theorem dX0_firstBrokenRule_55 : decode cX0_firstBrokenRule 55 = .ok (.iload 6, 2) := by decide +kernel
theorem dX0_firstBrokenRule_57 : decode cX0_firstBrokenRule 57 = .ok (.invokestatic 39, 3) := by decide +kernel
theorem dX0_firstBrokenRule_60 : decode cX0_firstBrokenRule 60 = .ok (.ifCond .ne 5, 3) := by decide +kernel
theorem dX0_firstBrokenRule_63 : decode cX0_firstBrokenRule 63 = .ok (.iconst 3, 1) := by decide +kernel
theorem dX0_firstBrokenRule_64 : decode cX0_firstBrokenRule 64 = .ok (.ireturn, 1) := by decide +kernel
theorem dX0_firstBrokenRule_65 : decode cX0_firstBrokenRule 65 = .ok (.aload_n 1, 1) := by decide +kernel
theorem dX0_firstBrokenRule_66 : decode cX0_firstBrokenRule 66 = .ok (.getfield 28, 3) := by decide +kernel
theorem dX0_firstBrokenRule_69 : decode cX0_firstBrokenRule 69 = .ok (.ifCond .ne 15, 3) := by decide +kernel
theorem dX0_firstBrokenRule_72 : decode cX0_firstBrokenRule 72 = .ok (.aload_n 1, 1) := by decide +kernel
theorem dX0_firstBrokenRule_73 : decode cX0_firstBrokenRule 73 = .ok (.aload_n 1, 1) := by decide +kernel
theorem dX0_firstBrokenRule_74 : decode cX0_firstBrokenRule 74 = .ok (.iload 6, 2) := by decide +kernel
theorem dX0_firstBrokenRule_76 : decode cX0_firstBrokenRule 76 = .ok (.invokestatic 39, 3) := by decide +kernel
theorem dX0_firstBrokenRule_79 : decode cX0_firstBrokenRule 79 = .ok (.ifCond .ne 5, 3) := by decide +kernel
theorem dX0_firstBrokenRule_82 : decode cX0_firstBrokenRule 82 = .ok (.iconst 4, 1) := by decide +kernel
theorem dX0_firstBrokenRule_83 : decode cX0_firstBrokenRule 83 = .ok (.ireturn, 1) := by decide +kernel
theorem dX0_firstBrokenRule_84 : decode cX0_firstBrokenRule 84 = .ok (.aload_n 0, 1) := by decide +kernel
theorem dX0_firstBrokenRule_85 : decode cX0_firstBrokenRule 85 = .ok (.aload_n 1, 1) := by decide +kernel
theorem dX0_firstBrokenRule_86 : decode cX0_firstBrokenRule 86 = .ok (.invokevirtual 43, 3) := by decide +kernel
theorem dX0_firstBrokenRule_89 : decode cX0_firstBrokenRule 89 = .ok (.ifCond .ne 5, 3) := by decide +kernel
theorem dX0_firstBrokenRule_92 : decode cX0_firstBrokenRule 92 = .ok (.iconst 5, 1) := by decide +kernel
theorem dX0_firstBrokenRule_93 : decode cX0_firstBrokenRule 93 = .ok (.ireturn, 1) := by decide +kernel
theorem dX0_firstBrokenRule_94 : decode cX0_firstBrokenRule 94 = .ok (.aload_n 1, 1) := by decide +kernel
theorem dX0_firstBrokenRule_95 : decode cX0_firstBrokenRule 95 = .ok (.lload_n 2, 1) := by decide +kernel
theorem dX0_firstBrokenRule_96 : decode cX0_firstBrokenRule 96 = .ok (.invokevirtual 35, 3) := by decide +kernel
theorem dX0_firstBrokenRule_99 : decode cX0_firstBrokenRule 99 = .ok (.ifCond .ne 6, 3) := by decide +kernel
theorem dX0_firstBrokenRule_102 : decode cX0_firstBrokenRule 102 = .ok (.bipush 6, 2) := by decide +kernel
theorem dX0_firstBrokenRule_104 : decode cX0_firstBrokenRule 104 = .ok (.ireturn, 1) := by decide +kernel
theorem dX0_firstBrokenRule_105 : decode cX0_firstBrokenRule 105 = .ok (.aload_n 0, 1) := by decide +kernel
theorem dX0_firstBrokenRule_106 : decode cX0_firstBrokenRule 106 = .ok (.aload_n 1, 1) := by decide +kernel
theorem dX0_firstBrokenRule_107 : decode cX0_firstBrokenRule 107 = .ok (.lload_n 2, 1) := by decide +kernel
theorem dX0_firstBrokenRule_108 : decode cX0_firstBrokenRule 108 = .ok (.invokevirtual 47, 3) := by decide +kernel
theorem dX0_firstBrokenRule_111 : decode cX0_firstBrokenRule 111 = .ok (.ifCond .ne 6, 3) := by decide +kernel
theorem dX0_firstBrokenRule_114 : decode cX0_firstBrokenRule 114 = .ok (.bipush 7, 2) := by decide +kernel
theorem dX0_firstBrokenRule_116 : decode cX0_firstBrokenRule 116 = .ok (.ireturn, 1) := by decide +kernel
theorem dX0_firstBrokenRule_117 : decode cX0_firstBrokenRule 117 = .ok (.aload_n 0, 1) := by decide +kernel
theorem dX0_firstBrokenRule_118 : decode cX0_firstBrokenRule 118 = .ok (.aload_n 1, 1) := by decide +kernel
theorem dX0_firstBrokenRule_119 : decode cX0_firstBrokenRule 119 = .ok (.invokevirtual 51, 3) := by decide +kernel
theorem dX0_firstBrokenRule_122 : decode cX0_firstBrokenRule 122 = .ok (.ifCond .eq 7, 3) := by decide +kernel
theorem dX0_firstBrokenRule_125 : decode cX0_firstBrokenRule 125 = .ok (.iconst 0, 1) := by decide +kernel
theorem dX0_firstBrokenRule_126 : decode cX0_firstBrokenRule 126 = .ok (.goto 5, 3) := by decide +kernel
theorem dX0_firstBrokenRule_129 : decode cX0_firstBrokenRule 129 = .ok (.bipush 8, 2) := by decide +kernel
theorem dX0_firstBrokenRule_131 : decode cX0_firstBrokenRule 131 = .ok (.ireturn, 1) := by decide +kernel
set_option maxRecDepth 20000 in
theorem ggX0_hasQuorum_X3_isMetBy : GoodIn wsX0_hasQuorum wsX3_isMetBy := goodIn_r _ [5, 6, 7, 8, 9, 10, 11, 12, 13, 14, 15, 16, 17, 31, 32] (by decide +kernel) (by decide +kernel)
set_option maxRecDepth 20000 in
theorem gX0_hasQuorum_X3_isMetBy : GoodIn wsX0_hasQuorum (wsV RX0 61 RX3 yX3_isMetBy wsX3_isMetBy) := goodIn_app (goodIn_of _ (by decide +kernel)) ggX0_hasQuorum_X3_isMetBy
theorem dX0_hasQuorum_0 : decode cX0_hasQuorum 0 = .ok (.aload_n 1, 1) := by decide +kernel
theorem dX0_hasQuorum_1 : decode cX0_hasQuorum 1 = .ok (.getfield 54, 3) := by decide +kernel
theorem dX0_hasQuorum_4 : decode cX0_hasQuorum 4 = .ok (.aload_n 0, 1) := by decide +kernel
theorem dX0_hasQuorum_5 : decode cX0_hasQuorum 5 = .ok (.getfield 58, 3) := by decide +kernel
theorem dX0_hasQuorum_8 : decode cX0_hasQuorum 8 = .ok (.iload_n 2, 1) := by decide +kernel
theorem dX0_hasQuorum_9 : decode cX0_hasQuorum 9 = .ok (.iand, 1) := by decide +kernel
theorem dX0_hasQuorum_10 : decode cX0_hasQuorum 10 = .ok (.aload_n 0, 1) := by decide +kernel
theorem dX0_hasQuorum_11 : decode cX0_hasQuorum 11 = .ok (.getfield 28, 3) := by decide +kernel
theorem dX0_hasQuorum_14 : decode cX0_hasQuorum 14 = .ok (.invokevirtual 61, 3) := by decide +kernel
theorem dX0_hasQuorum_17 : decode cX0_hasQuorum 17 = .ok (.ireturn, 1) := by decide +kernel
set_option maxRecDepth 20000 in
theorem ggX0_hasFollowingVersion_X0_currentOf : GoodIn wsX0_hasFollowingVersion wsX0_currentOf := goodIn_r _ [5, 6, 7, 8, 9, 23, 24, 25] (by decide +kernel) (by decide +kernel)
set_option maxRecDepth 20000 in
theorem gX0_hasFollowingVersion_X0_currentOf : GoodIn wsX0_hasFollowingVersion (wsV RX0 31 RX0 yX0_currentOf wsX0_currentOf) := goodIn_app (goodIn_of _ (by decide +kernel)) ggX0_hasFollowingVersion_X0_currentOf
theorem dX0_hasFollowingVersion_0 : decode cX0_hasFollowingVersion 0 = .ok (.aload_n 0, 1) := by decide +kernel
theorem dX0_hasFollowingVersion_1 : decode cX0_hasFollowingVersion 1 = .ok (.aload_n 1, 1) := by decide +kernel
theorem dX0_hasFollowingVersion_2 : decode cX0_hasFollowingVersion 2 = .ok (.getfield 28, 3) := by decide +kernel
theorem dX0_hasFollowingVersion_5 : decode cX0_hasFollowingVersion 5 = .ok (.invokevirtual 31, 3) := by decide +kernel
theorem dX0_hasFollowingVersion_8 : decode cX0_hasFollowingVersion 8 = .ok (.astore_n 2, 1) := by decide +kernel
theorem dX0_hasFollowingVersion_9 : decode cX0_hasFollowingVersion 9 = .ok (.aload_n 2, 1) := by decide +kernel
theorem dX0_hasFollowingVersion_10 : decode cX0_hasFollowingVersion 10 = .ok (.ifnonnull 5, 3) := by decide +kernel
theorem dX0_hasFollowingVersion_13 : decode cX0_hasFollowingVersion 13 = .ok (.iconst 1, 1) := by decide +kernel
theorem dX0_hasFollowingVersion_14 : decode cX0_hasFollowingVersion 14 = .ok (.ireturn, 1) := by decide +kernel
theorem dX0_hasFollowingVersion_15 : decode cX0_hasFollowingVersion 15 = .ok (.aload_n 1, 1) := by decide +kernel
theorem dX0_hasFollowingVersion_16 : decode cX0_hasFollowingVersion 16 = .ok (.getfield 28, 3) := by decide +kernel
theorem dX0_hasFollowingVersion_19 : decode cX0_hasFollowingVersion 19 = .ok (.ifCond .ne 24, 3) := by decide +kernel
theorem dX0_hasFollowingVersion_22 : decode cX0_hasFollowingVersion 22 = .ok (.aload_n 1, 1) := by decide +kernel
theorem dX0_hasFollowingVersion_23 : decode cX0_hasFollowingVersion 23 = .ok (.getfield 67, 3) := by decide +kernel
theorem dX0_hasFollowingVersion_26 : decode cX0_hasFollowingVersion 26 = .ok (.aload_n 2, 1) := by decide +kernel
theorem dX0_hasFollowingVersion_27 : decode cX0_hasFollowingVersion 27 = .ok (.getfield 67, 3) := by decide +kernel
theorem dX0_hasFollowingVersion_30 : decode cX0_hasFollowingVersion 30 = .ok (.iconst 1, 1) := by decide +kernel
theorem dX0_hasFollowingVersion_31 : decode cX0_hasFollowingVersion 31 = .ok (.iadd, 1) := by decide +kernel
theorem dX0_hasFollowingVersion_32 : decode cX0_hasFollowingVersion 32 = .ok (.if_icmp .ne 7, 3) := by decide +kernel
theorem dX0_hasFollowingVersion_35 : decode cX0_hasFollowingVersion 35 = .ok (.iconst 1, 1) := by decide +kernel
theorem dX0_hasFollowingVersion_36 : decode cX0_hasFollowingVersion 36 = .ok (.goto 23, 3) := by decide +kernel
theorem dX0_hasFollowingVersion_39 : decode cX0_hasFollowingVersion 39 = .ok (.iconst 0, 1) := by decide +kernel
theorem dX0_hasFollowingVersion_40 : decode cX0_hasFollowingVersion 40 = .ok (.goto 19, 3) := by decide +kernel
theorem dX0_hasFollowingVersion_43 : decode cX0_hasFollowingVersion 43 = .ok (.aload_n 1, 1) := by decide +kernel
theorem dX0_hasFollowingVersion_44 : decode cX0_hasFollowingVersion 44 = .ok (.getfield 67, 3) := by decide +kernel
theorem dX0_hasFollowingVersion_47 : decode cX0_hasFollowingVersion 47 = .ok (.aload_n 2, 1) := by decide +kernel
theorem dX0_hasFollowingVersion_48 : decode cX0_hasFollowingVersion 48 = .ok (.getfield 67, 3) := by decide +kernel
theorem dX0_hasFollowingVersion_51 : decode cX0_hasFollowingVersion 51 = .ok (.if_icmp .lt 7, 3) := by decide +kernel
theorem dX0_hasFollowingVersion_54 : decode cX0_hasFollowingVersion 54 = .ok (.iconst 1, 1) := by decide +kernel
theorem dX0_hasFollowingVersion_55 : decode cX0_hasFollowingVersion 55 = .ok (.goto 4, 3) := by decide +kernel
theorem dX0_hasFollowingVersion_58 : decode cX0_hasFollowingVersion 58 = .ok (.iconst 0, 1) := by decide +kernel
theorem dX0_hasFollowingVersion_59 : decode cX0_hasFollowingVersion 59 = .ok (.ireturn, 1) := by decide +kernel
set_option maxRecDepth 20000 in
theorem ggX0_isToldAsNeeded_X0_currentOf : GoodIn wsX0_isToldAsNeeded wsX0_currentOf := goodIn_r _ [5, 6, 7, 8, 9, 41, 42, 43] (by decide +kernel) (by decide +kernel)
set_option maxRecDepth 20000 in
theorem gX0_isToldAsNeeded_X0_currentOf : GoodIn wsX0_isToldAsNeeded (wsV RX0 31 RX0 yX0_currentOf wsX0_currentOf) := goodIn_app (goodIn_of _ (by decide +kernel)) ggX0_isToldAsNeeded_X0_currentOf
set_option maxRecDepth 20000 in
theorem ggX0_isToldAsNeeded_X4_isAliveAt : GoodIn wsX0_isToldAsNeeded wsX4_isAliveAt := goodIn_r _ [14, 15, 28, 29, 30, 31, 32, 33, 34, 35, 36, 37, 38, 39, 40] (by decide +kernel) (by decide +kernel)
set_option maxRecDepth 20000 in
theorem gX0_isToldAsNeeded_X4_isAliveAt : GoodIn wsX0_isToldAsNeeded (wsV RX0 35 RX4 yX4_isAliveAt wsX4_isAliveAt) := goodIn_app (goodIn_of _ (by decide +kernel)) ggX0_isToldAsNeeded_X4_isAliveAt
set_option maxRecDepth 20000 in
theorem ggX0_isToldAsNeeded_X6_versionOf : GoodIn wsX0_isToldAsNeeded wsX6_versionOf := goodIn_r _ [20, 21, 22, 23, 24, 25, 19, 26, 27, 44, 45, 46] (by decide +kernel) (by decide +kernel)
set_option maxRecDepth 20000 in
theorem gX0_isToldAsNeeded_X6_versionOf : GoodIn wsX0_isToldAsNeeded (wsV RX0 74 RX6 yX6_versionOf wsX6_versionOf) := goodIn_app (goodIn_of _ (by decide +kernel)) ggX0_isToldAsNeeded_X6_versionOf
theorem dX0_isToldAsNeeded_0 : decode cX0_isToldAsNeeded 0 = .ok (.aload_n 1, 1) := by decide +kernel
theorem dX0_isToldAsNeeded_1 : decode cX0_isToldAsNeeded 1 = .ok (.getfield 28, 3) := by decide +kernel
theorem dX0_isToldAsNeeded_4 : decode cX0_isToldAsNeeded 4 = .ok (.ifCond .eq 11, 3) := by decide +kernel
theorem dX0_isToldAsNeeded_7 : decode cX0_isToldAsNeeded 7 = .ok (.aload_n 1, 1) := by decide +kernel
theorem dX0_isToldAsNeeded_8 : decode cX0_isToldAsNeeded 8 = .ok (.getfield 28, 3) := by decide +kernel
theorem dX0_isToldAsNeeded_11 : decode cX0_isToldAsNeeded 11 = .ok (.iconst 1, 1) := by decide +kernel
theorem dX0_isToldAsNeeded_12 : decode cX0_isToldAsNeeded 12 = .ok (.if_icmp .ne 5, 3) := by decide +kernel
theorem dX0_isToldAsNeeded_15 : decode cX0_isToldAsNeeded 15 = .ok (.iconst 1, 1) := by decide +kernel
theorem dX0_isToldAsNeeded_16 : decode cX0_isToldAsNeeded 16 = .ok (.ireturn, 1) := by decide +kernel
theorem dX0_isToldAsNeeded_17 : decode cX0_isToldAsNeeded 17 = .ok (.aload_n 0, 1) := by decide +kernel
theorem dX0_isToldAsNeeded_18 : decode cX0_isToldAsNeeded 18 = .ok (.aload_n 1, 1) := by decide +kernel
theorem dX0_isToldAsNeeded_19 : decode cX0_isToldAsNeeded 19 = .ok (.getfield 28, 3) := by decide +kernel
theorem dX0_isToldAsNeeded_22 : decode cX0_isToldAsNeeded 22 = .ok (.iconst 2, 1) := by decide +kernel
theorem dX0_isToldAsNeeded_23 : decode cX0_isToldAsNeeded 23 = .ok (.if_icmp .ne 7, 3) := by decide +kernel
theorem dX0_isToldAsNeeded_26 : decode cX0_isToldAsNeeded 26 = .ok (.iconst 1, 1) := by decide +kernel
theorem dX0_isToldAsNeeded_27 : decode cX0_isToldAsNeeded 27 = .ok (.goto 4, 3) := by decide +kernel
theorem dX0_isToldAsNeeded_30 : decode cX0_isToldAsNeeded 30 = .ok (.iconst 2, 1) := by decide +kernel
theorem dX0_isToldAsNeeded_31 : decode cX0_isToldAsNeeded 31 = .ok (.invokevirtual 31, 3) := by decide +kernel
theorem dX0_isToldAsNeeded_34 : decode cX0_isToldAsNeeded 34 = .ok (.astore 4, 2) := by decide +kernel
theorem dX0_isToldAsNeeded_36 : decode cX0_isToldAsNeeded 36 = .ok (.aload 4, 2) := by decide +kernel
theorem dX0_isToldAsNeeded_38 : decode cX0_isToldAsNeeded 38 = .ok (.ifnull 35, 3) := by decide +kernel
theorem dX0_isToldAsNeeded_41 : decode cX0_isToldAsNeeded 41 = .ok (.aload 4, 2) := by decide +kernel
theorem dX0_isToldAsNeeded_43 : decode cX0_isToldAsNeeded 43 = .ok (.lload_n 2, 1) := by decide +kernel
theorem dX0_isToldAsNeeded_44 : decode cX0_isToldAsNeeded 44 = .ok (.invokevirtual 35, 3) := by decide +kernel
theorem dX0_isToldAsNeeded_47 : decode cX0_isToldAsNeeded 47 = .ok (.ifCond .eq 26, 3) := by decide +kernel
theorem dX0_isToldAsNeeded_50 : decode cX0_isToldAsNeeded 50 = .ok (.aload 4, 2) := by decide +kernel
theorem dX0_isToldAsNeeded_52 : decode cX0_isToldAsNeeded 52 = .ok (.getfield 70, 3) := by decide +kernel
theorem dX0_isToldAsNeeded_55 : decode cX0_isToldAsNeeded 55 = .ok (.aload_n 1, 1) := by decide +kernel
theorem dX0_isToldAsNeeded_56 : decode cX0_isToldAsNeeded 56 = .ok (.getfield 28, 3) := by decide +kernel
theorem dX0_isToldAsNeeded_59 : decode cX0_isToldAsNeeded 59 = .ok (.invokevirtual 74, 3) := by decide +kernel
theorem dX0_isToldAsNeeded_62 : decode cX0_isToldAsNeeded 62 = .ok (.aload_n 1, 1) := by decide +kernel
theorem dX0_isToldAsNeeded_63 : decode cX0_isToldAsNeeded 63 = .ok (.getfield 67, 3) := by decide +kernel
theorem dX0_isToldAsNeeded_66 : decode cX0_isToldAsNeeded 66 = .ok (.if_icmp .ne 7, 3) := by decide +kernel
theorem dX0_isToldAsNeeded_69 : decode cX0_isToldAsNeeded 69 = .ok (.iconst 1, 1) := by decide +kernel
theorem dX0_isToldAsNeeded_70 : decode cX0_isToldAsNeeded 70 = .ok (.goto 4, 3) := by decide +kernel
theorem dX0_isToldAsNeeded_73 : decode cX0_isToldAsNeeded 73 = .ok (.iconst 0, 1) := by decide +kernel
theorem dX0_isToldAsNeeded_74 : decode cX0_isToldAsNeeded 74 = .ok (.ireturn, 1) := by decide +kernel
set_option maxRecDepth 20000 in
theorem ggX0_keepsWhatWasTold_X0_currentOf : GoodIn wsX0_keepsWhatWasTold wsX0_currentOf := goodIn_r _ [5, 6, 7, 8, 9, 39, 40, 41] (by decide +kernel) (by decide +kernel)
set_option maxRecDepth 20000 in
theorem gX0_keepsWhatWasTold_X0_currentOf : GoodIn wsX0_keepsWhatWasTold (wsV RX0 31 RX0 yX0_currentOf wsX0_currentOf) := goodIn_app (goodIn_of _ (by decide +kernel)) ggX0_keepsWhatWasTold_X0_currentOf
set_option maxRecDepth 20000 in
theorem ggX0_keepsWhatWasTold_X6_keepsAllOf : GoodIn wsX0_keepsWhatWasTold wsX6_keepsAllOf := goodIn_r _ [14, 15, 16, 17, 18, 19, 20, 13, 21, 22, 23, 24, 25, 42, 43, 44] (by decide +kernel) (by decide +kernel)
set_option maxRecDepth 20000 in
theorem gX0_keepsWhatWasTold_X6_keepsAllOf : GoodIn wsX0_keepsWhatWasTold (wsV RX0 80 RX6 yX6_keepsAllOf wsX6_keepsAllOf) := goodIn_app (goodIn_of _ (by decide +kernel)) ggX0_keepsWhatWasTold_X6_keepsAllOf
theorem dX0_keepsWhatWasTold_0 : decode cX0_keepsWhatWasTold 0 = .ok (.aload_n 1, 1) := by decide +kernel
theorem dX0_keepsWhatWasTold_1 : decode cX0_keepsWhatWasTold 1 = .ok (.getfield 28, 3) := by decide +kernel
theorem dX0_keepsWhatWasTold_4 : decode cX0_keepsWhatWasTold 4 = .ok (.iconst 2, 1) := by decide +kernel
theorem dX0_keepsWhatWasTold_5 : decode cX0_keepsWhatWasTold 5 = .ok (.if_icmp .eq 5, 3) := by decide +kernel
theorem dX0_keepsWhatWasTold_8 : decode cX0_keepsWhatWasTold 8 = .ok (.iconst 1, 1) := by decide +kernel
theorem dX0_keepsWhatWasTold_9 : decode cX0_keepsWhatWasTold 9 = .ok (.ireturn, 1) := by decide +kernel
theorem dX0_keepsWhatWasTold_10 : decode cX0_keepsWhatWasTold 10 = .ok (.aload_n 0, 1) := by decide +kernel
theorem dX0_keepsWhatWasTold_11 : decode cX0_keepsWhatWasTold 11 = .ok (.iconst 2, 1) := by decide +kernel
theorem dX0_keepsWhatWasTold_12 : decode cX0_keepsWhatWasTold 12 = .ok (.invokevirtual 31, 3) := by decide +kernel
theorem dX0_keepsWhatWasTold_15 : decode cX0_keepsWhatWasTold 15 = .ok (.astore_n 2, 1) := by decide +kernel
theorem dX0_keepsWhatWasTold_16 : decode cX0_keepsWhatWasTold 16 = .ok (.aload_n 2, 1) := by decide +kernel
theorem dX0_keepsWhatWasTold_17 : decode cX0_keepsWhatWasTold 17 = .ok (.ifnull 17, 3) := by decide +kernel
theorem dX0_keepsWhatWasTold_20 : decode cX0_keepsWhatWasTold 20 = .ok (.aload_n 1, 1) := by decide +kernel
theorem dX0_keepsWhatWasTold_21 : decode cX0_keepsWhatWasTold 21 = .ok (.getfield 70, 3) := by decide +kernel
theorem dX0_keepsWhatWasTold_24 : decode cX0_keepsWhatWasTold 24 = .ok (.aload_n 2, 1) := by decide +kernel
theorem dX0_keepsWhatWasTold_25 : decode cX0_keepsWhatWasTold 25 = .ok (.getfield 70, 3) := by decide +kernel
theorem dX0_keepsWhatWasTold_28 : decode cX0_keepsWhatWasTold 28 = .ok (.invokevirtual 80, 3) := by decide +kernel
theorem dX0_keepsWhatWasTold_31 : decode cX0_keepsWhatWasTold 31 = .ok (.ifCond .eq 7, 3) := by decide +kernel
theorem dX0_keepsWhatWasTold_34 : decode cX0_keepsWhatWasTold 34 = .ok (.iconst 1, 1) := by decide +kernel
theorem dX0_keepsWhatWasTold_35 : decode cX0_keepsWhatWasTold 35 = .ok (.goto 4, 3) := by decide +kernel
theorem dX0_keepsWhatWasTold_38 : decode cX0_keepsWhatWasTold 38 = .ok (.iconst 0, 1) := by decide +kernel
theorem dX0_keepsWhatWasTold_39 : decode cX0_keepsWhatWasTold 39 = .ok (.ireturn, 1) := by decide +kernel
set_option maxRecDepth 20000 in
theorem ggX0_roleOfPath_X0_search : GoodIn wsX0_roleOfPath wsX0_search := goodIn_r _ [6, 1, 7, 8, 9, 5, 10, 11, 12, 13, 14, 15, 16, 17, 18, 19, 20, 21, 22, 23, 24, 25, 26, 27, 28, 29, 30, 31, 32, 33, 34, 35, 36, 37, 38, 39, 40, 2, 3, 4, 44, 45, 46, 47, 41, 42, 43, 48, 49, 50, 51, 52, 53, 54, 55, 56, 57, 58, 59, 60] (by decide +kernel) (by decide +kernel)
set_option maxRecDepth 20000 in
theorem gX0_roleOfPath_X0_search : GoodIn wsX0_roleOfPath (wsV RX0 84 RX0 yX0_search wsX0_search) := goodIn_app (goodIn_of _ (by decide +kernel)) ggX0_roleOfPath_X0_search
theorem dX0_roleOfPath_0 : decode cX0_roleOfPath 0 = .ok (.aload_n 0, 1) := by decide +kernel
theorem dX0_roleOfPath_1 : decode cX0_roleOfPath 1 = .ok (.iconst 0, 1) := by decide +kernel
theorem dX0_roleOfPath_2 : decode cX0_roleOfPath 2 = .ok (.putfield 21, 3) := by decide +kernel
theorem dX0_roleOfPath_5 : decode cX0_roleOfPath 5 = .ok (.aload_n 0, 1) := by decide +kernel
theorem dX0_roleOfPath_6 : decode cX0_roleOfPath 6 = .ok (.iconst 3, 1) := by decide +kernel
theorem dX0_roleOfPath_7 : decode cX0_roleOfPath 7 = .ok (.iload_n 1, 1) := by decide +kernel
theorem dX0_roleOfPath_8 : decode cX0_roleOfPath 8 = .ok (.iconst 0, 1) := by decide +kernel
theorem dX0_roleOfPath_9 : decode cX0_roleOfPath 9 = .ok (.invokevirtual 84, 3) := by decide +kernel
theorem dX0_roleOfPath_12 : decode cX0_roleOfPath 12 = .ok (.istore_n 2, 1) := by decide +kernel
theorem dX0_roleOfPath_13 : decode cX0_roleOfPath 13 = .ok (.iload_n 2, 1) := by decide +kernel
theorem dX0_roleOfPath_14 : decode cX0_roleOfPath 14 = .ok (.bipush (-2), 2) := by decide +kernel
theorem dX0_roleOfPath_16 : decode cX0_roleOfPath 16 = .ok (.if_icmp .ne 7, 3) := by decide +kernel
theorem dX0_roleOfPath_19 : decode cX0_roleOfPath 19 = .ok (.iconst (-1), 1) := by decide +kernel
theorem dX0_roleOfPath_20 : decode cX0_roleOfPath 20 = .ok (.goto 4, 3) := by decide +kernel
theorem dX0_roleOfPath_23 : decode cX0_roleOfPath 23 = .ok (.iload_n 2, 1) := by decide +kernel
theorem dX0_roleOfPath_24 : decode cX0_roleOfPath 24 = .ok (.ireturn, 1) := by decide +kernel
set_option maxRecDepth 20000 in
theorem ggX0_search_X0_currentOf : GoodIn wsX0_search wsX0_currentOf := goodIn_r _ [6, 7, 8, 9, 10, 44, 45, 46] (by decide +kernel) (by decide +kernel)
set_option maxRecDepth 20000 in
theorem gX0_search_X0_currentOf : GoodIn wsX0_search (wsV RX0 31 RX0 yX0_currentOf wsX0_currentOf) := goodIn_app (goodIn_of _ (by decide +kernel)) ggX0_search_X0_currentOf
set_option maxRecDepth 20000 in
theorem ggX0_search_X4_hasPath : GoodIn wsX0_search wsX4_hasPath := goodIn_r _ [15, 16, 17, 47, 48, 49, 50, 51, 52, 53, 54, 55, 56, 57, 58, 59] (by decide +kernel) (by decide +kernel)
set_option maxRecDepth 20000 in
theorem gX0_search_X4_hasPath : GoodIn wsX0_search (wsV RX0 88 RX4 yX4_hasPath wsX4_hasPath) := goodIn_app (goodIn_of _ (by decide +kernel)) ggX0_search_X4_hasPath
set_option maxRecDepth 20000 in
theorem ggX0_search_X0_followDelegations : GoodIn wsX0_search wsX0_followDelegations := goodIn_r _ [21, 22, 9, 23, 24, 25, 26, 27, 28, 29, 30, 31, 32, 33, 34, 35, 5, 36, 1, 37, 38, 39, 0, 2, 3, 4, 6, 7, 8, 10, 11, 12, 13, 14, 15, 16, 17, 18, 19, 20, 40, 41, 42, 43, 44, 45, 46, 47, 48, 49, 50, 51, 52, 53, 54, 55, 56, 57, 58, 59] (by decide +kernel) (by decide +kernel)
set_option maxRecDepth 20000 in
theorem gX0_search_X0_followDelegations : GoodIn wsX0_search (wsV RX0 95 RX0 yX0_followDelegations wsX0_followDelegations) := goodIn_app (goodIn_of _ (by decide +kernel)) ggX0_search_X0_followDelegations
theorem dX0_search_0 : decode cX0_search 0 = .ok (.aload_n 0, 1) := by decide +kernel
theorem dX0_search_1 : decode cX0_search 1 = .ok (.iload_n 1, 1) := by decide +kernel
theorem dX0_search_2 : decode cX0_search 2 = .ok (.invokevirtual 31, 3) := by decide +kernel
theorem dX0_search_5 : decode cX0_search 5 = .ok (.astore 4, 2) := by decide +kernel
theorem dX0_search_7 : decode cX0_search 7 = .ok (.aload 4, 2) := by decide +kernel
theorem dX0_search_9 : decode cX0_search 9 = .ok (.ifnull 9, 3) := by decide +kernel
theorem dX0_search_12 : decode cX0_search 12 = .ok (.iload_n 3, 1) := by decide +kernel
theorem dX0_search_13 : decode cX0_search 13 = .ok (.bipush 10, 2) := by decide +kernel
theorem dX0_search_15 : decode cX0_search 15 = .ok (.if_icmp .lt 5, 3) := by decide +kernel
theorem dX0_search_18 : decode cX0_search 18 = .ok (.iconst (-1), 1) := by decide +kernel
theorem dX0_search_19 : decode cX0_search 19 = .ok (.ireturn, 1) := by decide +kernel
theorem dX0_search_20 : decode cX0_search 20 = .ok (.aload_n 0, 1) := by decide +kernel
theorem dX0_search_21 : decode cX0_search 21 = .ok (.dup, 1) := by decide +kernel
theorem dX0_search_22 : decode cX0_search 22 = .ok (.getfield 21, 3) := by decide +kernel
theorem dX0_search_25 : decode cX0_search 25 = .ok (.iconst 1, 1) := by decide +kernel
theorem dX0_search_26 : decode cX0_search 26 = .ok (.iload_n 1, 1) := by decide +kernel
theorem dX0_search_27 : decode cX0_search 27 = .ok (.ishl, 1) := by decide +kernel
theorem dX0_search_28 : decode cX0_search 28 = .ok (.ior, 1) := by decide +kernel
theorem dX0_search_29 : decode cX0_search 29 = .ok (.putfield 21, 3) := by decide +kernel
theorem dX0_search_32 : decode cX0_search 32 = .ok (.aload 4, 2) := by decide +kernel
theorem dX0_search_34 : decode cX0_search 34 = .ok (.iload_n 2, 1) := by decide +kernel
theorem dX0_search_35 : decode cX0_search 35 = .ok (.invokevirtual 88, 3) := by decide +kernel
theorem dX0_search_38 : decode cX0_search 38 = .ok (.ifCond .eq 5, 3) := by decide +kernel
theorem dX0_search_41 : decode cX0_search 41 = .ok (.iload_n 1, 1) := by decide +kernel
theorem dX0_search_42 : decode cX0_search 42 = .ok (.ireturn, 1) := by decide +kernel
theorem dX0_search_43 : decode cX0_search 43 = .ok (.aload_n 0, 1) := by decide +kernel
theorem dX0_search_44 : decode cX0_search 44 = .ok (.aload 4, 2) := by decide +kernel
theorem dX0_search_46 : decode cX0_search 46 = .ok (.getfield 91, 3) := by decide +kernel
theorem dX0_search_49 : decode cX0_search 49 = .ok (.iload_n 2, 1) := by decide +kernel
theorem dX0_search_50 : decode cX0_search 50 = .ok (.iload_n 3, 1) := by decide +kernel
theorem dX0_search_51 : decode cX0_search 51 = .ok (.invokevirtual 95, 3) := by decide +kernel
theorem dX0_search_54 : decode cX0_search 54 = .ok (.ireturn, 1) := by decide +kernel
set_option maxRecDepth 20000 in
theorem ggX0_followDelegations_X7_fits : GoodIn wsX0_followDelegations wsX7_fits := goodIn_r _ [3, 4, 5, 2, 6, 7, 8, 9, 10, 11, 12] (by decide +kernel) (by decide +kernel)
set_option maxRecDepth 20000 in
theorem gX0_followDelegations_X7_fits_n108 : GoodIn wsX0_followDelegations (wsX7_fits) := ggX0_followDelegations_X7_fits
set_option maxRecDepth 20000 in
theorem ggX0_followDelegations_X0_isSearched : GoodIn wsX0_followDelegations wsX0_isSearched := goodIn_r _ [17, 18, 44, 45, 46] (by decide +kernel) (by decide +kernel)
set_option maxRecDepth 20000 in
theorem gX0_followDelegations_X0_isSearched : GoodIn wsX0_followDelegations (wsV RX0 114 RX0 yX0_isSearched wsX0_isSearched) := goodIn_app (goodIn_of _ (by decide +kernel)) ggX0_followDelegations_X0_isSearched
set_option maxRecDepth 20000 in
theorem ggX0_followDelegations_X0_search : GoodIn wsX0_followDelegations wsX0_search := goodIn_r _ [22, 18, 23, 24, 25, 16, 26, 27, 28, 2, 29, 30, 31, 32, 33, 34, 35, 36, 37, 38, 39, 0, 1, 3, 4, 5, 6, 7, 8, 9, 10, 11, 12, 13, 14, 15, 17, 19, 20, 21, 40, 41, 42, 43, 44, 45, 46, 47, 48, 49, 50, 51, 52, 53, 54, 55, 56, 57, 58, 59] (by decide +kernel) (by decide +kernel)
set_option maxRecDepth 20000 in
theorem gX0_followDelegations_X0_search : GoodIn wsX0_followDelegations (wsV RX0 84 RX0 yX0_search wsX0_search) := goodIn_app (goodIn_of _ (by decide +kernel)) ggX0_followDelegations_X0_search
theorem dX0_followDelegations_0 : decode cX0_followDelegations 0 = .ok (.iconst 0, 1) := by decide +kernel
theorem dX0_followDelegations_1 : decode cX0_followDelegations 1 = .ok (.istore 4, 2) := by decide +kernel
theorem dX0_followDelegations_3 : decode cX0_followDelegations 3 = .ok (.iload 4, 2) := by decide +kernel
theorem dX0_followDelegations_5 : decode cX0_followDelegations 5 = .ok (.aload_n 1, 1) := by decide +kernel
theorem dX0_followDelegations_6 : decode cX0_followDelegations 6 = .ok (.getfield 99, 3) := by decide +kernel
theorem dX0_followDelegations_9 : decode cX0_followDelegations 9 = .ok (.if_icmp .ge 82, 3) := by decide +kernel
theorem dX0_followDelegations_12 : decode cX0_followDelegations 12 = .ok (.aload_n 1, 1) := by decide +kernel
theorem dX0_followDelegations_13 : decode cX0_followDelegations 13 = .ok (.getfield 104, 3) := by decide +kernel
theorem dX0_followDelegations_16 : decode cX0_followDelegations 16 = .ok (.iload 4, 2) := by decide +kernel
theorem dX0_followDelegations_18 : decode cX0_followDelegations 18 = .ok (.iaload, 1) := by decide +kernel
theorem dX0_followDelegations_19 : decode cX0_followDelegations 19 = .ok (.iload_n 2, 1) := by decide +kernel
theorem dX0_followDelegations_20 : decode cX0_followDelegations 20 = .ok (.invokestatic 108, 3) := by decide +kernel
theorem dX0_followDelegations_23 : decode cX0_followDelegations 23 = .ok (.ifCond .ne 6, 3) := by decide +kernel
theorem dX0_followDelegations_26 : decode cX0_followDelegations 26 = .ok (.goto 59, 3) := by decide +kernel
theorem dX0_followDelegations_29 : decode cX0_followDelegations 29 = .ok (.aload_n 1, 1) := by decide +kernel
theorem dX0_followDelegations_30 : decode cX0_followDelegations 30 = .ok (.getfield 111, 3) := by decide +kernel
theorem dX0_followDelegations_33 : decode cX0_followDelegations 33 = .ok (.iload 4, 2) := by decide +kernel
theorem dX0_followDelegations_35 : decode cX0_followDelegations 35 = .ok (.iaload, 1) := by decide +kernel
theorem dX0_followDelegations_36 : decode cX0_followDelegations 36 = .ok (.istore 5, 2) := by decide +kernel
theorem dX0_followDelegations_38 : decode cX0_followDelegations 38 = .ok (.aload_n 0, 1) := by decide +kernel
theorem dX0_followDelegations_39 : decode cX0_followDelegations 39 = .ok (.iload 5, 2) := by decide +kernel
theorem dX0_followDelegations_41 : decode cX0_followDelegations 41 = .ok (.invokevirtual 114, 3) := by decide +kernel
theorem dX0_followDelegations_44 : decode cX0_followDelegations 44 = .ok (.ifCond .eq 7, 3) := by decide +kernel
theorem dX0_followDelegations_47 : decode cX0_followDelegations 47 = .ok (.iconst (-1), 1) := by decide +kernel
theorem dX0_followDelegations_48 : decode cX0_followDelegations 48 = .ok (.goto 13, 3) := by decide +kernel
theorem dX0_followDelegations_51 : decode cX0_followDelegations 51 = .ok (.aload_n 0, 1) := by decide +kernel
theorem dX0_followDelegations_52 : decode cX0_followDelegations 52 = .ok (.iload 5, 2) := by decide +kernel
theorem dX0_followDelegations_54 : decode cX0_followDelegations 54 = .ok (.iload_n 2, 1) := by decide +kernel
theorem dX0_followDelegations_55 : decode cX0_followDelegations 55 = .ok (.iload_n 3, 1) := by decide +kernel
theorem dX0_followDelegations_56 : decode cX0_followDelegations 56 = .ok (.iconst 1, 1) := by decide +kernel
theorem dX0_followDelegations_57 : decode cX0_followDelegations 57 = .ok (.iadd, 1) := by decide +kernel
theorem dX0_followDelegations_58 : decode cX0_followDelegations 58 = .ok (.invokevirtual 84, 3) := by decide +kernel
theorem dX0_followDelegations_61 : decode cX0_followDelegations 61 = .ok (.istore 6, 2) := by decide +kernel
theorem dX0_followDelegations_63 : decode cX0_followDelegations 63 = .ok (.iload 6, 2) := by decide +kernel
theorem dX0_followDelegations_65 : decode cX0_followDelegations 65 = .ok (.iconst (-1), 1) := by decide +kernel
theorem dX0_followDelegations_66 : decode cX0_followDelegations 66 = .ok (.if_icmp .eq 6, 3) := by decide +kernel
theorem dX0_followDelegations_69 : decode cX0_followDelegations 69 = .ok (.iload 6, 2) := by decide +kernel
theorem dX0_followDelegations_71 : decode cX0_followDelegations 71 = .ok (.ireturn, 1) := by decide +kernel
theorem dX0_followDelegations_72 : decode cX0_followDelegations 72 = .ok (.aload_n 1, 1) := by decide +kernel
theorem dX0_followDelegations_73 : decode cX0_followDelegations 73 = .ok (.getfield 117, 3) := by decide +kernel
theorem dX0_followDelegations_76 : decode cX0_followDelegations 76 = .ok (.iload 4, 2) := by decide +kernel
theorem dX0_followDelegations_78 : decode cX0_followDelegations 78 = .ok (.baload, 1) := by decide +kernel
theorem dX0_followDelegations_79 : decode cX0_followDelegations 79 = .ok (.ifCond .eq 6, 3) := by decide +kernel
theorem dX0_followDelegations_82 : decode cX0_followDelegations 82 = .ok (.bipush (-2), 2) := by decide +kernel
theorem dX0_followDelegations_84 : decode cX0_followDelegations 84 = .ok (.ireturn, 1) := by decide +kernel
theorem dX0_followDelegations_85 : decode cX0_followDelegations 85 = .ok (.iinc 4 1, 3) := by decide +kernel
theorem dX0_followDelegations_88 : decode cX0_followDelegations 88 = .ok (.goto (-85), 3) := by decide +kernel
theorem dX0_followDelegations_91 : decode cX0_followDelegations 91 = .ok (.iconst (-1), 1) := by decide +kernel
theorem dX0_followDelegations_92 : decode cX0_followDelegations 92 = .ok (.ireturn, 1) := by decide +kernel
theorem dX0_isSearched_0 : decode cX0_isSearched 0 = .ok (.aload_n 0, 1) := by decide +kernel
theorem dX0_isSearched_1 : decode cX0_isSearched 1 = .ok (.getfield 21, 3) := by decide +kernel
theorem dX0_isSearched_4 : decode cX0_isSearched 4 = .ok (.iconst 1, 1) := by decide +kernel
theorem dX0_isSearched_5 : decode cX0_isSearched 5 = .ok (.iload_n 1, 1) := by decide +kernel
theorem dX0_isSearched_6 : decode cX0_isSearched 6 = .ok (.ishl, 1) := by decide +kernel
theorem dX0_isSearched_7 : decode cX0_isSearched 7 = .ok (.iand, 1) := by decide +kernel
theorem dX0_isSearched_8 : decode cX0_isSearched 8 = .ok (.ifCond .eq 7, 3) := by decide +kernel
theorem dX0_isSearched_11 : decode cX0_isSearched 11 = .ok (.iconst 1, 1) := by decide +kernel
theorem dX0_isSearched_12 : decode cX0_isSearched 12 = .ok (.goto 4, 3) := by decide +kernel
theorem dX0_isSearched_15 : decode cX0_isSearched 15 = .ok (.iconst 0, 1) := by decide +kernel
theorem dX0_isSearched_16 : decode cX0_isSearched 16 = .ok (.ireturn, 1) := by decide +kernel
theorem dX1_init_0 : decode cX1_init 0 = .ok (.aload_n 0, 1) := by decide +kernel
theorem dX1_init_1 : decode cX1_init 1 = .ok (.invokespecial 3, 3) := by decide +kernel
theorem dX1_init_4 : decode cX1_init 4 = .ok (.aload_n 0, 1) := by decide +kernel
theorem dX1_init_5 : decode cX1_init 5 = .ok (.bipush 6, 2) := by decide +kernel
theorem dX1_init_7 : decode cX1_init 7 = .ok (.newarray .int, 2) := by decide +kernel
theorem dX1_init_9 : decode cX1_init 9 = .ok (.putfield 9, 3) := by decide +kernel
theorem dX1_init_12 : decode cX1_init 12 = .ok (.aload_n 0, 1) := by decide +kernel
theorem dX1_init_13 : decode cX1_init 13 = .ok (.bipush 6, 2) := by decide +kernel
theorem dX1_init_15 : decode cX1_init 15 = .ok (.newarray .int, 2) := by decide +kernel
theorem dX1_init_17 : decode cX1_init 17 = .ok (.putfield 15, 3) := by decide +kernel
theorem dX1_init_20 : decode cX1_init 20 = .ok (.aload_n 0, 1) := by decide +kernel
theorem dX1_init_21 : decode cX1_init 21 = .ok (.bipush 6, 2) := by decide +kernel
theorem dX1_init_23 : decode cX1_init 23 = .ok (.newarray .boolean, 2) := by decide +kernel
theorem dX1_init_25 : decode cX1_init 25 = .ok (.putfield 18, 3) := by decide +kernel
theorem dX1_init_28 : decode cX1_init 28 = .ok (.aload_n 0, 1) := by decide +kernel
theorem dX1_init_29 : decode cX1_init 29 = .ok (.iconst 0, 1) := by decide +kernel
theorem dX1_init_30 : decode cX1_init 30 = .ok (.putfield 22, 3) := by decide +kernel
theorem dX1_init_33 : decode cX1_init 33 = .ok (.return_, 1) := by decide +kernel
theorem dX1_add_0 : decode cX1_add 0 = .ok (.aload_n 0, 1) := by decide +kernel
theorem dX1_add_1 : decode cX1_add 1 = .ok (.getfield 22, 3) := by decide +kernel
theorem dX1_add_4 : decode cX1_add 4 = .ok (.bipush 6, 2) := by decide +kernel
theorem dX1_add_6 : decode cX1_add 6 = .ok (.if_icmp .lt 5, 3) := by decide +kernel
theorem dX1_add_9 : decode cX1_add 9 = .ok (.iconst (-1), 1) := by decide +kernel
theorem dX1_add_10 : decode cX1_add 10 = .ok (.ireturn, 1) := by decide +kernel
theorem dX1_add_11 : decode cX1_add 11 = .ok (.aload_n 0, 1) := by decide +kernel
theorem dX1_add_12 : decode cX1_add 12 = .ok (.getfield 9, 3) := by decide +kernel
theorem dX1_add_15 : decode cX1_add 15 = .ok (.aload_n 0, 1) := by decide +kernel
theorem dX1_add_16 : decode cX1_add 16 = .ok (.getfield 22, 3) := by decide +kernel
theorem dX1_add_19 : decode cX1_add 19 = .ok (.iload_n 1, 1) := by decide +kernel
theorem dX1_add_20 : decode cX1_add 20 = .ok (.iastore, 1) := by decide +kernel
theorem dX1_add_21 : decode cX1_add 21 = .ok (.aload_n 0, 1) := by decide +kernel
theorem dX1_add_22 : decode cX1_add 22 = .ok (.getfield 15, 3) := by decide +kernel
theorem dX1_add_25 : decode cX1_add 25 = .ok (.aload_n 0, 1) := by decide +kernel
theorem dX1_add_26 : decode cX1_add 26 = .ok (.getfield 22, 3) := by decide +kernel
theorem dX1_add_29 : decode cX1_add 29 = .ok (.iload_n 2, 1) := by decide +kernel
theorem dX1_add_30 : decode cX1_add 30 = .ok (.iastore, 1) := by decide +kernel
theorem dX1_add_31 : decode cX1_add 31 = .ok (.aload_n 0, 1) := by decide +kernel
theorem dX1_add_32 : decode cX1_add 32 = .ok (.getfield 18, 3) := by decide +kernel
theorem dX1_add_35 : decode cX1_add 35 = .ok (.aload_n 0, 1) := by decide +kernel
theorem dX1_add_36 : decode cX1_add 36 = .ok (.getfield 22, 3) := by decide +kernel
theorem dX1_add_39 : decode cX1_add 39 = .ok (.iload_n 3, 1) := by decide +kernel
theorem dX1_add_40 : decode cX1_add 40 = .ok (.bastore, 1) := by decide +kernel
theorem dX1_add_41 : decode cX1_add 41 = .ok (.aload_n 0, 1) := by decide +kernel
theorem dX1_add_42 : decode cX1_add 42 = .ok (.dup, 1) := by decide +kernel
theorem dX1_add_43 : decode cX1_add 43 = .ok (.getfield 22, 3) := by decide +kernel
theorem dX1_add_46 : decode cX1_add 46 = .ok (.iconst 1, 1) := by decide +kernel
theorem dX1_add_47 : decode cX1_add 47 = .ok (.iadd, 1) := by decide +kernel
theorem dX1_add_48 : decode cX1_add 48 = .ok (.putfield 22, 3) := by decide +kernel
theorem dX1_add_51 : decode cX1_add 51 = .ok (.aload_n 0, 1) := by decide +kernel
theorem dX1_add_52 : decode cX1_add 52 = .ok (.getfield 22, 3) := by decide +kernel
theorem dX1_add_55 : decode cX1_add 55 = .ok (.ireturn, 1) := by decide +kernel
set_option maxRecDepth 20000 in
theorem ggX1_writeTo_X5_putByte : GoodIn wsX1_writeTo wsX5_putByte := goodIn_r _ [9, 10, 11, 21, 22, 23, 24] (by decide +kernel) (by decide +kernel)
set_option maxRecDepth 20000 in
theorem gX1_writeTo_X5_putByte : GoodIn wsX1_writeTo (wsV RX1 26 RX5 yX5_putByte wsX5_putByte) := goodIn_app (goodIn_of _ (by decide +kernel)) ggX1_writeTo_X5_putByte
set_option maxRecDepth 20000 in
theorem ggX1_writeTo_X5_putInt : GoodIn wsX1_writeTo wsX5_putInt := goodIn_r _ [15, 16, 6, 7, 8, 9, 10, 11, 21, 22, 23, 24] (by decide +kernel) (by decide +kernel)
set_option maxRecDepth 20000 in
theorem gX1_writeTo_X5_putInt : GoodIn wsX1_writeTo (wsV RX1 32 RX5 yX5_putInt wsX5_putInt) := goodIn_app (goodIn_of _ (by decide +kernel)) ggX1_writeTo_X5_putInt
theorem dX1_writeTo_0 : decode cX1_writeTo 0 = .ok (.aload_n 1, 1) := by decide +kernel
theorem dX1_writeTo_1 : decode cX1_writeTo 1 = .ok (.aload_n 0, 1) := by decide +kernel
theorem dX1_writeTo_2 : decode cX1_writeTo 2 = .ok (.getfield 22, 3) := by decide +kernel
theorem dX1_writeTo_5 : decode cX1_writeTo 5 = .ok (.invokevirtual 26, 3) := by decide +kernel
theorem dX1_writeTo_8 : decode cX1_writeTo 8 = .ok (.iconst 0, 1) := by decide +kernel
theorem dX1_writeTo_9 : decode cX1_writeTo 9 = .ok (.istore_n 2, 1) := by decide +kernel
theorem dX1_writeTo_10 : decode cX1_writeTo 10 = .ok (.iload_n 2, 1) := by decide +kernel
theorem dX1_writeTo_11 : decode cX1_writeTo 11 = .ok (.aload_n 0, 1) := by decide +kernel
theorem dX1_writeTo_12 : decode cX1_writeTo 12 = .ok (.getfield 22, 3) := by decide +kernel
theorem dX1_writeTo_15 : decode cX1_writeTo 15 = .ok (.if_icmp .ge 47, 3) := by decide +kernel
theorem dX1_writeTo_18 : decode cX1_writeTo 18 = .ok (.aload_n 1, 1) := by decide +kernel
theorem dX1_writeTo_19 : decode cX1_writeTo 19 = .ok (.aload_n 0, 1) := by decide +kernel
theorem dX1_writeTo_20 : decode cX1_writeTo 20 = .ok (.getfield 9, 3) := by decide +kernel
theorem dX1_writeTo_23 : decode cX1_writeTo 23 = .ok (.iload_n 2, 1) := by decide +kernel
theorem dX1_writeTo_24 : decode cX1_writeTo 24 = .ok (.iaload, 1) := by decide +kernel
theorem dX1_writeTo_25 : decode cX1_writeTo 25 = .ok (.invokevirtual 32, 3) := by decide +kernel
theorem dX1_writeTo_28 : decode cX1_writeTo 28 = .ok (.aload_n 1, 1) := by decide +kernel
theorem dX1_writeTo_29 : decode cX1_writeTo 29 = .ok (.aload_n 0, 1) := by decide +kernel
theorem dX1_writeTo_30 : decode cX1_writeTo 30 = .ok (.getfield 15, 3) := by decide +kernel
theorem dX1_writeTo_33 : decode cX1_writeTo 33 = .ok (.iload_n 2, 1) := by decide +kernel
theorem dX1_writeTo_34 : decode cX1_writeTo 34 = .ok (.iaload, 1) := by decide +kernel
theorem dX1_writeTo_35 : decode cX1_writeTo 35 = .ok (.invokevirtual 26, 3) := by decide +kernel
theorem dX1_writeTo_38 : decode cX1_writeTo 38 = .ok (.aload_n 1, 1) := by decide +kernel
theorem dX1_writeTo_39 : decode cX1_writeTo 39 = .ok (.aload_n 0, 1) := by decide +kernel
theorem dX1_writeTo_40 : decode cX1_writeTo 40 = .ok (.getfield 18, 3) := by decide +kernel
theorem dX1_writeTo_43 : decode cX1_writeTo 43 = .ok (.iload_n 2, 1) := by decide +kernel
theorem dX1_writeTo_44 : decode cX1_writeTo 44 = .ok (.baload, 1) := by decide +kernel
theorem dX1_writeTo_45 : decode cX1_writeTo 45 = .ok (.ifCond .eq 7, 3) := by decide +kernel
theorem dX1_writeTo_48 : decode cX1_writeTo 48 = .ok (.iconst 1, 1) := by decide +kernel
theorem dX1_writeTo_49 : decode cX1_writeTo 49 = .ok (.goto 4, 3) := by decide +kernel
theorem dX1_writeTo_52 : decode cX1_writeTo 52 = .ok (.iconst 0, 1) := by decide +kernel
theorem dX1_writeTo_53 : decode cX1_writeTo 53 = .ok (.invokevirtual 26, 3) := by decide +kernel
theorem dX1_writeTo_56 : decode cX1_writeTo 56 = .ok (.iinc 2 1, 3) := by decide +kernel
theorem dX1_writeTo_59 : decode cX1_writeTo 59 = .ok (.goto (-49), 3) := by decide +kernel
theorem dX1_writeTo_62 : decode cX1_writeTo 62 = .ok (.return_, 1) := by decide +kernel
theorem dX2_init_0 : decode cX2_init 0 = .ok (.aload_n 0, 1) := by decide +kernel
theorem dX2_init_1 : decode cX2_init 1 = .ok (.invokespecial 3, 3) := by decide +kernel
theorem dX2_init_4 : decode cX2_init 4 = .ok (.aload_n 0, 1) := by decide +kernel
theorem dX2_init_5 : decode cX2_init 5 = .ok (.bipush 20, 2) := by decide +kernel
theorem dX2_init_7 : decode cX2_init 7 = .ok (.newarray .long, 2) := by decide +kernel
theorem dX2_init_9 : decode cX2_init 9 = .ok (.putfield 9, 3) := by decide +kernel
theorem dX2_init_12 : decode cX2_init 12 = .ok (.aload_n 0, 1) := by decide +kernel
theorem dX2_init_13 : decode cX2_init 13 = .ok (.bipush 20, 2) := by decide +kernel
theorem dX2_init_15 : decode cX2_init 15 = .ok (.newarray .long, 2) := by decide +kernel
theorem dX2_init_17 : decode cX2_init 17 = .ok (.putfield 15, 3) := by decide +kernel
theorem dX2_init_20 : decode cX2_init 20 = .ok (.aload_n 0, 1) := by decide +kernel
theorem dX2_init_21 : decode cX2_init 21 = .ok (.iconst 0, 1) := by decide +kernel
theorem dX2_init_22 : decode cX2_init 22 = .ok (.putfield 18, 3) := by decide +kernel
theorem dX2_init_25 : decode cX2_init 25 = .ok (.return_, 1) := by decide +kernel
theorem dX2_add_0 : decode cX2_add 0 = .ok (.aload_n 0, 1) := by decide +kernel
theorem dX2_add_1 : decode cX2_add 1 = .ok (.getfield 18, 3) := by decide +kernel
theorem dX2_add_4 : decode cX2_add 4 = .ok (.bipush 20, 2) := by decide +kernel
theorem dX2_add_6 : decode cX2_add 6 = .ok (.if_icmp .lt 5, 3) := by decide +kernel
theorem dX2_add_9 : decode cX2_add 9 = .ok (.iconst (-1), 1) := by decide +kernel
theorem dX2_add_10 : decode cX2_add 10 = .ok (.ireturn, 1) := by decide +kernel
theorem dX2_add_11 : decode cX2_add 11 = .ok (.aload_n 0, 1) := by decide +kernel
theorem dX2_add_12 : decode cX2_add 12 = .ok (.getfield 9, 3) := by decide +kernel
theorem dX2_add_15 : decode cX2_add 15 = .ok (.aload_n 0, 1) := by decide +kernel
theorem dX2_add_16 : decode cX2_add 16 = .ok (.getfield 18, 3) := by decide +kernel
theorem dX2_add_19 : decode cX2_add 19 = .ok (.lload_n 1, 1) := by decide +kernel
theorem dX2_add_20 : decode cX2_add 20 = .ok (.lastore, 1) := by decide +kernel
theorem dX2_add_21 : decode cX2_add 21 = .ok (.aload_n 0, 1) := by decide +kernel
theorem dX2_add_22 : decode cX2_add 22 = .ok (.getfield 15, 3) := by decide +kernel
theorem dX2_add_25 : decode cX2_add 25 = .ok (.aload_n 0, 1) := by decide +kernel
theorem dX2_add_26 : decode cX2_add 26 = .ok (.getfield 18, 3) := by decide +kernel
theorem dX2_add_29 : decode cX2_add 29 = .ok (.lload_n 3, 1) := by decide +kernel
theorem dX2_add_30 : decode cX2_add 30 = .ok (.lastore, 1) := by decide +kernel
theorem dX2_add_31 : decode cX2_add 31 = .ok (.aload_n 0, 1) := by decide +kernel
theorem dX2_add_32 : decode cX2_add 32 = .ok (.dup, 1) := by decide +kernel
theorem dX2_add_33 : decode cX2_add 33 = .ok (.getfield 18, 3) := by decide +kernel
theorem dX2_add_36 : decode cX2_add 36 = .ok (.iconst 1, 1) := by decide +kernel
theorem dX2_add_37 : decode cX2_add 37 = .ok (.iadd, 1) := by decide +kernel
theorem dX2_add_38 : decode cX2_add 38 = .ok (.putfield 18, 3) := by decide +kernel
theorem dX2_add_41 : decode cX2_add 41 = .ok (.aload_n 0, 1) := by decide +kernel
theorem dX2_add_42 : decode cX2_add 42 = .ok (.getfield 18, 3) := by decide +kernel
theorem dX2_add_45 : decode cX2_add 45 = .ok (.iconst 1, 1) := by decide +kernel
theorem dX2_add_46 : decode cX2_add 46 = .ok (.isub, 1) := by decide +kernel
theorem dX2_add_47 : decode cX2_add 47 = .ok (.ireturn, 1) := by decide +kernel
theorem dX2_has_0 : decode cX2_has 0 = .ok (.iload_n 1, 1) := by decide +kernel
theorem dX2_has_1 : decode cX2_has 1 = .ok (.ifCond .lt 15, 3) := by decide +kernel
theorem dX2_has_4 : decode cX2_has 4 = .ok (.iload_n 1, 1) := by decide +kernel
theorem dX2_has_5 : decode cX2_has 5 = .ok (.aload_n 0, 1) := by decide +kernel
theorem dX2_has_6 : decode cX2_has 6 = .ok (.getfield 18, 3) := by decide +kernel
theorem dX2_has_9 : decode cX2_has 9 = .ok (.if_icmp .ge 7, 3) := by decide +kernel
theorem dX2_has_12 : decode cX2_has 12 = .ok (.iconst 1, 1) := by decide +kernel
theorem dX2_has_13 : decode cX2_has 13 = .ok (.goto 4, 3) := by decide +kernel
theorem dX2_has_16 : decode cX2_has 16 = .ok (.iconst 0, 1) := by decide +kernel
theorem dX2_has_17 : decode cX2_has 17 = .ok (.ireturn, 1) := by decide +kernel
set_option maxRecDepth 20000 in
theorem ggX2_secretOf_X2_has : GoodIn wsX2_secretOf wsX2_has := goodIn_r _ [6, 7, 8, 9, 10] (by decide +kernel) (by decide +kernel)
set_option maxRecDepth 20000 in
theorem gX2_secretOf_X2_has : GoodIn wsX2_secretOf (wsV RX2 22 RX2 yX2_has wsX2_has) := goodIn_app (goodIn_of _ (by decide +kernel)) ggX2_secretOf_X2_has
theorem dX2_secretOf_0 : decode cX2_secretOf 0 = .ok (.aload_n 0, 1) := by decide +kernel
theorem dX2_secretOf_1 : decode cX2_secretOf 1 = .ok (.iload_n 1, 1) := by decide +kernel
theorem dX2_secretOf_2 : decode cX2_secretOf 2 = .ok (.invokevirtual 22, 3) := by decide +kernel
theorem dX2_secretOf_5 : decode cX2_secretOf 5 = .ok (.ifCond .eq 12, 3) := by decide +kernel
theorem dX2_secretOf_8 : decode cX2_secretOf 8 = .ok (.aload_n 0, 1) := by decide +kernel
theorem dX2_secretOf_9 : decode cX2_secretOf 9 = .ok (.getfield 9, 3) := by decide +kernel
theorem dX2_secretOf_12 : decode cX2_secretOf 12 = .ok (.iload_n 1, 1) := by decide +kernel
theorem dX2_secretOf_13 : decode cX2_secretOf 13 = .ok (.laload, 1) := by decide +kernel
theorem dX2_secretOf_14 : decode cX2_secretOf 14 = .ok (.goto 4, 3) := by decide +kernel
theorem dX2_secretOf_17 : decode cX2_secretOf 17 = .ok (.lconst 0, 1) := by decide +kernel
theorem dX2_secretOf_18 : decode cX2_secretOf 18 = .ok (.lreturn, 1) := by decide +kernel
theorem dX2_unexpiredAt_0 : decode cX2_unexpiredAt 0 = .ok (.iconst 0, 1) := by decide +kernel
theorem dX2_unexpiredAt_1 : decode cX2_unexpiredAt 1 = .ok (.istore_n 3, 1) := by decide +kernel
theorem dX2_unexpiredAt_2 : decode cX2_unexpiredAt 2 = .ok (.iconst 0, 1) := by decide +kernel
theorem dX2_unexpiredAt_3 : decode cX2_unexpiredAt 3 = .ok (.istore 4, 2) := by decide +kernel
theorem dX2_unexpiredAt_5 : decode cX2_unexpiredAt 5 = .ok (.iload 4, 2) := by decide +kernel
theorem dX2_unexpiredAt_7 : decode cX2_unexpiredAt 7 = .ok (.aload_n 0, 1) := by decide +kernel
theorem dX2_unexpiredAt_8 : decode cX2_unexpiredAt 8 = .ok (.getfield 18, 3) := by decide +kernel
theorem dX2_unexpiredAt_11 : decode cX2_unexpiredAt 11 = .ok (.if_icmp .ge 28, 3) := by decide +kernel
theorem dX2_unexpiredAt_14 : decode cX2_unexpiredAt 14 = .ok (.aload_n 0, 1) := by decide +kernel
theorem dX2_unexpiredAt_15 : decode cX2_unexpiredAt 15 = .ok (.getfield 15, 3) := by decide +kernel
theorem dX2_unexpiredAt_18 : decode cX2_unexpiredAt 18 = .ok (.iload 4, 2) := by decide +kernel
theorem dX2_unexpiredAt_20 : decode cX2_unexpiredAt 20 = .ok (.laload, 1) := by decide +kernel
theorem dX2_unexpiredAt_21 : decode cX2_unexpiredAt 21 = .ok (.lload_n 1, 1) := by decide +kernel
theorem dX2_unexpiredAt_22 : decode cX2_unexpiredAt 22 = .ok (.lcmp, 1) := by decide +kernel
theorem dX2_unexpiredAt_23 : decode cX2_unexpiredAt 23 = .ok (.ifCond .le 10, 3) := by decide +kernel
theorem dX2_unexpiredAt_26 : decode cX2_unexpiredAt 26 = .ok (.iload_n 3, 1) := by decide +kernel
theorem dX2_unexpiredAt_27 : decode cX2_unexpiredAt 27 = .ok (.iconst 1, 1) := by decide +kernel
theorem dX2_unexpiredAt_28 : decode cX2_unexpiredAt 28 = .ok (.iload 4, 2) := by decide +kernel
theorem dX2_unexpiredAt_30 : decode cX2_unexpiredAt 30 = .ok (.ishl, 1) := by decide +kernel
theorem dX2_unexpiredAt_31 : decode cX2_unexpiredAt 31 = .ok (.ior, 1) := by decide +kernel
theorem dX2_unexpiredAt_32 : decode cX2_unexpiredAt 32 = .ok (.istore_n 3, 1) := by decide +kernel
theorem dX2_unexpiredAt_33 : decode cX2_unexpiredAt 33 = .ok (.iinc 4 1, 3) := by decide +kernel
theorem dX2_unexpiredAt_36 : decode cX2_unexpiredAt 36 = .ok (.goto (-31), 3) := by decide +kernel
theorem dX2_unexpiredAt_39 : decode cX2_unexpiredAt 39 = .ok (.iload_n 3, 1) := by decide +kernel
theorem dX2_unexpiredAt_40 : decode cX2_unexpiredAt 40 = .ok (.ireturn, 1) := by decide +kernel
theorem dX3_init_0 : decode cX3_init 0 = .ok (.aload_n 0, 1) := by decide +kernel
theorem dX3_init_1 : decode cX3_init 1 = .ok (.invokespecial 3, 3) := by decide +kernel
theorem dX3_init_4 : decode cX3_init 4 = .ok (.aload_n 0, 1) := by decide +kernel
theorem dX3_init_5 : decode cX3_init 5 = .ok (.bipush 10, 2) := by decide +kernel
theorem dX3_init_7 : decode cX3_init 7 = .ok (.newarray .int, 2) := by decide +kernel
theorem dX3_init_9 : decode cX3_init 9 = .ok (.putfield 9, 3) := by decide +kernel
theorem dX3_init_12 : decode cX3_init 12 = .ok (.aload_n 0, 1) := by decide +kernel
theorem dX3_init_13 : decode cX3_init 13 = .ok (.bipush 10, 2) := by decide +kernel
theorem dX3_init_15 : decode cX3_init 15 = .ok (.newarray .int, 2) := by decide +kernel
theorem dX3_init_17 : decode cX3_init 17 = .ok (.putfield 15, 3) := by decide +kernel
theorem dX3_init_20 : decode cX3_init 20 = .ok (.iconst 0, 1) := by decide +kernel
theorem dX3_init_21 : decode cX3_init 21 = .ok (.istore_n 1, 1) := by decide +kernel
theorem dX3_init_22 : decode cX3_init 22 = .ok (.iload_n 1, 1) := by decide +kernel
theorem dX3_init_23 : decode cX3_init 23 = .ok (.bipush 10, 2) := by decide +kernel
theorem dX3_init_25 : decode cX3_init 25 = .ok (.if_icmp .ge 16, 3) := by decide +kernel
theorem dX3_init_28 : decode cX3_init 28 = .ok (.aload_n 0, 1) := by decide +kernel
theorem dX3_init_29 : decode cX3_init 29 = .ok (.getfield 9, 3) := by decide +kernel
theorem dX3_init_32 : decode cX3_init 32 = .ok (.iload_n 1, 1) := by decide +kernel
theorem dX3_init_33 : decode cX3_init 33 = .ok (.iconst 1, 1) := by decide +kernel
theorem dX3_init_34 : decode cX3_init 34 = .ok (.iastore, 1) := by decide +kernel
theorem dX3_init_35 : decode cX3_init 35 = .ok (.iinc 1 1, 3) := by decide +kernel
theorem dX3_init_38 : decode cX3_init 38 = .ok (.goto (-16), 3) := by decide +kernel
theorem dX3_init_41 : decode cX3_init 41 = .ok (.return_, 1) := by decide +kernel
set_option maxRecDepth 20000 in
theorem ggX3_setNeeded_X7_isRole : GoodIn wsX3_setNeeded wsX7_isRole := goodIn_r _ [4] (by decide +kernel) (by decide +kernel)
set_option maxRecDepth 20000 in
theorem gX3_setNeeded_X7_isRole_n18 : GoodIn wsX3_setNeeded (wsX7_isRole) := ggX3_setNeeded_X7_isRole
theorem dX3_setNeeded_0 : decode cX3_setNeeded 0 = .ok (.iload_n 1, 1) := by decide +kernel
theorem dX3_setNeeded_1 : decode cX3_setNeeded 1 = .ok (.invokestatic 18, 3) := by decide +kernel
theorem dX3_setNeeded_4 : decode cX3_setNeeded 4 = .ok (.ifCond .eq 10, 3) := by decide +kernel
theorem dX3_setNeeded_7 : decode cX3_setNeeded 7 = .ok (.aload_n 0, 1) := by decide +kernel
theorem dX3_setNeeded_8 : decode cX3_setNeeded 8 = .ok (.getfield 9, 3) := by decide +kernel
theorem dX3_setNeeded_11 : decode cX3_setNeeded 11 = .ok (.iload_n 1, 1) := by decide +kernel
theorem dX3_setNeeded_12 : decode cX3_setNeeded 12 = .ok (.iload_n 2, 1) := by decide +kernel
theorem dX3_setNeeded_13 : decode cX3_setNeeded 13 = .ok (.iastore, 1) := by decide +kernel
theorem dX3_setNeeded_14 : decode cX3_setNeeded 14 = .ok (.return_, 1) := by decide +kernel
set_option maxRecDepth 20000 in
theorem ggX3_setMember_X7_isRole : GoodIn wsX3_setMember wsX7_isRole := goodIn_r _ [4] (by decide +kernel) (by decide +kernel)
set_option maxRecDepth 20000 in
theorem gX3_setMember_X7_isRole_n18 : GoodIn wsX3_setMember (wsX7_isRole) := ggX3_setMember_X7_isRole
theorem dX3_setMember_0 : decode cX3_setMember 0 = .ok (.iload_n 1, 1) := by decide +kernel
theorem dX3_setMember_1 : decode cX3_setMember 1 = .ok (.invokestatic 18, 3) := by decide +kernel
theorem dX3_setMember_4 : decode cX3_setMember 4 = .ok (.ifCond .eq 41, 3) := by decide +kernel
theorem dX3_setMember_7 : decode cX3_setMember 7 = .ok (.iconst 1, 1) := by decide +kernel
theorem dX3_setMember_8 : decode cX3_setMember 8 = .ok (.iload_n 2, 1) := by decide +kernel
theorem dX3_setMember_9 : decode cX3_setMember 9 = .ok (.ishl, 1) := by decide +kernel
theorem dX3_setMember_10 : decode cX3_setMember 10 = .ok (.istore 4, 2) := by decide +kernel
theorem dX3_setMember_12 : decode cX3_setMember 12 = .ok (.aload_n 0, 1) := by decide +kernel
theorem dX3_setMember_13 : decode cX3_setMember 13 = .ok (.getfield 15, 3) := by decide +kernel
theorem dX3_setMember_16 : decode cX3_setMember 16 = .ok (.iload_n 1, 1) := by decide +kernel
theorem dX3_setMember_17 : decode cX3_setMember 17 = .ok (.iload_n 3, 1) := by decide +kernel
theorem dX3_setMember_18 : decode cX3_setMember 18 = .ok (.ifCond .eq 15, 3) := by decide +kernel
theorem dX3_setMember_21 : decode cX3_setMember 21 = .ok (.aload_n 0, 1) := by decide +kernel
theorem dX3_setMember_22 : decode cX3_setMember 22 = .ok (.getfield 15, 3) := by decide +kernel
theorem dX3_setMember_25 : decode cX3_setMember 25 = .ok (.iload_n 1, 1) := by decide +kernel
theorem dX3_setMember_26 : decode cX3_setMember 26 = .ok (.iaload, 1) := by decide +kernel
theorem dX3_setMember_27 : decode cX3_setMember 27 = .ok (.iload 4, 2) := by decide +kernel
theorem dX3_setMember_29 : decode cX3_setMember 29 = .ok (.ior, 1) := by decide +kernel
theorem dX3_setMember_30 : decode cX3_setMember 30 = .ok (.goto 14, 3) := by decide +kernel
theorem dX3_setMember_33 : decode cX3_setMember 33 = .ok (.aload_n 0, 1) := by decide +kernel
theorem dX3_setMember_34 : decode cX3_setMember 34 = .ok (.getfield 15, 3) := by decide +kernel
theorem dX3_setMember_37 : decode cX3_setMember 37 = .ok (.iload_n 1, 1) := by decide +kernel
theorem dX3_setMember_38 : decode cX3_setMember 38 = .ok (.iaload, 1) := by decide +kernel
theorem dX3_setMember_39 : decode cX3_setMember 39 = .ok (.iload 4, 2) := by decide +kernel
theorem dX3_setMember_41 : decode cX3_setMember 41 = .ok (.iconst (-1), 1) := by decide +kernel
theorem dX3_setMember_42 : decode cX3_setMember 42 = .ok (.ixor, 1) := by decide +kernel
theorem dX3_setMember_43 : decode cX3_setMember 43 = .ok (.iand, 1) := by decide +kernel
theorem dX3_setMember_44 : decode cX3_setMember 44 = .ok (.iastore, 1) := by decide +kernel
theorem dX3_setMember_45 : decode cX3_setMember 45 = .ok (.return_, 1) := by decide +kernel
theorem dX3_copyFrom_0 : decode cX3_copyFrom 0 = .ok (.iconst 0, 1) := by decide +kernel
theorem dX3_copyFrom_1 : decode cX3_copyFrom 1 = .ok (.istore_n 2, 1) := by decide +kernel
theorem dX3_copyFrom_2 : decode cX3_copyFrom 2 = .ok (.iload_n 2, 1) := by decide +kernel
theorem dX3_copyFrom_3 : decode cX3_copyFrom 3 = .ok (.bipush 10, 2) := by decide +kernel
theorem dX3_copyFrom_5 : decode cX3_copyFrom 5 = .ok (.if_icmp .ge 33, 3) := by decide +kernel
theorem dX3_copyFrom_8 : decode cX3_copyFrom 8 = .ok (.aload_n 0, 1) := by decide +kernel
theorem dX3_copyFrom_9 : decode cX3_copyFrom 9 = .ok (.getfield 9, 3) := by decide +kernel
theorem dX3_copyFrom_12 : decode cX3_copyFrom 12 = .ok (.iload_n 2, 1) := by decide +kernel
theorem dX3_copyFrom_13 : decode cX3_copyFrom 13 = .ok (.aload_n 1, 1) := by decide +kernel
theorem dX3_copyFrom_14 : decode cX3_copyFrom 14 = .ok (.getfield 9, 3) := by decide +kernel
theorem dX3_copyFrom_17 : decode cX3_copyFrom 17 = .ok (.iload_n 2, 1) := by decide +kernel
theorem dX3_copyFrom_18 : decode cX3_copyFrom 18 = .ok (.iaload, 1) := by decide +kernel
theorem dX3_copyFrom_19 : decode cX3_copyFrom 19 = .ok (.iastore, 1) := by decide +kernel
theorem dX3_copyFrom_20 : decode cX3_copyFrom 20 = .ok (.aload_n 0, 1) := by decide +kernel
theorem dX3_copyFrom_21 : decode cX3_copyFrom 21 = .ok (.getfield 15, 3) := by decide +kernel
theorem dX3_copyFrom_24 : decode cX3_copyFrom 24 = .ok (.iload_n 2, 1) := by decide +kernel
theorem dX3_copyFrom_25 : decode cX3_copyFrom 25 = .ok (.aload_n 1, 1) := by decide +kernel
theorem dX3_copyFrom_26 : decode cX3_copyFrom 26 = .ok (.getfield 15, 3) := by decide +kernel
theorem dX3_copyFrom_29 : decode cX3_copyFrom 29 = .ok (.iload_n 2, 1) := by decide +kernel
theorem dX3_copyFrom_30 : decode cX3_copyFrom 30 = .ok (.iaload, 1) := by decide +kernel
theorem dX3_copyFrom_31 : decode cX3_copyFrom 31 = .ok (.iastore, 1) := by decide +kernel
theorem dX3_copyFrom_32 : decode cX3_copyFrom 32 = .ok (.iinc 2 1, 3) := by decide +kernel
theorem dX3_copyFrom_35 : decode cX3_copyFrom 35 = .ok (.goto (-33), 3) := by decide +kernel
theorem dX3_copyFrom_38 : decode cX3_copyFrom 38 = .ok (.return_, 1) := by decide +kernel
set_option maxRecDepth 20000 in
theorem ggX3_isMetBy_X7_isRole : GoodIn wsX3_isMetBy wsX7_isRole := goodIn_r _ [5] (by decide +kernel) (by decide +kernel)
set_option maxRecDepth 20000 in
theorem gX3_isMetBy_X7_isRole_n18 : GoodIn wsX3_isMetBy (wsX7_isRole) := ggX3_isMetBy_X7_isRole
set_option maxRecDepth 20000 in
theorem ggX3_isMetBy_J6_bitCount_0f7a4 : GoodIn wsX3_isMetBy wsJ6_bitCount_0f7a4 := goodIn_r _ [9, 10, 11, 12] (by decide +kernel) (by decide +kernel)
set_option maxRecDepth 20000 in
theorem gX3_isMetBy_J6_bitCount_0f7a4 : GoodIn wsX3_isMetBy (va_wsS RX3 22 yJ6_bitCount_0f7a4 wsJ6_bitCount_0f7a4) := goodIn_app (goodIn_of _ (by decide +kernel)) ggX3_isMetBy_J6_bitCount_0f7a4
theorem dX3_isMetBy_0 : decode cX3_isMetBy 0 = .ok (.iload_n 2, 1) := by decide +kernel
theorem dX3_isMetBy_1 : decode cX3_isMetBy 1 = .ok (.invokestatic 18, 3) := by decide +kernel
theorem dX3_isMetBy_4 : decode cX3_isMetBy 4 = .ok (.ifCond .eq 27, 3) := by decide +kernel
theorem dX3_isMetBy_7 : decode cX3_isMetBy 7 = .ok (.iload_n 1, 1) := by decide +kernel
theorem dX3_isMetBy_8 : decode cX3_isMetBy 8 = .ok (.aload_n 0, 1) := by decide +kernel
theorem dX3_isMetBy_9 : decode cX3_isMetBy 9 = .ok (.getfield 15, 3) := by decide +kernel
theorem dX3_isMetBy_12 : decode cX3_isMetBy 12 = .ok (.iload_n 2, 1) := by decide +kernel
theorem dX3_isMetBy_13 : decode cX3_isMetBy 13 = .ok (.iaload, 1) := by decide +kernel
theorem dX3_isMetBy_14 : decode cX3_isMetBy 14 = .ok (.iand, 1) := by decide +kernel
theorem dX3_isMetBy_15 : decode cX3_isMetBy 15 = .ok (.invokestatic 22, 3) := by decide +kernel
theorem dX3_isMetBy_18 : decode cX3_isMetBy 18 = .ok (.aload_n 0, 1) := by decide +kernel
theorem dX3_isMetBy_19 : decode cX3_isMetBy 19 = .ok (.getfield 9, 3) := by decide +kernel
theorem dX3_isMetBy_22 : decode cX3_isMetBy 22 = .ok (.iload_n 2, 1) := by decide +kernel
theorem dX3_isMetBy_23 : decode cX3_isMetBy 23 = .ok (.iaload, 1) := by decide +kernel
theorem dX3_isMetBy_24 : decode cX3_isMetBy 24 = .ok (.if_icmp .lt 7, 3) := by decide +kernel
theorem dX3_isMetBy_27 : decode cX3_isMetBy 27 = .ok (.iconst 1, 1) := by decide +kernel
theorem dX3_isMetBy_28 : decode cX3_isMetBy 28 = .ok (.goto 4, 3) := by decide +kernel
theorem dX3_isMetBy_31 : decode cX3_isMetBy 31 = .ok (.iconst 0, 1) := by decide +kernel
theorem dX3_isMetBy_32 : decode cX3_isMetBy 32 = .ok (.ireturn, 1) := by decide +kernel
set_option maxRecDepth 20000 in
theorem ggX3_writeTo_X5_putByte : GoodIn wsX3_writeTo wsX5_putByte := goodIn_r _ [7, 8, 9, 17, 18, 19, 20] (by decide +kernel) (by decide +kernel)
set_option maxRecDepth 20000 in
theorem gX3_writeTo_X5_putByte : GoodIn wsX3_writeTo (wsV RX3 28 RX5 yX5_putByte wsX5_putByte) := goodIn_app (goodIn_of _ (by decide +kernel)) ggX3_writeTo_X5_putByte
set_option maxRecDepth 20000 in
theorem ggX3_writeTo_X5_putInt : GoodIn wsX3_writeTo wsX5_putInt := goodIn_r _ [13, 14, 4, 5, 6, 7, 8, 9, 17, 18, 19, 20] (by decide +kernel) (by decide +kernel)
set_option maxRecDepth 20000 in
theorem gX3_writeTo_X5_putInt : GoodIn wsX3_writeTo (wsV RX3 34 RX5 yX5_putInt wsX5_putInt) := goodIn_app (goodIn_of _ (by decide +kernel)) ggX3_writeTo_X5_putInt
theorem dX3_writeTo_0 : decode cX3_writeTo 0 = .ok (.iconst 0, 1) := by decide +kernel
theorem dX3_writeTo_1 : decode cX3_writeTo 1 = .ok (.istore_n 2, 1) := by decide +kernel
theorem dX3_writeTo_2 : decode cX3_writeTo 2 = .ok (.iload_n 2, 1) := by decide +kernel
theorem dX3_writeTo_3 : decode cX3_writeTo 3 = .ok (.bipush 10, 2) := by decide +kernel
theorem dX3_writeTo_5 : decode cX3_writeTo 5 = .ok (.if_icmp .ge 29, 3) := by decide +kernel
theorem dX3_writeTo_8 : decode cX3_writeTo 8 = .ok (.aload_n 1, 1) := by decide +kernel
theorem dX3_writeTo_9 : decode cX3_writeTo 9 = .ok (.aload_n 0, 1) := by decide +kernel
theorem dX3_writeTo_10 : decode cX3_writeTo 10 = .ok (.getfield 9, 3) := by decide +kernel
theorem dX3_writeTo_13 : decode cX3_writeTo 13 = .ok (.iload_n 2, 1) := by decide +kernel
theorem dX3_writeTo_14 : decode cX3_writeTo 14 = .ok (.iaload, 1) := by decide +kernel
theorem dX3_writeTo_15 : decode cX3_writeTo 15 = .ok (.invokevirtual 28, 3) := by decide +kernel
theorem dX3_writeTo_18 : decode cX3_writeTo 18 = .ok (.aload_n 1, 1) := by decide +kernel
theorem dX3_writeTo_19 : decode cX3_writeTo 19 = .ok (.aload_n 0, 1) := by decide +kernel
theorem dX3_writeTo_20 : decode cX3_writeTo 20 = .ok (.getfield 15, 3) := by decide +kernel
theorem dX3_writeTo_23 : decode cX3_writeTo 23 = .ok (.iload_n 2, 1) := by decide +kernel
theorem dX3_writeTo_24 : decode cX3_writeTo 24 = .ok (.iaload, 1) := by decide +kernel
theorem dX3_writeTo_25 : decode cX3_writeTo 25 = .ok (.invokevirtual 34, 3) := by decide +kernel
theorem dX3_writeTo_28 : decode cX3_writeTo 28 = .ok (.iinc 2 1, 3) := by decide +kernel
theorem dX3_writeTo_31 : decode cX3_writeTo 31 = .ok (.goto (-29), 3) := by decide +kernel
theorem dX3_writeTo_34 : decode cX3_writeTo 34 = .ok (.return_, 1) := by decide +kernel
set_option maxRecDepth 20000 in
theorem ggX4_init_X3_init : GoodIn wsX4_init wsX3_init := goodIn_r _ [30, 31, 2, 3, 19, 32, 33, 61, 62] (by decide +kernel) (by decide +kernel)
set_option maxRecDepth 20000 in
theorem gX4_init_X3_init : GoodIn wsX4_init (wsX3_init) := ggX4_init_X3_init
set_option maxRecDepth 20000 in
theorem ggX4_init_X6_init : GoodIn wsX4_init wsX6_init := goodIn_r _ [35, 36, 2, 3, 19, 37, 38, 39, 63, 64, 65] (by decide +kernel) (by decide +kernel)
set_option maxRecDepth 20000 in
theorem gX4_init_X6_init_n28 : GoodIn wsX4_init (wsX6_init) := ggX4_init_X6_init
set_option maxRecDepth 20000 in
theorem ggX4_init_X1_init : GoodIn wsX4_init wsX1_init := goodIn_r _ [41, 42, 2, 3, 19, 43, 44, 45, 46, 47, 66, 67, 68, 69] (by decide +kernel) (by decide +kernel)
set_option maxRecDepth 20000 in
theorem gX4_init_X1_init_n35 : GoodIn wsX4_init (wsX1_init) := ggX4_init_X1_init
theorem dX4_init_0 : decode cX4_init 0 = .ok (.aload_n 0, 1) := by decide +kernel
theorem dX4_init_1 : decode cX4_init 1 = .ok (.invokespecial 3, 3) := by decide +kernel
theorem dX4_init_4 : decode cX4_init 4 = .ok (.aload_n 0, 1) := by decide +kernel
theorem dX4_init_5 : decode cX4_init 5 = .ok (.bipush 16, 2) := by decide +kernel
theorem dX4_init_7 : decode cX4_init 7 = .ok (.newarray .byte, 2) := by decide +kernel
theorem dX4_init_9 : decode cX4_init 9 = .ok (.putfield 9, 3) := by decide +kernel
theorem dX4_init_12 : decode cX4_init 12 = .ok (.aload_n 0, 1) := by decide +kernel
theorem dX4_init_13 : decode cX4_init 13 = .ok (.iconst 0, 1) := by decide +kernel
theorem dX4_init_14 : decode cX4_init 14 = .ok (.putfield 15, 3) := by decide +kernel
theorem dX4_init_17 : decode cX4_init 17 = .ok (.aload_n 0, 1) := by decide +kernel
theorem dX4_init_18 : decode cX4_init 18 = .ok (.new 19, 3) := by decide +kernel
theorem dX4_init_21 : decode cX4_init 21 = .ok (.dup, 1) := by decide +kernel
theorem dX4_init_22 : decode cX4_init 22 = .ok (.invokespecial 21, 3) := by decide +kernel
theorem dX4_init_25 : decode cX4_init 25 = .ok (.putfield 22, 3) := by decide +kernel
theorem dX4_init_28 : decode cX4_init 28 = .ok (.aload_n 0, 1) := by decide +kernel
theorem dX4_init_29 : decode cX4_init 29 = .ok (.new 26, 3) := by decide +kernel
theorem dX4_init_32 : decode cX4_init 32 = .ok (.dup, 1) := by decide +kernel
theorem dX4_init_33 : decode cX4_init 33 = .ok (.invokespecial 28, 3) := by decide +kernel
theorem dX4_init_36 : decode cX4_init 36 = .ok (.putfield 29, 3) := by decide +kernel
theorem dX4_init_39 : decode cX4_init 39 = .ok (.aload_n 0, 1) := by decide +kernel
theorem dX4_init_40 : decode cX4_init 40 = .ok (.new 33, 3) := by decide +kernel
theorem dX4_init_43 : decode cX4_init 43 = .ok (.dup, 1) := by decide +kernel
theorem dX4_init_44 : decode cX4_init 44 = .ok (.invokespecial 35, 3) := by decide +kernel
theorem dX4_init_47 : decode cX4_init 47 = .ok (.putfield 36, 3) := by decide +kernel
theorem dX4_init_50 : decode cX4_init 50 = .ok (.aload_n 0, 1) := by decide +kernel
theorem dX4_init_51 : decode cX4_init 51 = .ok (.bipush 6, 2) := by decide +kernel
theorem dX4_init_53 : decode cX4_init 53 = .ok (.newarray .int, 2) := by decide +kernel
theorem dX4_init_55 : decode cX4_init 55 = .ok (.putfield 40, 3) := by decide +kernel
theorem dX4_init_58 : decode cX4_init 58 = .ok (.aload_n 0, 1) := by decide +kernel
theorem dX4_init_59 : decode cX4_init 59 = .ok (.iconst 0, 1) := by decide +kernel
theorem dX4_init_60 : decode cX4_init 60 = .ok (.putfield 44, 3) := by decide +kernel
theorem dX4_init_63 : decode cX4_init 63 = .ok (.aload_n 0, 1) := by decide +kernel
theorem dX4_init_64 : decode cX4_init 64 = .ok (.iconst 0, 1) := by decide +kernel
theorem dX4_init_65 : decode cX4_init 65 = .ok (.putfield 47, 3) := by decide +kernel
theorem dX4_init_68 : decode cX4_init 68 = .ok (.aload_n 0, 1) := by decide +kernel
theorem dX4_init_69 : decode cX4_init 69 = .ok (.iconst 0, 1) := by decide +kernel
theorem dX4_init_70 : decode cX4_init 70 = .ok (.putfield 50, 3) := by decide +kernel
theorem dX4_init_73 : decode cX4_init 73 = .ok (.aload_n 0, 1) := by decide +kernel
theorem dX4_init_74 : decode cX4_init 74 = .ok (.iload_n 1, 1) := by decide +kernel
theorem dX4_init_75 : decode cX4_init 75 = .ok (.putfield 53, 3) := by decide +kernel
theorem dX4_init_78 : decode cX4_init 78 = .ok (.aload_n 0, 1) := by decide +kernel
theorem dX4_init_79 : decode cX4_init 79 = .ok (.iload_n 2, 1) := by decide +kernel
theorem dX4_init_80 : decode cX4_init 80 = .ok (.putfield 56, 3) := by decide +kernel
theorem dX4_init_83 : decode cX4_init 83 = .ok (.aload_n 0, 1) := by decide +kernel
theorem dX4_init_84 : decode cX4_init 84 = .ok (.iload_n 3, 1) := by decide +kernel
theorem dX4_init_85 : decode cX4_init 85 = .ok (.putfield 59, 3) := by decide +kernel
theorem dX4_init_88 : decode cX4_init 88 = .ok (.aload_n 0, 1) := by decide +kernel
theorem dX4_init_89 : decode cX4_init 89 = .ok (.lload 4, 2) := by decide +kernel
theorem dX4_init_91 : decode cX4_init 91 = .ok (.putfield 62, 3) := by decide +kernel
theorem dX4_init_94 : decode cX4_init 94 = .ok (.return_, 1) := by decide +kernel
theorem dX4_isClosed_0 : decode cX4_isClosed 0 = .ok (.aload_n 0, 1) := by decide +kernel
theorem dX4_isClosed_1 : decode cX4_isClosed 1 = .ok (.getfield 47, 3) := by decide +kernel
theorem dX4_isClosed_4 : decode cX4_isClosed 4 = .ok (.ifCond .le 7, 3) := by decide +kernel
theorem dX4_isClosed_7 : decode cX4_isClosed 7 = .ok (.iconst 1, 1) := by decide +kernel
theorem dX4_isClosed_8 : decode cX4_isClosed 8 = .ok (.goto 4, 3) := by decide +kernel
theorem dX4_isClosed_11 : decode cX4_isClosed 11 = .ok (.iconst 0, 1) := by decide +kernel
theorem dX4_isClosed_12 : decode cX4_isClosed 12 = .ok (.ireturn, 1) := by decide +kernel
theorem dX4_isFullySigned_0 : decode cX4_isFullySigned 0 = .ok (.aload_n 0, 1) := by decide +kernel
theorem dX4_isFullySigned_1 : decode cX4_isFullySigned 1 = .ok (.getfield 47, 3) := by decide +kernel
theorem dX4_isFullySigned_4 : decode cX4_isFullySigned 4 = .ok (.bipush 12, 2) := by decide +kernel
theorem dX4_isFullySigned_6 : decode cX4_isFullySigned 6 = .ok (.if_icmp .lt 7, 3) := by decide +kernel
theorem dX4_isFullySigned_9 : decode cX4_isFullySigned 9 = .ok (.iconst 1, 1) := by decide +kernel
theorem dX4_isFullySigned_10 : decode cX4_isFullySigned 10 = .ok (.goto 4, 3) := by decide +kernel
theorem dX4_isFullySigned_13 : decode cX4_isFullySigned 13 = .ok (.iconst 0, 1) := by decide +kernel
theorem dX4_isFullySigned_14 : decode cX4_isFullySigned 14 = .ok (.ireturn, 1) := by decide +kernel
theorem dX4_isAliveAt_0 : decode cX4_isAliveAt 0 = .ok (.aload_n 0, 1) := by decide +kernel
theorem dX4_isAliveAt_1 : decode cX4_isAliveAt 1 = .ok (.getfield 62, 3) := by decide +kernel
theorem dX4_isAliveAt_4 : decode cX4_isAliveAt 4 = .ok (.lload_n 1, 1) := by decide +kernel
theorem dX4_isAliveAt_5 : decode cX4_isAliveAt 5 = .ok (.lcmp, 1) := by decide +kernel
theorem dX4_isAliveAt_6 : decode cX4_isAliveAt 6 = .ok (.ifCond .le 7, 3) := by decide +kernel
theorem dX4_isAliveAt_9 : decode cX4_isAliveAt 9 = .ok (.iconst 1, 1) := by decide +kernel
theorem dX4_isAliveAt_10 : decode cX4_isAliveAt 10 = .ok (.goto 4, 3) := by decide +kernel
theorem dX4_isAliveAt_13 : decode cX4_isAliveAt 13 = .ok (.iconst 0, 1) := by decide +kernel
theorem dX4_isAliveAt_14 : decode cX4_isAliveAt 14 = .ok (.ireturn, 1) := by decide +kernel
theorem dX4_tellsOfPaths_0 : decode cX4_tellsOfPaths 0 = .ok (.aload_n 0, 1) := by decide +kernel
theorem dX4_tellsOfPaths_1 : decode cX4_tellsOfPaths 1 = .ok (.getfield 56, 3) := by decide +kernel
theorem dX4_tellsOfPaths_4 : decode cX4_tellsOfPaths 4 = .ok (.iconst 3, 1) := by decide +kernel
theorem dX4_tellsOfPaths_5 : decode cX4_tellsOfPaths 5 = .ok (.if_icmp .lt 7, 3) := by decide +kernel
theorem dX4_tellsOfPaths_8 : decode cX4_tellsOfPaths 8 = .ok (.iconst 1, 1) := by decide +kernel
theorem dX4_tellsOfPaths_9 : decode cX4_tellsOfPaths 9 = .ok (.goto 4, 3) := by decide +kernel
theorem dX4_tellsOfPaths_12 : decode cX4_tellsOfPaths 12 = .ok (.iconst 0, 1) := by decide +kernel
theorem dX4_tellsOfPaths_13 : decode cX4_tellsOfPaths 13 = .ok (.ireturn, 1) := by decide +kernel
theorem dX4_mayTellOf_0 : decode cX4_mayTellOf 0 = .ok (.aload_n 0, 1) := by decide +kernel
theorem dX4_mayTellOf_1 : decode cX4_mayTellOf 1 = .ok (.getfield 56, 3) := by decide +kernel
theorem dX4_mayTellOf_4 : decode cX4_mayTellOf 4 = .ok (.iconst 1, 1) := by decide +kernel
theorem dX4_mayTellOf_5 : decode cX4_mayTellOf 5 = .ok (.if_icmp .ne 14, 3) := by decide +kernel
theorem dX4_mayTellOf_8 : decode cX4_mayTellOf 8 = .ok (.iload_n 1, 1) := by decide +kernel
theorem dX4_mayTellOf_9 : decode cX4_mayTellOf 9 = .ok (.iconst 2, 1) := by decide +kernel
theorem dX4_mayTellOf_10 : decode cX4_mayTellOf 10 = .ok (.if_icmp .ne 7, 3) := by decide +kernel
theorem dX4_mayTellOf_13 : decode cX4_mayTellOf 13 = .ok (.iconst 1, 1) := by decide +kernel
theorem dX4_mayTellOf_14 : decode cX4_mayTellOf 14 = .ok (.goto 4, 3) := by decide +kernel
theorem dX4_mayTellOf_17 : decode cX4_mayTellOf 17 = .ok (.iconst 0, 1) := by decide +kernel
theorem dX4_mayTellOf_18 : decode cX4_mayTellOf 18 = .ok (.ireturn, 1) := by decide +kernel
theorem dX4_mayTellOf_19 : decode cX4_mayTellOf 19 = .ok (.aload_n 0, 1) := by decide +kernel
theorem dX4_mayTellOf_20 : decode cX4_mayTellOf 20 = .ok (.getfield 56, 3) := by decide +kernel
theorem dX4_mayTellOf_23 : decode cX4_mayTellOf 23 = .ok (.iconst 2, 1) := by decide +kernel
theorem dX4_mayTellOf_24 : decode cX4_mayTellOf 24 = .ok (.if_icmp .ne 18, 3) := by decide +kernel
theorem dX4_mayTellOf_27 : decode cX4_mayTellOf 27 = .ok (.iload_n 1, 1) := by decide +kernel
theorem dX4_mayTellOf_28 : decode cX4_mayTellOf 28 = .ok (.iconst 3, 1) := by decide +kernel
theorem dX4_mayTellOf_29 : decode cX4_mayTellOf 29 = .ok (.if_icmp .lt 13, 3) := by decide +kernel
theorem dX4_mayTellOf_32 : decode cX4_mayTellOf 32 = .ok (.iload_n 1, 1) := by decide +kernel
theorem dX4_mayTellOf_33 : decode cX4_mayTellOf 33 = .ok (.bipush 10, 2) := by decide +kernel
theorem dX4_mayTellOf_35 : decode cX4_mayTellOf 35 = .ok (.if_icmp .ge 7, 3) := by decide +kernel
theorem dX4_mayTellOf_38 : decode cX4_mayTellOf 38 = .ok (.iconst 1, 1) := by decide +kernel
theorem dX4_mayTellOf_39 : decode cX4_mayTellOf 39 = .ok (.goto 4, 3) := by decide +kernel
theorem dX4_mayTellOf_42 : decode cX4_mayTellOf 42 = .ok (.iconst 0, 1) := by decide +kernel
theorem dX4_mayTellOf_43 : decode cX4_mayTellOf 43 = .ok (.ireturn, 1) := by decide +kernel
theorem dX4_addOctet_0 : decode cX4_addOctet 0 = .ok (.aload_n 0, 1) := by decide +kernel
theorem dX4_addOctet_1 : decode cX4_addOctet 1 = .ok (.getfield 15, 3) := by decide +kernel
theorem dX4_addOctet_4 : decode cX4_addOctet 4 = .ok (.bipush 16, 2) := by decide +kernel
theorem dX4_addOctet_6 : decode cX4_addOctet 6 = .ok (.if_icmp .lt 5, 3) := by decide +kernel
theorem dX4_addOctet_9 : decode cX4_addOctet 9 = .ok (.iconst (-1), 1) := by decide +kernel
theorem dX4_addOctet_10 : decode cX4_addOctet 10 = .ok (.ireturn, 1) := by decide +kernel
theorem dX4_addOctet_11 : decode cX4_addOctet 11 = .ok (.aload_n 0, 1) := by decide +kernel
theorem dX4_addOctet_12 : decode cX4_addOctet 12 = .ok (.getfield 9, 3) := by decide +kernel
theorem dX4_addOctet_15 : decode cX4_addOctet 15 = .ok (.aload_n 0, 1) := by decide +kernel
theorem dX4_addOctet_16 : decode cX4_addOctet 16 = .ok (.getfield 15, 3) := by decide +kernel
theorem dX4_addOctet_19 : decode cX4_addOctet 19 = .ok (.iload_n 1, 1) := by decide +kernel
theorem dX4_addOctet_20 : decode cX4_addOctet 20 = .ok (.i2b, 1) := by decide +kernel
theorem dX4_addOctet_21 : decode cX4_addOctet 21 = .ok (.bastore, 1) := by decide +kernel
theorem dX4_addOctet_22 : decode cX4_addOctet 22 = .ok (.aload_n 0, 1) := by decide +kernel
theorem dX4_addOctet_23 : decode cX4_addOctet 23 = .ok (.dup, 1) := by decide +kernel
theorem dX4_addOctet_24 : decode cX4_addOctet 24 = .ok (.getfield 15, 3) := by decide +kernel
theorem dX4_addOctet_27 : decode cX4_addOctet 27 = .ok (.iconst 1, 1) := by decide +kernel
theorem dX4_addOctet_28 : decode cX4_addOctet 28 = .ok (.iadd, 1) := by decide +kernel
theorem dX4_addOctet_29 : decode cX4_addOctet 29 = .ok (.putfield 15, 3) := by decide +kernel
theorem dX4_addOctet_32 : decode cX4_addOctet 32 = .ok (.aload_n 0, 1) := by decide +kernel
theorem dX4_addOctet_33 : decode cX4_addOctet 33 = .ok (.getfield 15, 3) := by decide +kernel
theorem dX4_addOctet_36 : decode cX4_addOctet 36 = .ok (.ireturn, 1) := by decide +kernel
theorem dX4_addPath_0 : decode cX4_addPath 0 = .ok (.aload_n 0, 1) := by decide +kernel
theorem dX4_addPath_1 : decode cX4_addPath 1 = .ok (.getfield 44, 3) := by decide +kernel
theorem dX4_addPath_4 : decode cX4_addPath 4 = .ok (.bipush 6, 2) := by decide +kernel
theorem dX4_addPath_6 : decode cX4_addPath 6 = .ok (.if_icmp .lt 5, 3) := by decide +kernel
theorem dX4_addPath_9 : decode cX4_addPath 9 = .ok (.iconst (-1), 1) := by decide +kernel
theorem dX4_addPath_10 : decode cX4_addPath 10 = .ok (.ireturn, 1) := by decide +kernel
theorem dX4_addPath_11 : decode cX4_addPath 11 = .ok (.aload_n 0, 1) := by decide +kernel
theorem dX4_addPath_12 : decode cX4_addPath 12 = .ok (.getfield 40, 3) := by decide +kernel
theorem dX4_addPath_15 : decode cX4_addPath 15 = .ok (.aload_n 0, 1) := by decide +kernel
theorem dX4_addPath_16 : decode cX4_addPath 16 = .ok (.getfield 44, 3) := by decide +kernel
theorem dX4_addPath_19 : decode cX4_addPath 19 = .ok (.iload_n 1, 1) := by decide +kernel
theorem dX4_addPath_20 : decode cX4_addPath 20 = .ok (.iastore, 1) := by decide +kernel
theorem dX4_addPath_21 : decode cX4_addPath 21 = .ok (.aload_n 0, 1) := by decide +kernel
theorem dX4_addPath_22 : decode cX4_addPath 22 = .ok (.dup, 1) := by decide +kernel
theorem dX4_addPath_23 : decode cX4_addPath 23 = .ok (.getfield 44, 3) := by decide +kernel
theorem dX4_addPath_26 : decode cX4_addPath 26 = .ok (.iconst 1, 1) := by decide +kernel
theorem dX4_addPath_27 : decode cX4_addPath 27 = .ok (.iadd, 1) := by decide +kernel
theorem dX4_addPath_28 : decode cX4_addPath 28 = .ok (.putfield 44, 3) := by decide +kernel
theorem dX4_addPath_31 : decode cX4_addPath 31 = .ok (.aload_n 0, 1) := by decide +kernel
theorem dX4_addPath_32 : decode cX4_addPath 32 = .ok (.getfield 44, 3) := by decide +kernel
theorem dX4_addPath_35 : decode cX4_addPath 35 = .ok (.ireturn, 1) := by decide +kernel
theorem dX4_hasPath_0 : decode cX4_hasPath 0 = .ok (.iconst 0, 1) := by decide +kernel
theorem dX4_hasPath_1 : decode cX4_hasPath 1 = .ok (.istore_n 2, 1) := by decide +kernel
theorem dX4_hasPath_2 : decode cX4_hasPath 2 = .ok (.iload_n 2, 1) := by decide +kernel
theorem dX4_hasPath_3 : decode cX4_hasPath 3 = .ok (.aload_n 0, 1) := by decide +kernel
theorem dX4_hasPath_4 : decode cX4_hasPath 4 = .ok (.getfield 44, 3) := by decide +kernel
theorem dX4_hasPath_7 : decode cX4_hasPath 7 = .ok (.if_icmp .ge 21, 3) := by decide +kernel
theorem dX4_hasPath_10 : decode cX4_hasPath 10 = .ok (.aload_n 0, 1) := by decide +kernel
theorem dX4_hasPath_11 : decode cX4_hasPath 11 = .ok (.getfield 40, 3) := by decide +kernel
theorem dX4_hasPath_14 : decode cX4_hasPath 14 = .ok (.iload_n 2, 1) := by decide +kernel
theorem dX4_hasPath_15 : decode cX4_hasPath 15 = .ok (.iaload, 1) := by decide +kernel
theorem dX4_hasPath_16 : decode cX4_hasPath 16 = .ok (.iload_n 1, 1) := by decide +kernel
theorem dX4_hasPath_17 : decode cX4_hasPath 17 = .ok (.if_icmp .ne 5, 3) := by decide +kernel
theorem dX4_hasPath_20 : decode cX4_hasPath 20 = .ok (.iconst 1, 1) := by decide +kernel
theorem dX4_hasPath_21 : decode cX4_hasPath 21 = .ok (.ireturn, 1) := by decide +kernel
theorem dX4_hasPath_22 : decode cX4_hasPath 22 = .ok (.iinc 2 1, 3) := by decide +kernel
theorem dX4_hasPath_25 : decode cX4_hasPath 25 = .ok (.goto (-23), 3) := by decide +kernel
theorem dX4_hasPath_28 : decode cX4_hasPath 28 = .ok (.iconst 0, 1) := by decide +kernel
theorem dX4_hasPath_29 : decode cX4_hasPath 29 = .ok (.ireturn, 1) := by decide +kernel
theorem dX4_addSignature_0 : decode cX4_addSignature 0 = .ok (.aload_n 0, 1) := by decide +kernel
theorem dX4_addSignature_1 : decode cX4_addSignature 1 = .ok (.dup, 1) := by decide +kernel
theorem dX4_addSignature_2 : decode cX4_addSignature 2 = .ok (.getfield 47, 3) := by decide +kernel
theorem dX4_addSignature_5 : decode cX4_addSignature 5 = .ok (.iconst 1, 1) := by decide +kernel
theorem dX4_addSignature_6 : decode cX4_addSignature 6 = .ok (.iadd, 1) := by decide +kernel
theorem dX4_addSignature_7 : decode cX4_addSignature 7 = .ok (.putfield 47, 3) := by decide +kernel
theorem dX4_addSignature_10 : decode cX4_addSignature 10 = .ok (.iload_n 2, 1) := by decide +kernel
theorem dX4_addSignature_11 : decode cX4_addSignature 11 = .ok (.ifCond .eq 15, 3) := by decide +kernel
theorem dX4_addSignature_14 : decode cX4_addSignature 14 = .ok (.aload_n 0, 1) := by decide +kernel
theorem dX4_addSignature_15 : decode cX4_addSignature 15 = .ok (.dup, 1) := by decide +kernel
theorem dX4_addSignature_16 : decode cX4_addSignature 16 = .ok (.getfield 50, 3) := by decide +kernel
theorem dX4_addSignature_19 : decode cX4_addSignature 19 = .ok (.iconst 1, 1) := by decide +kernel
theorem dX4_addSignature_20 : decode cX4_addSignature 20 = .ok (.iload_n 1, 1) := by decide +kernel
theorem dX4_addSignature_21 : decode cX4_addSignature 21 = .ok (.ishl, 1) := by decide +kernel
theorem dX4_addSignature_22 : decode cX4_addSignature 22 = .ok (.ior, 1) := by decide +kernel
theorem dX4_addSignature_23 : decode cX4_addSignature 23 = .ok (.putfield 50, 3) := by decide +kernel
theorem dX4_addSignature_26 : decode cX4_addSignature 26 = .ok (.return_, 1) := by decide +kernel
set_option maxRecDepth 20000 in
theorem ggX4_writeTo_X5_putByte : GoodIn wsX4_writeTo wsX5_putByte := goodIn_r _ [13, 14, 15, 80, 81, 82, 83] (by decide +kernel) (by decide +kernel)
set_option maxRecDepth 20000 in
theorem gX4_writeTo_X5_putByte : GoodIn wsX4_writeTo (wsV RX4 66 RX5 yX5_putByte wsX5_putByte) := goodIn_app (goodIn_of _ (by decide +kernel)) ggX4_writeTo_X5_putByte
set_option maxRecDepth 20000 in
theorem ggX4_writeTo_X5_putInt : GoodIn wsX4_writeTo wsX5_putInt := goodIn_r _ [19, 20, 10, 11, 12, 13, 14, 15, 80, 81, 82, 83] (by decide +kernel) (by decide +kernel)
set_option maxRecDepth 20000 in
theorem gX4_writeTo_X5_putInt : GoodIn wsX4_writeTo (wsV RX4 72 RX5 yX5_putInt wsX5_putInt) := goodIn_app (goodIn_of _ (by decide +kernel)) ggX4_writeTo_X5_putInt
set_option maxRecDepth 20000 in
theorem ggX4_writeTo_X5_putLong : GoodIn wsX4_writeTo wsX5_putLong := goodIn_r _ [24, 25, 17, 18, 12, 19, 20, 10, 11, 13, 14, 15, 80, 81, 82, 83] (by decide +kernel) (by decide +kernel)
set_option maxRecDepth 20000 in
theorem gX4_writeTo_X5_putLong : GoodIn wsX4_writeTo (wsV RX4 75 RX5 yX5_putLong wsX5_putLong) := goodIn_app (goodIn_of _ (by decide +kernel)) ggX4_writeTo_X5_putLong
set_option maxRecDepth 20000 in
theorem ggX4_writeTo_X3_writeTo : GoodIn wsX4_writeTo wsX3_writeTo := goodIn_r _ [30, 31, 32, 33, 10, 11, 12, 13, 14, 15, 34, 17, 18, 19, 20, 84, 85, 80, 81, 82, 83] (by decide +kernel) (by decide +kernel)
set_option maxRecDepth 20000 in
theorem gX4_writeTo_X3_writeTo : GoodIn wsX4_writeTo (wsV RX4 79 RX3 yX3_writeTo wsX3_writeTo) := goodIn_app (goodIn_of _ (by decide +kernel)) ggX4_writeTo_X3_writeTo
set_option maxRecDepth 20000 in
theorem ggX4_writeTo_X4_tellsOfPaths : GoodIn wsX4_writeTo wsX4_tellsOfPaths := goodIn_r _ [39, 1, 67, 68, 69, 70, 71, 72, 73, 74, 75, 76, 77, 78, 79] (by decide +kernel) (by decide +kernel)
set_option maxRecDepth 20000 in
theorem gX4_writeTo_X4_tellsOfPaths : GoodIn wsX4_writeTo (wsV RX4 83 RX4 yX4_tellsOfPaths wsX4_tellsOfPaths) := goodIn_app (goodIn_of _ (by decide +kernel)) ggX4_writeTo_X4_tellsOfPaths
set_option maxRecDepth 20000 in
theorem ggX4_writeTo_X1_writeTo : GoodIn wsX4_writeTo wsX1_writeTo := goodIn_r _ [44, 45, 46, 47, 48, 49, 10, 11, 12, 13, 14, 15, 50, 17, 18, 19, 20, 86, 87, 88, 89, 80, 81, 82, 83] (by decide +kernel) (by decide +kernel)
set_option maxRecDepth 20000 in
theorem gX4_writeTo_X1_writeTo : GoodIn wsX4_writeTo (wsV RX4 87 RX1 yX1_writeTo wsX1_writeTo) := goodIn_app (goodIn_of _ (by decide +kernel)) ggX4_writeTo_X1_writeTo
set_option maxRecDepth 20000 in
theorem ggX4_writeTo_X4_writePathsTo : GoodIn wsX4_writeTo wsX4_writePathsTo := goodIn_r _ [54, 55, 56, 9, 10, 11, 12, 13, 14, 15, 16, 17, 18, 19, 20, 67, 68, 69, 70, 71, 72, 73, 74, 75, 76, 77, 78, 79, 80, 81, 82, 83] (by decide +kernel) (by decide +kernel)
set_option maxRecDepth 20000 in
theorem gX4_writeTo_X4_writePathsTo : GoodIn wsX4_writeTo (wsV RX4 88 RX4 yX4_writePathsTo wsX4_writePathsTo) := goodIn_app (goodIn_of _ (by decide +kernel)) ggX4_writeTo_X4_writePathsTo
set_option maxRecDepth 20000 in
theorem ggX4_writeTo_X6_writeTo : GoodIn wsX4_writeTo wsX6_writeTo := goodIn_r _ [61, 62, 63, 64, 65, 10, 11, 12, 13, 14, 15, 66, 17, 18, 19, 20, 90, 91, 92, 80, 81, 82, 83] (by decide +kernel) (by decide +kernel)
set_option maxRecDepth 20000 in
theorem gX4_writeTo_X6_writeTo : GoodIn wsX4_writeTo (wsV RX4 91 RX6 yX6_writeTo wsX6_writeTo) := goodIn_app (goodIn_of _ (by decide +kernel)) ggX4_writeTo_X6_writeTo
theorem dX4_writeTo_0 : decode cX4_writeTo 0 = .ok (.aload_n 1, 1) := by decide +kernel
theorem dX4_writeTo_1 : decode cX4_writeTo 1 = .ok (.aload_n 0, 1) := by decide +kernel
theorem dX4_writeTo_2 : decode cX4_writeTo 2 = .ok (.getfield 56, 3) := by decide +kernel
theorem dX4_writeTo_5 : decode cX4_writeTo 5 = .ok (.invokevirtual 66, 3) := by decide +kernel
theorem dX4_writeTo_8 : decode cX4_writeTo 8 = .ok (.aload_n 1, 1) := by decide +kernel
theorem dX4_writeTo_9 : decode cX4_writeTo 9 = .ok (.aload_n 0, 1) := by decide +kernel
theorem dX4_writeTo_10 : decode cX4_writeTo 10 = .ok (.getfield 59, 3) := by decide +kernel
theorem dX4_writeTo_13 : decode cX4_writeTo 13 = .ok (.invokevirtual 72, 3) := by decide +kernel
theorem dX4_writeTo_16 : decode cX4_writeTo 16 = .ok (.aload_n 1, 1) := by decide +kernel
theorem dX4_writeTo_17 : decode cX4_writeTo 17 = .ok (.aload_n 0, 1) := by decide +kernel
theorem dX4_writeTo_18 : decode cX4_writeTo 18 = .ok (.getfield 62, 3) := by decide +kernel
theorem dX4_writeTo_21 : decode cX4_writeTo 21 = .ok (.invokevirtual 75, 3) := by decide +kernel
theorem dX4_writeTo_24 : decode cX4_writeTo 24 = .ok (.aload_n 1, 1) := by decide +kernel
theorem dX4_writeTo_25 : decode cX4_writeTo 25 = .ok (.aload_n 0, 1) := by decide +kernel
theorem dX4_writeTo_26 : decode cX4_writeTo 26 = .ok (.getfield 15, 3) := by decide +kernel
theorem dX4_writeTo_29 : decode cX4_writeTo 29 = .ok (.invokevirtual 66, 3) := by decide +kernel
theorem dX4_writeTo_32 : decode cX4_writeTo 32 = .ok (.iconst 0, 1) := by decide +kernel
theorem dX4_writeTo_33 : decode cX4_writeTo 33 = .ok (.istore_n 2, 1) := by decide +kernel
theorem dX4_writeTo_34 : decode cX4_writeTo 34 = .ok (.iload_n 2, 1) := by decide +kernel
theorem dX4_writeTo_35 : decode cX4_writeTo 35 = .ok (.aload_n 0, 1) := by decide +kernel
theorem dX4_writeTo_36 : decode cX4_writeTo 36 = .ok (.getfield 15, 3) := by decide +kernel
theorem dX4_writeTo_39 : decode cX4_writeTo 39 = .ok (.if_icmp .ge 19, 3) := by decide +kernel
theorem dX4_writeTo_42 : decode cX4_writeTo 42 = .ok (.aload_n 1, 1) := by decide +kernel
theorem dX4_writeTo_43 : decode cX4_writeTo 43 = .ok (.aload_n 0, 1) := by decide +kernel
theorem dX4_writeTo_44 : decode cX4_writeTo 44 = .ok (.getfield 9, 3) := by decide +kernel
theorem dX4_writeTo_47 : decode cX4_writeTo 47 = .ok (.iload_n 2, 1) := by decide +kernel
theorem dX4_writeTo_48 : decode cX4_writeTo 48 = .ok (.baload, 1) := by decide +kernel
theorem dX4_writeTo_49 : decode cX4_writeTo 49 = .ok (.invokevirtual 66, 3) := by decide +kernel
theorem dX4_writeTo_52 : decode cX4_writeTo 52 = .ok (.iinc 2 1, 3) := by decide +kernel
theorem dX4_writeTo_55 : decode cX4_writeTo 55 = .ok (.goto (-21), 3) := by decide +kernel
theorem dX4_writeTo_58 : decode cX4_writeTo 58 = .ok (.aload_n 0, 1) := by decide +kernel
theorem dX4_writeTo_59 : decode cX4_writeTo 59 = .ok (.getfield 56, 3) := by decide +kernel
theorem dX4_writeTo_62 : decode cX4_writeTo 62 = .ok (.ifCond .ne 14, 3) := by decide +kernel
theorem dX4_writeTo_65 : decode cX4_writeTo 65 = .ok (.aload_n 0, 1) := by decide +kernel
theorem dX4_writeTo_66 : decode cX4_writeTo 66 = .ok (.getfield 22, 3) := by decide +kernel
theorem dX4_writeTo_69 : decode cX4_writeTo 69 = .ok (.aload_n 1, 1) := by decide +kernel
theorem dX4_writeTo_70 : decode cX4_writeTo 70 = .ok (.invokevirtual 79, 3) := by decide +kernel
theorem dX4_writeTo_73 : decode cX4_writeTo 73 = .ok (.goto 34, 3) := by decide +kernel
theorem dX4_writeTo_76 : decode cX4_writeTo 76 = .ok (.aload_n 0, 1) := by decide +kernel
theorem dX4_writeTo_77 : decode cX4_writeTo 77 = .ok (.invokevirtual 83, 3) := by decide +kernel
theorem dX4_writeTo_80 : decode cX4_writeTo 80 = .ok (.ifCond .eq 19, 3) := by decide +kernel
theorem dX4_writeTo_83 : decode cX4_writeTo 83 = .ok (.aload_n 0, 1) := by decide +kernel
theorem dX4_writeTo_84 : decode cX4_writeTo 84 = .ok (.getfield 36, 3) := by decide +kernel
theorem dX4_writeTo_87 : decode cX4_writeTo 87 = .ok (.aload_n 1, 1) := by decide +kernel
theorem dX4_writeTo_88 : decode cX4_writeTo 88 = .ok (.invokevirtual 87, 3) := by decide +kernel
theorem dX4_writeTo_91 : decode cX4_writeTo 91 = .ok (.aload_n 0, 1) := by decide +kernel
theorem dX4_writeTo_92 : decode cX4_writeTo 92 = .ok (.aload_n 1, 1) := by decide +kernel
theorem dX4_writeTo_93 : decode cX4_writeTo 93 = .ok (.invokevirtual 88, 3) := by decide +kernel
theorem dX4_writeTo_96 : decode cX4_writeTo 96 = .ok (.goto 11, 3) := by decide +kernel
theorem dX4_writeTo_99 : decode cX4_writeTo 99 = .ok (.aload_n 0, 1) := by decide +kernel
theorem dX4_writeTo_100 : decode cX4_writeTo 100 = .ok (.getfield 29, 3) := by decide +kernel
theorem dX4_writeTo_103 : decode cX4_writeTo 103 = .ok (.aload_n 1, 1) := by decide +kernel
theorem dX4_writeTo_104 : decode cX4_writeTo 104 = .ok (.invokevirtual 91, 3) := by decide +kernel
theorem dX4_writeTo_107 : decode cX4_writeTo 107 = .ok (.return_, 1) := by decide +kernel
set_option maxRecDepth 20000 in
theorem ggX4_writePathsTo_X5_putByte : GoodIn wsX4_writePathsTo wsX5_putByte := goodIn_r _ [7, 8, 9, 28, 29, 30, 31] (by decide +kernel) (by decide +kernel)
set_option maxRecDepth 20000 in
theorem gX4_writePathsTo_X5_putByte : GoodIn wsX4_writePathsTo (wsV RX4 66 RX5 yX5_putByte wsX5_putByte) := goodIn_app (goodIn_of _ (by decide +kernel)) ggX4_writePathsTo_X5_putByte
set_option maxRecDepth 20000 in
theorem ggX4_writePathsTo_X5_putInt : GoodIn wsX4_writePathsTo wsX5_putInt := goodIn_r _ [13, 14, 4, 5, 6, 7, 8, 9, 28, 29, 30, 31] (by decide +kernel) (by decide +kernel)
set_option maxRecDepth 20000 in
theorem gX4_writePathsTo_X5_putInt : GoodIn wsX4_writePathsTo (wsV RX4 72 RX5 yX5_putInt wsX5_putInt) := goodIn_app (goodIn_of _ (by decide +kernel)) ggX4_writePathsTo_X5_putInt
theorem dX4_writePathsTo_0 : decode cX4_writePathsTo 0 = .ok (.aload_n 1, 1) := by decide +kernel
theorem dX4_writePathsTo_1 : decode cX4_writePathsTo 1 = .ok (.aload_n 0, 1) := by decide +kernel
theorem dX4_writePathsTo_2 : decode cX4_writePathsTo 2 = .ok (.getfield 44, 3) := by decide +kernel
theorem dX4_writePathsTo_5 : decode cX4_writePathsTo 5 = .ok (.invokevirtual 66, 3) := by decide +kernel
theorem dX4_writePathsTo_8 : decode cX4_writePathsTo 8 = .ok (.iconst 0, 1) := by decide +kernel
theorem dX4_writePathsTo_9 : decode cX4_writePathsTo 9 = .ok (.istore_n 2, 1) := by decide +kernel
theorem dX4_writePathsTo_10 : decode cX4_writePathsTo 10 = .ok (.iload_n 2, 1) := by decide +kernel
theorem dX4_writePathsTo_11 : decode cX4_writePathsTo 11 = .ok (.aload_n 0, 1) := by decide +kernel
theorem dX4_writePathsTo_12 : decode cX4_writePathsTo 12 = .ok (.getfield 44, 3) := by decide +kernel
theorem dX4_writePathsTo_15 : decode cX4_writePathsTo 15 = .ok (.if_icmp .ge 19, 3) := by decide +kernel
theorem dX4_writePathsTo_18 : decode cX4_writePathsTo 18 = .ok (.aload_n 1, 1) := by decide +kernel
theorem dX4_writePathsTo_19 : decode cX4_writePathsTo 19 = .ok (.aload_n 0, 1) := by decide +kernel
theorem dX4_writePathsTo_20 : decode cX4_writePathsTo 20 = .ok (.getfield 40, 3) := by decide +kernel
theorem dX4_writePathsTo_23 : decode cX4_writePathsTo 23 = .ok (.iload_n 2, 1) := by decide +kernel
theorem dX4_writePathsTo_24 : decode cX4_writePathsTo 24 = .ok (.iaload, 1) := by decide +kernel
theorem dX4_writePathsTo_25 : decode cX4_writePathsTo 25 = .ok (.invokevirtual 72, 3) := by decide +kernel
theorem dX4_writePathsTo_28 : decode cX4_writePathsTo 28 = .ok (.iinc 2 1, 3) := by decide +kernel
theorem dX4_writePathsTo_31 : decode cX4_writePathsTo 31 = .ok (.goto (-21), 3) := by decide +kernel
theorem dX4_writePathsTo_34 : decode cX4_writePathsTo 34 = .ok (.return_, 1) := by decide +kernel
theorem dX5_init_0 : decode cX5_init 0 = .ok (.aload_n 0, 1) := by decide +kernel
theorem dX5_init_1 : decode cX5_init 1 = .ok (.invokespecial 5, 3) := by decide +kernel
theorem dX5_init_4 : decode cX5_init 4 = .ok (.aload_n 0, 1) := by decide +kernel
theorem dX5_init_5 : decode cX5_init 5 = .ok (.sipush 128, 3) := by decide +kernel
theorem dX5_init_8 : decode cX5_init 8 = .ok (.newarray .byte, 2) := by decide +kernel
theorem dX5_init_10 : decode cX5_init 10 = .ok (.putfield 11, 3) := by decide +kernel
theorem dX5_init_13 : decode cX5_init 13 = .ok (.aload_n 0, 1) := by decide +kernel
theorem dX5_init_14 : decode cX5_init 14 = .ok (.bipush 64, 2) := by decide +kernel
theorem dX5_init_16 : decode cX5_init 16 = .ok (.newarray .int, 2) := by decide +kernel
theorem dX5_init_18 : decode cX5_init 18 = .ok (.putfield 15, 3) := by decide +kernel
theorem dX5_init_21 : decode cX5_init 21 = .ok (.aload_n 0, 1) := by decide +kernel
theorem dX5_init_22 : decode cX5_init 22 = .ok (.bipush 8, 2) := by decide +kernel
theorem dX5_init_24 : decode cX5_init 24 = .ok (.newarray .int, 2) := by decide +kernel
theorem dX5_init_26 : decode cX5_init 26 = .ok (.putfield 19, 3) := by decide +kernel
theorem dX5_init_29 : decode cX5_init 29 = .ok (.aload_n 0, 1) := by decide +kernel
theorem dX5_init_30 : decode cX5_init 30 = .ok (.iconst 0, 1) := by decide +kernel
theorem dX5_init_31 : decode cX5_init 31 = .ok (.putfield 22, 3) := by decide +kernel
theorem dX5_init_34 : decode cX5_init 34 = .ok (.return_, 1) := by decide +kernel
theorem dX5_begin_0 : decode cX5_begin 0 = .ok (.aload_n 0, 1) := by decide +kernel
