theorem dX7_update_11 : decode cX7_update 11 = .ok (.invokevirtual 143, 3) := by decide +kernel
theorem dX7_update_14 : decode cX7_update 14 = .ok (.istore 5, 2) := by decide +kernel
theorem dX7_update_16 : decode cX7_update 16 = .ok (.iload 5, 2) := by decide +kernel
theorem dX7_update_18 : decode cX7_update 18 = .ok (.ifCond .eq 7, 3) := by decide +kernel
theorem dX7_update_21 : decode cX7_update 21 = .ok (.iload 5, 2) := by decide +kernel
theorem dX7_update_23 : decode cX7_update 23 = .ok (.ineg, 1) := by decide +kernel
theorem dX7_update_24 : decode cX7_update 24 = .ok (.ireturn, 1) := by decide +kernel
theorem dX7_update_25 : decode cX7_update 25 = .ok (.aload_n 0, 1) := by decide +kernel
theorem dX7_update_26 : decode cX7_update 26 = .ok (.getfield 36, 3) := by decide +kernel
theorem dX7_update_29 : decode cX7_update 29 = .ok (.aload 4, 2) := by decide +kernel
theorem dX7_update_31 : decode cX7_update 31 = .ok (.invokevirtual 147, 3) := by decide +kernel
theorem dX7_update_34 : decode cX7_update 34 = .ok (.iconst 1, 1) := by decide +kernel
theorem dX7_update_35 : decode cX7_update 35 = .ok (.ireturn, 1) := by decide +kernel
set_option maxRecDepth 20000 in
theorem ggX7_revoke_X2_has : GoodIn wsX7_revoke wsX2_has := goodIn_r _ [7, 8, 22, 23, 24] (by decide +kernel) (by decide +kernel)
set_option maxRecDepth 20000 in
theorem gX7_revoke_X2_has : GoodIn wsX7_revoke (wsV RX7 63 RX2 yX2_has wsX2_has) := goodIn_app (goodIn_of _ (by decide +kernel)) ggX7_revoke_X2_has
set_option maxRecDepth 20000 in
theorem ggX7_revoke_X0_learnRevoked : GoodIn wsX7_revoke wsX0_learnRevoked := goodIn_r _ [13, 14, 25, 26, 27] (by decide +kernel) (by decide +kernel)
set_option maxRecDepth 20000 in
theorem gX7_revoke_X0_learnRevoked : GoodIn wsX7_revoke (wsV RX7 151 RX0 yX0_learnRevoked wsX0_learnRevoked) := goodIn_app (goodIn_of _ (by decide +kernel)) ggX7_revoke_X0_learnRevoked
theorem dX7_revoke_0 : decode cX7_revoke 0 = .ok (.aload_n 0, 1) := by decide +kernel
theorem dX7_revoke_1 : decode cX7_revoke 1 = .ok (.getfield 12, 3) := by decide +kernel
theorem dX7_revoke_4 : decode cX7_revoke 4 = .ok (.iload_n 1, 1) := by decide +kernel
theorem dX7_revoke_5 : decode cX7_revoke 5 = .ok (.invokevirtual 63, 3) := by decide +kernel
theorem dX7_revoke_8 : decode cX7_revoke 8 = .ok (.ifCond .eq 18, 3) := by decide +kernel
theorem dX7_revoke_11 : decode cX7_revoke 11 = .ok (.aload_n 0, 1) := by decide +kernel
theorem dX7_revoke_12 : decode cX7_revoke 12 = .ok (.getfield 36, 3) := by decide +kernel
theorem dX7_revoke_15 : decode cX7_revoke 15 = .ok (.iload_n 1, 1) := by decide +kernel
theorem dX7_revoke_16 : decode cX7_revoke 16 = .ok (.invokevirtual 151, 3) := by decide +kernel
theorem dX7_revoke_19 : decode cX7_revoke 19 = .ok (.ifCond .eq 7, 3) := by decide +kernel
theorem dX7_revoke_22 : decode cX7_revoke 22 = .ok (.iconst 1, 1) := by decide +kernel
theorem dX7_revoke_23 : decode cX7_revoke 23 = .ok (.goto 4, 3) := by decide +kernel
theorem dX7_revoke_26 : decode cX7_revoke 26 = .ok (.iconst 0, 1) := by decide +kernel
theorem dX7_revoke_27 : decode cX7_revoke 27 = .ok (.ireturn, 1) := by decide +kernel
set_option maxRecDepth 20000 in
theorem ggX7_find_X7_partsOfPath : GoodIn wsX7_find wsX7_partsOfPath := goodIn_r _ [5, 6, 7, 4, 8] (by decide +kernel) (by decide +kernel)
set_option maxRecDepth 20000 in
theorem gX7_find_X7_partsOfPath : GoodIn wsX7_find (va_wsS RX7 123 yX7_partsOfPath wsX7_partsOfPath) := goodIn_app (goodIn_of _ (by decide +kernel)) ggX7_find_X7_partsOfPath
set_option maxRecDepth 20000 in
theorem ggX7_find_X0_roleOfPath : GoodIn wsX7_find wsX0_roleOfPath := goodIn_r _ [13, 14, 15, 16, 17, 12, 18, 19, 20, 21, 22, 23, 24, 4, 25, 26, 27, 28, 29, 30, 31, 32, 33, 34, 35, 36, 37, 38, 39, 40, 41, 6, 7, 8, 2, 3, 5, 42, 43, 44, 45, 53, 54, 55, 56, 57, 58, 59, 60, 61, 62, 63, 64, 65, 66, 67, 68, 69, 70, 71, 72] (by decide +kernel) (by decide +kernel)
set_option maxRecDepth 20000 in
theorem gX7_find_X0_roleOfPath : GoodIn wsX7_find (wsV RX7 154 RX0 yX0_roleOfPath wsX0_roleOfPath) := goodIn_app (goodIn_of _ (by decide +kernel)) ggX7_find_X0_roleOfPath
theorem dX7_find_0 : decode cX7_find 0 = .ok (.iload_n 1, 1) := by decide +kernel
theorem dX7_find_1 : decode cX7_find 1 = .ok (.invokestatic 123, 3) := by decide +kernel
theorem dX7_find_4 : decode cX7_find 4 = .ok (.ifCond .ne 7, 3) := by decide +kernel
theorem dX7_find_7 : decode cX7_find 7 = .ok (.iconst (-1), 1) := by decide +kernel
theorem dX7_find_8 : decode cX7_find 8 = .ok (.goto 11, 3) := by decide +kernel
theorem dX7_find_11 : decode cX7_find 11 = .ok (.aload_n 0, 1) := by decide +kernel
theorem dX7_find_12 : decode cX7_find 12 = .ok (.getfield 36, 3) := by decide +kernel
theorem dX7_find_15 : decode cX7_find 15 = .ok (.iload_n 1, 1) := by decide +kernel
theorem dX7_find_16 : decode cX7_find 16 = .ok (.invokevirtual 154, 3) := by decide +kernel
theorem dX7_find_19 : decode cX7_find 19 = .ok (.ireturn, 1) := by decide +kernel
set_option maxRecDepth 20000 in
theorem ggX7_version_X7_isRole : GoodIn wsX7_version wsX7_isRole := goodIn_r _ [5] (by decide +kernel) (by decide +kernel)
set_option maxRecDepth 20000 in
theorem gX7_version_X7_isRole : GoodIn wsX7_version (va_wsS RX7 55 yX7_isRole wsX7_isRole) := goodIn_app (goodIn_of _ (by decide +kernel)) ggX7_version_X7_isRole
set_option maxRecDepth 20000 in
theorem ggX7_version_X0_currentOf : GoodIn wsX7_version wsX0_currentOf := goodIn_r _ [10, 11, 3, 4, 5, 32, 33, 34] (by decide +kernel) (by decide +kernel)
set_option maxRecDepth 20000 in
theorem gX7_version_X0_currentOf : GoodIn wsX7_version (wsV RX7 157 RX0 yX0_currentOf wsX0_currentOf) := goodIn_app (goodIn_of _ (by decide +kernel)) ggX7_version_X0_currentOf
theorem dX7_version_0 : decode cX7_version 0 = .ok (.iload_n 1, 1) := by decide +kernel
theorem dX7_version_1 : decode cX7_version 1 = .ok (.invokestatic 55, 3) := by decide +kernel
theorem dX7_version_4 : decode cX7_version 4 = .ok (.ifCond .ne 5, 3) := by decide +kernel
theorem dX7_version_7 : decode cX7_version 7 = .ok (.iconst (-1), 1) := by decide +kernel
theorem dX7_version_8 : decode cX7_version 8 = .ok (.ireturn, 1) := by decide +kernel
theorem dX7_version_9 : decode cX7_version 9 = .ok (.aload_n 0, 1) := by decide +kernel
theorem dX7_version_10 : decode cX7_version 10 = .ok (.getfield 36, 3) := by decide +kernel
theorem dX7_version_13 : decode cX7_version 13 = .ok (.iload_n 1, 1) := by decide +kernel
theorem dX7_version_14 : decode cX7_version 14 = .ok (.invokevirtual 157, 3) := by decide +kernel
theorem dX7_version_17 : decode cX7_version 17 = .ok (.astore_n 2, 1) := by decide +kernel
theorem dX7_version_18 : decode cX7_version 18 = .ok (.aload_n 2, 1) := by decide +kernel
theorem dX7_version_19 : decode cX7_version 19 = .ok (.ifnonnull 7, 3) := by decide +kernel
theorem dX7_version_22 : decode cX7_version 22 = .ok (.iconst 0, 1) := by decide +kernel
theorem dX7_version_23 : decode cX7_version 23 = .ok (.goto 7, 3) := by decide +kernel
theorem dX7_version_26 : decode cX7_version 26 = .ok (.aload_n 2, 1) := by decide +kernel
theorem dX7_version_27 : decode cX7_version 27 = .ok (.getfield 160, 3) := by decide +kernel
theorem dX7_version_30 : decode cX7_version 30 = .ok (.ireturn, 1) := by decide +kernel
set_option maxRecDepth 20000 in
theorem ggX7_current_X0_currentOf : GoodIn wsX7_current wsX0_currentOf := goodIn_r _ [6, 7, 8, 9, 10, 31, 32, 33] (by decide +kernel) (by decide +kernel)
set_option maxRecDepth 20000 in
theorem gX7_current_X0_currentOf : GoodIn wsX7_current (wsV RX7 157 RX0 yX0_currentOf wsX0_currentOf) := goodIn_app (goodIn_of _ (by decide +kernel)) ggX7_current_X0_currentOf
theorem dX7_current_0 : decode cX7_current 0 = .ok (.aload_n 0, 1) := by decide +kernel
theorem dX7_current_1 : decode cX7_current 1 = .ok (.getfield 36, 3) := by decide +kernel
theorem dX7_current_4 : decode cX7_current 4 = .ok (.iload_n 1, 1) := by decide +kernel
theorem dX7_current_5 : decode cX7_current 5 = .ok (.invokevirtual 157, 3) := by decide +kernel
theorem dX7_current_8 : decode cX7_current 8 = .ok (.astore_n 2, 1) := by decide +kernel
theorem dX7_current_9 : decode cX7_current 9 = .ok (.aload_n 2, 1) := by decide +kernel
theorem dX7_current_10 : decode cX7_current 10 = .ok (.ifnonnull 7, 3) := by decide +kernel
theorem dX7_current_13 : decode cX7_current 13 = .ok (.iconst (-1), 1) := by decide +kernel
theorem dX7_current_14 : decode cX7_current 14 = .ok (.goto 7, 3) := by decide +kernel
theorem dX7_current_17 : decode cX7_current 17 = .ok (.aload_n 2, 1) := by decide +kernel
theorem dX7_current_18 : decode cX7_current 18 = .ok (.getfield 83, 3) := by decide +kernel
theorem dX7_current_21 : decode cX7_current 21 = .ok (.ireturn, 1) := by decide +kernel
set_option maxRecDepth 20000 in
theorem ggX7_hash_X7_rowAt : GoodIn wsX7_hash wsX7_rowAt := goodIn_r _ [7, 8, 119, 120, 121, 122, 123, 124, 125] (by decide +kernel) (by decide +kernel)
set_option maxRecDepth 20000 in
theorem gX7_hash_X7_rowAt : GoodIn wsX7_hash (wsV RX7 129 RX7 yX7_rowAt wsX7_rowAt) := goodIn_app (goodIn_of _ (by decide +kernel)) ggX7_hash_X7_rowAt
set_option maxRecDepth 20000 in
theorem ggX7_hash_X5_begin : GoodIn wsX7_hash wsX5_begin := goodIn_r _ [13, 14, 126, 127, 128, 129] (by decide +kernel) (by decide +kernel)
set_option maxRecDepth 20000 in
theorem gX7_hash_X5_begin : GoodIn wsX7_hash (wsV RX7 163 RX5 yX5_begin wsX5_begin) := goodIn_app (goodIn_of _ (by decide +kernel)) ggX7_hash_X5_begin
set_option maxRecDepth 20000 in
theorem ggX7_hash_X4_writeTo : GoodIn wsX7_hash wsX4_writeTo := goodIn_r _ [19, 20, 21, 22, 23, 24, 25, 26, 27, 28, 29, 30, 12, 31, 14, 32, 33, 34, 35, 36, 37, 38, 39, 40, 41, 42, 43, 44, 45, 46, 47, 48, 49, 50, 51, 52, 53, 54, 18, 55, 56, 57, 58, 59, 60, 61, 62, 63, 64, 65, 66, 67, 68, 69, 70, 71, 72, 73, 74, 75, 76, 77, 78, 79, 80, 81, 82, 130, 131, 132, 133, 134, 135, 136, 137, 138, 139, 140, 141, 142, 126, 127, 128, 129, 143, 144, 145, 146, 147, 148, 149, 150, 151] (by decide +kernel) (by decide +kernel)
set_option maxRecDepth 20000 in
theorem gX7_hash_X4_writeTo : GoodIn wsX7_hash (wsV RX7 166 RX4 yX4_writeTo wsX4_writeTo) := goodIn_app (goodIn_of _ (by decide +kernel)) ggX7_hash_X4_writeTo
set_option maxRecDepth 20000 in
theorem ggX7_hash_X5_length : GoodIn wsX7_hash wsX5_length := goodIn_r _ [86, 14, 126, 127, 128, 129] (by decide +kernel) (by decide +kernel)
set_option maxRecDepth 20000 in
theorem gX7_hash_X5_length : GoodIn wsX7_hash (wsV RX7 170 RX5 yX5_length wsX5_length) := goodIn_app (goodIn_of _ (by decide +kernel)) ggX7_hash_X5_length
set_option maxRecDepth 20000 in
theorem ggX7_hash_X5_finish : GoodIn wsX7_hash wsX5_finish := goodIn_r _ [90, 14, 91, 92, 93, 94, 95, 96, 97, 98, 99, 12, 100, 32, 101, 102, 103, 104, 105, 106, 107, 108, 109, 110, 111, 112, 113, 114, 126, 127, 128, 129] (by decide +kernel) (by decide +kernel)
set_option maxRecDepth 20000 in
theorem gX7_hash_X5_finish : GoodIn wsX7_hash (wsV RX7 174 RX5 yX5_finish wsX5_finish) := goodIn_app (goodIn_of _ (by decide +kernel)) ggX7_hash_X5_finish
set_option maxRecDepth 20000 in
theorem ggX7_hash_X5_copyWords : GoodIn wsX7_hash wsX5_copyWords := goodIn_r _ [118, 92, 93, 94, 95, 96, 126, 127, 128, 129] (by decide +kernel) (by decide +kernel)
set_option maxRecDepth 20000 in
theorem gX7_hash_X5_copyWords : GoodIn wsX7_hash (wsV RX7 177 RX5 yX5_copyWords wsX5_copyWords) := goodIn_app (goodIn_of _ (by decide +kernel)) ggX7_hash_X5_copyWords
theorem dX7_hash_0 : decode cX7_hash 0 = .ok (.aload_n 0, 1) := by decide +kernel
theorem dX7_hash_1 : decode cX7_hash 1 = .ok (.iload_n 1, 1) := by decide +kernel
theorem dX7_hash_2 : decode cX7_hash 2 = .ok (.invokevirtual 129, 3) := by decide +kernel
theorem dX7_hash_5 : decode cX7_hash 5 = .ok (.astore_n 2, 1) := by decide +kernel
theorem dX7_hash_6 : decode cX7_hash 6 = .ok (.aload_n 2, 1) := by decide +kernel
theorem dX7_hash_7 : decode cX7_hash 7 = .ok (.ifnonnull 5, 3) := by decide +kernel
theorem dX7_hash_10 : decode cX7_hash 10 = .ok (.iconst (-1), 1) := by decide +kernel
theorem dX7_hash_11 : decode cX7_hash 11 = .ok (.ireturn, 1) := by decide +kernel
theorem dX7_hash_12 : decode cX7_hash 12 = .ok (.aload_n 0, 1) := by decide +kernel
theorem dX7_hash_13 : decode cX7_hash 13 = .ok (.getfield 43, 3) := by decide +kernel
theorem dX7_hash_16 : decode cX7_hash 16 = .ok (.invokevirtual 163, 3) := by decide +kernel
theorem dX7_hash_19 : decode cX7_hash 19 = .ok (.aload_n 2, 1) := by decide +kernel
theorem dX7_hash_20 : decode cX7_hash 20 = .ok (.aload_n 0, 1) := by decide +kernel
theorem dX7_hash_21 : decode cX7_hash 21 = .ok (.getfield 43, 3) := by decide +kernel
theorem dX7_hash_24 : decode cX7_hash 24 = .ok (.invokevirtual 166, 3) := by decide +kernel
theorem dX7_hash_27 : decode cX7_hash 27 = .ok (.aload_n 0, 1) := by decide +kernel
theorem dX7_hash_28 : decode cX7_hash 28 = .ok (.getfield 43, 3) := by decide +kernel
theorem dX7_hash_31 : decode cX7_hash 31 = .ok (.invokevirtual 170, 3) := by decide +kernel
theorem dX7_hash_34 : decode cX7_hash 34 = .ok (.istore_n 3, 1) := by decide +kernel
theorem dX7_hash_35 : decode cX7_hash 35 = .ok (.aload_n 0, 1) := by decide +kernel
theorem dX7_hash_36 : decode cX7_hash 36 = .ok (.getfield 43, 3) := by decide +kernel
theorem dX7_hash_39 : decode cX7_hash 39 = .ok (.invokevirtual 174, 3) := by decide +kernel
theorem dX7_hash_42 : decode cX7_hash 42 = .ok (.aload_n 0, 1) := by decide +kernel
theorem dX7_hash_43 : decode cX7_hash 43 = .ok (.getfield 43, 3) := by decide +kernel
theorem dX7_hash_46 : decode cX7_hash 46 = .ok (.aload_n 0, 1) := by decide +kernel
theorem dX7_hash_47 : decode cX7_hash 47 = .ok (.getfield 47, 3) := by decide +kernel
theorem dX7_hash_50 : decode cX7_hash 50 = .ok (.invokevirtual 177, 3) := by decide +kernel
theorem dX7_hash_53 : decode cX7_hash 53 = .ok (.iload_n 3, 1) := by decide +kernel
theorem dX7_hash_54 : decode cX7_hash 54 = .ok (.ireturn, 1) := by decide +kernel
theorem dX7_digest_0 : decode cX7_digest 0 = .ok (.iload_n 1, 1) := by decide +kernel
theorem dX7_digest_1 : decode cX7_digest 1 = .ok (.ifCond .lt 9, 3) := by decide +kernel
theorem dX7_digest_4 : decode cX7_digest 4 = .ok (.iload_n 1, 1) := by decide +kernel
theorem dX7_digest_5 : decode cX7_digest 5 = .ok (.bipush 32, 2) := by decide +kernel
theorem dX7_digest_7 : decode cX7_digest 7 = .ok (.if_icmp .lt 13, 3) := by decide +kernel
theorem dX7_digest_10 : decode cX7_digest 10 = .ok (.new 181, 3) := by decide +kernel
theorem dX7_digest_13 : decode cX7_digest 13 = .ok (.dup, 1) := by decide +kernel
theorem dX7_digest_14 : decode cX7_digest 14 = .ok (.ldc 183, 2) := by decide +kernel
theorem dX7_digest_16 : decode cX7_digest 16 = .ok (.invokespecial 185, 3) := by decide +kernel
theorem dX7_digest_19 : decode cX7_digest 19 = .ok (.athrow, 1) := by decide +kernel
theorem dX7_digest_20 : decode cX7_digest 20 = .ok (.aload_n 0, 1) := by decide +kernel
theorem dX7_digest_21 : decode cX7_digest 21 = .ok (.getfield 47, 3) := by decide +kernel
theorem dX7_digest_24 : decode cX7_digest 24 = .ok (.iload_n 1, 1) := by decide +kernel
theorem dX7_digest_25 : decode cX7_digest 25 = .ok (.iconst 2, 1) := by decide +kernel
theorem dX7_digest_26 : decode cX7_digest 26 = .ok (.ishr, 1) := by decide +kernel
theorem dX7_digest_27 : decode cX7_digest 27 = .ok (.iaload, 1) := by decide +kernel
theorem dX7_digest_28 : decode cX7_digest 28 = .ok (.bipush 24, 2) := by decide +kernel
theorem dX7_digest_30 : decode cX7_digest 30 = .ok (.bipush 8, 2) := by decide +kernel
theorem dX7_digest_32 : decode cX7_digest 32 = .ok (.iload_n 1, 1) := by decide +kernel
theorem dX7_digest_33 : decode cX7_digest 33 = .ok (.iconst 3, 1) := by decide +kernel
theorem dX7_digest_34 : decode cX7_digest 34 = .ok (.iand, 1) := by decide +kernel
theorem dX7_digest_35 : decode cX7_digest 35 = .ok (.imul, 1) := by decide +kernel
theorem dX7_digest_36 : decode cX7_digest 36 = .ok (.isub, 1) := by decide +kernel
theorem dX7_digest_37 : decode cX7_digest 37 = .ok (.iushr, 1) := by decide +kernel
theorem dX7_digest_38 : decode cX7_digest 38 = .ok (.i2b, 1) := by decide +kernel
theorem dX7_digest_39 : decode cX7_digest 39 = .ok (.ireturn, 1) := by decide +kernel
set_option maxRecDepth 20000 in
theorem ggX7_about_X7_rowAt : GoodIn wsX7_about wsX7_rowAt := goodIn_r _ [5, 6, 34, 35, 36, 37, 38, 39, 40] (by decide +kernel) (by decide +kernel)
set_option maxRecDepth 20000 in
theorem gX7_about_X7_rowAt : GoodIn wsX7_about (wsV RX7 129 RX7 yX7_rowAt wsX7_rowAt) := goodIn_app (goodIn_of _ (by decide +kernel)) ggX7_about_X7_rowAt
set_option maxRecDepth 20000 in
theorem ggX7_about_J6_bitCount_0f7a4 : GoodIn wsX7_about wsJ6_bitCount_0f7a4 := goodIn_r _ [10, 11, 12, 13] (by decide +kernel) (by decide +kernel)
set_option maxRecDepth 20000 in
theorem gX7_about_J6_bitCount_0f7a4 : GoodIn wsX7_about (va_wsS RX7 197 yJ6_bitCount_0f7a4 wsJ6_bitCount_0f7a4) := goodIn_app (goodIn_of _ (by decide +kernel)) ggX7_about_J6_bitCount_0f7a4
theorem dX7_about_0 : decode cX7_about 0 = .ok (.aload_n 0, 1) := by decide +kernel
theorem dX7_about_1 : decode cX7_about 1 = .ok (.iload_n 1, 1) := by decide +kernel
theorem dX7_about_2 : decode cX7_about 2 = .ok (.invokevirtual 129, 3) := by decide +kernel
theorem dX7_about_5 : decode cX7_about 5 = .ok (.astore_n 3, 1) := by decide +kernel
theorem dX7_about_6 : decode cX7_about 6 = .ok (.aload_n 3, 1) := by decide +kernel
theorem dX7_about_7 : decode cX7_about 7 = .ok (.ifnonnull 5, 3) := by decide +kernel
theorem dX7_about_10 : decode cX7_about 10 = .ok (.iconst (-1), 1) := by decide +kernel
theorem dX7_about_11 : decode cX7_about 11 = .ok (.ireturn, 1) := by decide +kernel
theorem dX7_about_12 : decode cX7_about 12 = .ok (.iload_n 2, 1) := by decide +kernel
theorem dX7_about_13 : decode cX7_about 13 = .ok (.tableswitch 87 0 6 #[43, 48, 53, 58, 66, 74, 82], 43) := by decide +kernel
theorem dX7_about_56 : decode cX7_about 56 = .ok (.aload_n 3, 1) := by decide +kernel
theorem dX7_about_57 : decode cX7_about 57 = .ok (.getfield 188, 3) := by decide +kernel
theorem dX7_about_60 : decode cX7_about 60 = .ok (.ireturn, 1) := by decide +kernel
theorem dX7_about_61 : decode cX7_about 61 = .ok (.aload_n 3, 1) := by decide +kernel
theorem dX7_about_62 : decode cX7_about 62 = .ok (.getfield 160, 3) := by decide +kernel
theorem dX7_about_65 : decode cX7_about 65 = .ok (.ireturn, 1) := by decide +kernel
theorem dX7_about_66 : decode cX7_about 66 = .ok (.aload_n 3, 1) := by decide +kernel
theorem dX7_about_67 : decode cX7_about 67 = .ok (.getfield 191, 3) := by decide +kernel
theorem dX7_about_70 : decode cX7_about 70 = .ok (.ireturn, 1) := by decide +kernel
theorem dX7_about_71 : decode cX7_about 71 = .ok (.aload_n 3, 1) := by decide +kernel
theorem dX7_about_72 : decode cX7_about 72 = .ok (.getfield 194, 3) := by decide +kernel
theorem dX7_about_75 : decode cX7_about 75 = .ok (.invokestatic 197, 3) := by decide +kernel
theorem dX7_about_78 : decode cX7_about 78 = .ok (.ireturn, 1) := by decide +kernel
theorem dX7_about_79 : decode cX7_about 79 = .ok (.aload_n 3, 1) := by decide +kernel
theorem dX7_about_80 : decode cX7_about 80 = .ok (.getfield 97, 3) := by decide +kernel
theorem dX7_about_83 : decode cX7_about 83 = .ok (.getfield 202, 3) := by decide +kernel
theorem dX7_about_86 : decode cX7_about 86 = .ok (.ireturn, 1) := by decide +kernel
theorem dX7_about_87 : decode cX7_about 87 = .ok (.aload_n 3, 1) := by decide +kernel
theorem dX7_about_88 : decode cX7_about 88 = .ok (.getfield 114, 3) := by decide +kernel
theorem dX7_about_91 : decode cX7_about 91 = .ok (.getfield 205, 3) := by decide +kernel
theorem dX7_about_94 : decode cX7_about 94 = .ok (.ireturn, 1) := by decide +kernel
theorem dX7_about_95 : decode cX7_about 95 = .ok (.aload_n 3, 1) := by decide +kernel
theorem dX7_about_96 : decode cX7_about 96 = .ok (.getfield 206, 3) := by decide +kernel
theorem dX7_about_99 : decode cX7_about 99 = .ok (.ireturn, 1) := by decide +kernel
theorem dX7_about_100 : decode cX7_about 100 = .ok (.iconst (-1), 1) := by decide +kernel
theorem dX7_about_101 : decode cX7_about 101 = .ok (.ireturn, 1) := by decide +kernel
theorem dX7_rowAt_0 : decode cX7_rowAt 0 = .ok (.iload_n 1, 1) := by decide +kernel
theorem dX7_rowAt_1 : decode cX7_rowAt 1 = .ok (.ifCond .lt 21, 3) := by decide +kernel
theorem dX7_rowAt_4 : decode cX7_rowAt 4 = .ok (.iload_n 1, 1) := by decide +kernel
theorem dX7_rowAt_5 : decode cX7_rowAt 5 = .ok (.aload_n 0, 1) := by decide +kernel
theorem dX7_rowAt_6 : decode cX7_rowAt 6 = .ok (.getfield 25, 3) := by decide +kernel
theorem dX7_rowAt_9 : decode cX7_rowAt 9 = .ok (.arraylength, 1) := by decide +kernel
theorem dX7_rowAt_10 : decode cX7_rowAt 10 = .ok (.if_icmp .ge 12, 3) := by decide +kernel
theorem dX7_rowAt_13 : decode cX7_rowAt 13 = .ok (.aload_n 0, 1) := by decide +kernel
theorem dX7_rowAt_14 : decode cX7_rowAt 14 = .ok (.getfield 25, 3) := by decide +kernel
theorem dX7_rowAt_17 : decode cX7_rowAt 17 = .ok (.iload_n 1, 1) := by decide +kernel
theorem dX7_rowAt_18 : decode cX7_rowAt 18 = .ok (.aaload, 1) := by decide +kernel
theorem dX7_rowAt_19 : decode cX7_rowAt 19 = .ok (.goto 4, 3) := by decide +kernel
theorem dX7_rowAt_22 : decode cX7_rowAt 22 = .ok (.aconst_null, 1) := by decide +kernel
theorem dX7_rowAt_23 : decode cX7_rowAt 23 = .ok (.areturn, 1) := by decide +kernel
set_option maxRecDepth 20000 in
theorem ggX7_openRow_X7_rowAt : GoodIn wsX7_openRow wsX7_rowAt := goodIn_r _ [5, 6, 13, 14, 15, 16, 17, 18, 19] (by decide +kernel) (by decide +kernel)
set_option maxRecDepth 20000 in
theorem gX7_openRow_X7_rowAt : GoodIn wsX7_openRow (wsV RX7 129 RX7 yX7_rowAt wsX7_rowAt) := goodIn_app (goodIn_of _ (by decide +kernel)) ggX7_openRow_X7_rowAt
set_option maxRecDepth 20000 in
theorem ggX7_openRow_X4_isClosed : GoodIn wsX7_openRow wsX4_isClosed := goodIn_r _ [11, 12, 20, 21, 22, 23, 24, 25, 26, 27, 28, 29, 30, 31, 32] (by decide +kernel) (by decide +kernel)
set_option maxRecDepth 20000 in
theorem gX7_openRow_X4_isClosed : GoodIn wsX7_openRow (wsV RX7 209 RX4 yX4_isClosed wsX4_isClosed) := goodIn_app (goodIn_of _ (by decide +kernel)) ggX7_openRow_X4_isClosed
theorem dX7_openRow_0 : decode cX7_openRow 0 = .ok (.aload_n 0, 1) := by decide +kernel
theorem dX7_openRow_1 : decode cX7_openRow 1 = .ok (.iload_n 1, 1) := by decide +kernel
theorem dX7_openRow_2 : decode cX7_openRow 2 = .ok (.invokevirtual 129, 3) := by decide +kernel
theorem dX7_openRow_5 : decode cX7_openRow 5 = .ok (.astore_n 2, 1) := by decide +kernel
theorem dX7_openRow_6 : decode cX7_openRow 6 = .ok (.aload_n 2, 1) := by decide +kernel
theorem dX7_openRow_7 : decode cX7_openRow 7 = .ok (.ifnull 10, 3) := by decide +kernel
theorem dX7_openRow_10 : decode cX7_openRow 10 = .ok (.aload_n 2, 1) := by decide +kernel
theorem dX7_openRow_11 : decode cX7_openRow 11 = .ok (.invokevirtual 209, 3) := by decide +kernel
theorem dX7_openRow_14 : decode cX7_openRow 14 = .ok (.ifCond .eq 7, 3) := by decide +kernel
theorem dX7_openRow_17 : decode cX7_openRow 17 = .ok (.aconst_null, 1) := by decide +kernel
theorem dX7_openRow_18 : decode cX7_openRow 18 = .ok (.goto 4, 3) := by decide +kernel
theorem dX7_openRow_21 : decode cX7_openRow 21 = .ok (.aload_n 2, 1) := by decide +kernel
theorem dX7_openRow_22 : decode cX7_openRow 22 = .ok (.areturn, 1) := by decide +kernel
set_option maxRecDepth 20000 in
theorem ggX7_brokenRule_X2_unexpiredAt : GoodIn wsX7_brokenRule wsX2_unexpiredAt := goodIn_r _ [7, 8, 9, 83, 84, 85] (by decide +kernel) (by decide +kernel)
set_option maxRecDepth 20000 in
theorem gX7_brokenRule_X2_unexpiredAt : GoodIn wsX7_brokenRule (wsV RX7 212 RX2 yX2_unexpiredAt wsX2_unexpiredAt) := goodIn_app (goodIn_of _ (by decide +kernel)) ggX7_brokenRule_X2_unexpiredAt
set_option maxRecDepth 20000 in
theorem ggX7_brokenRule_X0_firstBrokenRule : GoodIn wsX7_brokenRule wsX0_firstBrokenRule := goodIn_r _ [14, 15, 16, 17, 18, 13, 19, 20, 21, 22, 23, 24, 25, 26, 27, 28, 29, 30, 31, 32, 33, 34, 35, 36, 37, 38, 39, 40, 41, 42, 43, 44, 45, 46, 47, 48, 49, 50, 51, 52, 53, 54, 55, 56, 57, 58, 59, 60, 61, 62, 63, 64, 65, 66, 67, 68, 69, 70, 71, 72, 73, 74, 75, 86, 87, 88, 89, 90, 91, 92, 93, 94, 95, 96, 97, 98, 99, 100, 101, 102, 103, 104, 105, 106] (by decide +kernel) (by decide +kernel)
set_option maxRecDepth 20000 in
theorem gX7_brokenRule_X0_firstBrokenRule : GoodIn wsX7_brokenRule (wsV RX7 216 RX0 yX0_firstBrokenRule wsX0_firstBrokenRule) := goodIn_app (goodIn_of _ (by decide +kernel)) ggX7_brokenRule_X0_firstBrokenRule
theorem dX7_brokenRule_0 : decode cX7_brokenRule 0 = .ok (.aload_n 0, 1) := by decide +kernel
theorem dX7_brokenRule_1 : decode cX7_brokenRule 1 = .ok (.getfield 36, 3) := by decide +kernel
theorem dX7_brokenRule_4 : decode cX7_brokenRule 4 = .ok (.aload_n 1, 1) := by decide +kernel
theorem dX7_brokenRule_5 : decode cX7_brokenRule 5 = .ok (.lload_n 2, 1) := by decide +kernel
theorem dX7_brokenRule_6 : decode cX7_brokenRule 6 = .ok (.aload_n 0, 1) := by decide +kernel
theorem dX7_brokenRule_7 : decode cX7_brokenRule 7 = .ok (.getfield 12, 3) := by decide +kernel
theorem dX7_brokenRule_10 : decode cX7_brokenRule 10 = .ok (.lload_n 2, 1) := by decide +kernel
theorem dX7_brokenRule_11 : decode cX7_brokenRule 11 = .ok (.invokevirtual 212, 3) := by decide +kernel
theorem dX7_brokenRule_14 : decode cX7_brokenRule 14 = .ok (.invokevirtual 216, 3) := by decide +kernel
theorem dX7_brokenRule_17 : decode cX7_brokenRule 17 = .ok (.ireturn, 1) := by decide +kernel
set_option maxRecDepth 20000 in
theorem ggX7_rightSignature_X5_begin : GoodIn wsX7_rightSignature wsX5_begin := goodIn_r _ [7, 8, 129, 130, 131, 132] (by decide +kernel) (by decide +kernel)
set_option maxRecDepth 20000 in
theorem gX7_rightSignature_X5_begin : GoodIn wsX7_rightSignature (wsV RX7 163 RX5 yX5_begin wsX5_begin) := goodIn_app (goodIn_of _ (by decide +kernel)) ggX7_rightSignature_X5_begin
set_option maxRecDepth 20000 in
theorem ggX7_rightSignature_X2_secretOf : GoodIn wsX7_rightSignature wsX2_secretOf := goodIn_r _ [13, 14, 15, 16, 17, 12, 18, 19, 133, 134, 135] (by decide +kernel) (by decide +kernel)
set_option maxRecDepth 20000 in
theorem gX7_rightSignature_X2_secretOf : GoodIn wsX7_rightSignature (wsV RX7 220 RX2 yX2_secretOf wsX2_secretOf) := goodIn_app (goodIn_of _ (by decide +kernel)) ggX7_rightSignature_X2_secretOf
set_option maxRecDepth 20000 in
theorem ggX7_rightSignature_X5_putLong : GoodIn wsX7_rightSignature wsX5_putLong := goodIn_r _ [23, 24, 25, 26, 6, 27, 28, 29, 30, 31, 8, 32, 129, 130, 131, 132] (by decide +kernel) (by decide +kernel)
set_option maxRecDepth 20000 in
theorem gX7_rightSignature_X5_putLong : GoodIn wsX7_rightSignature (wsV RX7 224 RX5 yX5_putLong wsX5_putLong) := goodIn_app (goodIn_of _ (by decide +kernel)) ggX7_rightSignature_X5_putLong
set_option maxRecDepth 20000 in
theorem ggX7_rightSignature_X4_writeTo : GoodIn wsX7_rightSignature wsX4_writeTo := goodIn_r _ [37, 38, 39, 40, 41, 42, 43, 44, 45, 46, 29, 30, 6, 31, 8, 32, 47, 25, 26, 27, 28, 48, 21, 22, 23, 24, 49, 50, 51, 52, 53, 54, 55, 56, 57, 58, 59, 60, 36, 61, 62, 63, 64, 65, 66, 67, 68, 69, 70, 71, 72, 73, 74, 75, 76, 77, 78, 79, 80, 81, 82, 83, 84, 85, 86, 87, 88, 136, 137, 138, 139, 140, 141, 142, 143, 144, 145, 146, 147, 148, 129, 130, 131, 132, 149, 150, 151, 152, 153, 154, 155, 156, 157] (by decide +kernel) (by decide +kernel)
set_option maxRecDepth 20000 in
theorem gX7_rightSignature_X4_writeTo : GoodIn wsX7_rightSignature (wsV RX7 166 RX4 yX4_writeTo wsX4_writeTo) := goodIn_app (goodIn_of _ (by decide +kernel)) ggX7_rightSignature_X4_writeTo
set_option maxRecDepth 20000 in
theorem ggX7_rightSignature_X5_finish : GoodIn wsX7_rightSignature wsX5_finish := goodIn_r _ [92, 8, 93, 94, 95, 96, 97, 98, 99, 100, 101, 6, 102, 32, 103, 104, 105, 106, 107, 108, 109, 110, 111, 112, 113, 114, 115, 116, 129, 130, 131, 132] (by decide +kernel) (by decide +kernel)
set_option maxRecDepth 20000 in
theorem gX7_rightSignature_X5_finish : GoodIn wsX7_rightSignature (wsV RX7 174 RX5 yX5_finish wsX5_finish) := goodIn_app (goodIn_of _ (by decide +kernel)) ggX7_rightSignature_X5_finish
set_option maxRecDepth 20000 in
theorem ggX7_rightSignature_X5_firstEightBytes : GoodIn wsX7_rightSignature wsX5_firstEightBytes := goodIn_r _ [120, 94, 121, 129, 130, 131, 132] (by decide +kernel) (by decide +kernel)
set_option maxRecDepth 20000 in
theorem gX7_rightSignature_X5_firstEightBytes : GoodIn wsX7_rightSignature (wsV RX7 228 RX5 yX5_firstEightBytes wsX5_firstEightBytes) := goodIn_app (goodIn_of _ (by decide +kernel)) ggX7_rightSignature_X5_firstEightBytes
theorem dX7_rightSignature_0 : decode cX7_rightSignature 0 = .ok (.aload_n 0, 1) := by decide +kernel
theorem dX7_rightSignature_1 : decode cX7_rightSignature 1 = .ok (.getfield 43, 3) := by decide +kernel
theorem dX7_rightSignature_4 : decode cX7_rightSignature 4 = .ok (.invokevirtual 163, 3) := by decide +kernel
theorem dX7_rightSignature_7 : decode cX7_rightSignature 7 = .ok (.aload_n 0, 1) := by decide +kernel
theorem dX7_rightSignature_8 : decode cX7_rightSignature 8 = .ok (.getfield 43, 3) := by decide +kernel
theorem dX7_rightSignature_11 : decode cX7_rightSignature 11 = .ok (.aload_n 0, 1) := by decide +kernel
theorem dX7_rightSignature_12 : decode cX7_rightSignature 12 = .ok (.getfield 12, 3) := by decide +kernel
theorem dX7_rightSignature_15 : decode cX7_rightSignature 15 = .ok (.iload_n 2, 1) := by decide +kernel
theorem dX7_rightSignature_16 : decode cX7_rightSignature 16 = .ok (.invokevirtual 220, 3) := by decide +kernel
theorem dX7_rightSignature_19 : decode cX7_rightSignature 19 = .ok (.invokevirtual 224, 3) := by decide +kernel
theorem dX7_rightSignature_22 : decode cX7_rightSignature 22 = .ok (.aload_n 1, 1) := by decide +kernel
theorem dX7_rightSignature_23 : decode cX7_rightSignature 23 = .ok (.aload_n 0, 1) := by decide +kernel
theorem dX7_rightSignature_24 : decode cX7_rightSignature 24 = .ok (.getfield 43, 3) := by decide +kernel
theorem dX7_rightSignature_27 : decode cX7_rightSignature 27 = .ok (.invokevirtual 166, 3) := by decide +kernel
theorem dX7_rightSignature_30 : decode cX7_rightSignature 30 = .ok (.aload_n 0, 1) := by decide +kernel
theorem dX7_rightSignature_31 : decode cX7_rightSignature 31 = .ok (.getfield 43, 3) := by decide +kernel
theorem dX7_rightSignature_34 : decode cX7_rightSignature 34 = .ok (.invokevirtual 174, 3) := by decide +kernel
theorem dX7_rightSignature_37 : decode cX7_rightSignature 37 = .ok (.aload_n 0, 1) := by decide +kernel
theorem dX7_rightSignature_38 : decode cX7_rightSignature 38 = .ok (.getfield 43, 3) := by decide +kernel
theorem dX7_rightSignature_41 : decode cX7_rightSignature 41 = .ok (.invokevirtual 228, 3) := by decide +kernel
theorem dX7_rightSignature_44 : decode cX7_rightSignature 44 = .ok (.lreturn, 1) := by decide +kernel
theorem dX7_isRole_0 : decode cX7_isRole 0 = .ok (.iload_n 0, 1) := by decide +kernel
theorem dX7_isRole_1 : decode cX7_isRole 1 = .ok (.ifCond .lt 13, 3) := by decide +kernel
theorem dX7_isRole_4 : decode cX7_isRole 4 = .ok (.iload_n 0, 1) := by decide +kernel
theorem dX7_isRole_5 : decode cX7_isRole 5 = .ok (.bipush 10, 2) := by decide +kernel
theorem dX7_isRole_7 : decode cX7_isRole 7 = .ok (.if_icmp .ge 7, 3) := by decide +kernel
theorem dX7_isRole_10 : decode cX7_isRole 10 = .ok (.iconst 1, 1) := by decide +kernel
theorem dX7_isRole_11 : decode cX7_isRole 11 = .ok (.goto 4, 3) := by decide +kernel
theorem dX7_isRole_14 : decode cX7_isRole 14 = .ok (.iconst 0, 1) := by decide +kernel
theorem dX7_isRole_15 : decode cX7_isRole 15 = .ok (.ireturn, 1) := by decide +kernel
theorem dX7_isVersion_0 : decode cX7_isVersion 0 = .ok (.iload_n 0, 1) := by decide +kernel
theorem dX7_isVersion_1 : decode cX7_isVersion 1 = .ok (.iconst 1, 1) := by decide +kernel
theorem dX7_isVersion_2 : decode cX7_isVersion 2 = .ok (.if_icmp .lt 13, 3) := by decide +kernel
theorem dX7_isVersion_5 : decode cX7_isVersion 5 = .ok (.iload_n 0, 1) := by decide +kernel
theorem dX7_isVersion_6 : decode cX7_isVersion 6 = .ok (.ldc 232, 2) := by decide +kernel
theorem dX7_isVersion_8 : decode cX7_isVersion 8 = .ok (.if_icmp .gt 7, 3) := by decide +kernel
theorem dX7_isVersion_11 : decode cX7_isVersion 11 = .ok (.iconst 1, 1) := by decide +kernel
theorem dX7_isVersion_12 : decode cX7_isVersion 12 = .ok (.goto 4, 3) := by decide +kernel
theorem dX7_isVersion_15 : decode cX7_isVersion 15 = .ok (.iconst 0, 1) := by decide +kernel
theorem dX7_isVersion_16 : decode cX7_isVersion 16 = .ok (.ireturn, 1) := by decide +kernel
set_option maxRecDepth 20000 in
theorem ggX7_partsOfPath_X7_countParts : GoodIn wsX7_partsOfPath wsX7_countParts := goodIn_r _ [4] (by decide +kernel) (by decide +kernel)
set_option maxRecDepth 20000 in
theorem gX7_partsOfPath_X7_countParts : GoodIn wsX7_partsOfPath (va_wsS RX7 233 yX7_countParts wsX7_countParts) := goodIn_app (goodIn_of _ (by decide +kernel)) ggX7_partsOfPath_X7_countParts
theorem dX7_partsOfPath_0 : decode cX7_partsOfPath 0 = .ok (.iload_n 0, 1) := by decide +kernel
theorem dX7_partsOfPath_1 : decode cX7_partsOfPath 1 = .ok (.bipush 14, 2) := by decide +kernel
theorem dX7_partsOfPath_3 : decode cX7_partsOfPath 3 = .ok (.invokestatic 233, 3) := by decide +kernel
theorem dX7_partsOfPath_6 : decode cX7_partsOfPath 6 = .ok (.ireturn, 1) := by decide +kernel
set_option maxRecDepth 20000 in
theorem ggX7_partsOfPattern_X7_countParts : GoodIn wsX7_partsOfPattern wsX7_countParts := goodIn_r _ [4] (by decide +kernel) (by decide +kernel)
set_option maxRecDepth 20000 in
theorem gX7_partsOfPattern_X7_countParts : GoodIn wsX7_partsOfPattern (va_wsS RX7 233 yX7_countParts wsX7_countParts) := goodIn_app (goodIn_of _ (by decide +kernel)) ggX7_partsOfPattern_X7_countParts
theorem dX7_partsOfPattern_0 : decode cX7_partsOfPattern 0 = .ok (.iload_n 0, 1) := by decide +kernel
theorem dX7_partsOfPattern_1 : decode cX7_partsOfPattern 1 = .ok (.bipush 15, 2) := by decide +kernel
theorem dX7_partsOfPattern_3 : decode cX7_partsOfPattern 3 = .ok (.invokestatic 233, 3) := by decide +kernel
theorem dX7_partsOfPattern_6 : decode cX7_partsOfPattern 6 = .ok (.ireturn, 1) := by decide +kernel
theorem dX7_countParts_0 : decode cX7_countParts 0 = .ok (.iload_n 0, 1) := by decide +kernel
theorem dX7_countParts_1 : decode cX7_countParts 1 = .ok (.ifCond .le 10, 3) := by decide +kernel
theorem dX7_countParts_4 : decode cX7_countParts 4 = .ok (.iload_n 0, 1) := by decide +kernel
theorem dX7_countParts_5 : decode cX7_countParts 5 = .ok (.bipush 24, 2) := by decide +kernel
theorem dX7_countParts_7 : decode cX7_countParts 7 = .ok (.iushr, 1) := by decide +kernel
theorem dX7_countParts_8 : decode cX7_countParts 8 = .ok (.ifCond .eq 5, 3) := by decide +kernel
theorem dX7_countParts_11 : decode cX7_countParts 11 = .ok (.iconst 0, 1) := by decide +kernel
theorem dX7_countParts_12 : decode cX7_countParts 12 = .ok (.ireturn, 1) := by decide +kernel
theorem dX7_countParts_13 : decode cX7_countParts 13 = .ok (.iconst 0, 1) := by decide +kernel
theorem dX7_countParts_14 : decode cX7_countParts 14 = .ok (.istore_n 2, 1) := by decide +kernel
theorem dX7_countParts_15 : decode cX7_countParts 15 = .ok (.iload_n 2, 1) := by decide +kernel
theorem dX7_countParts_16 : decode cX7_countParts 16 = .ok (.bipush 6, 2) := by decide +kernel
theorem dX7_countParts_18 : decode cX7_countParts 18 = .ok (.if_icmp .ge 40, 3) := by decide +kernel
theorem dX7_countParts_21 : decode cX7_countParts 21 = .ok (.iload_n 0, 1) := by decide +kernel
theorem dX7_countParts_22 : decode cX7_countParts 22 = .ok (.iload_n 2, 1) := by decide +kernel
theorem dX7_countParts_23 : decode cX7_countParts 23 = .ok (.iconst 4, 1) := by decide +kernel
theorem dX7_countParts_24 : decode cX7_countParts 24 = .ok (.imul, 1) := by decide +kernel
theorem dX7_countParts_25 : decode cX7_countParts 25 = .ok (.iushr, 1) := by decide +kernel
theorem dX7_countParts_26 : decode cX7_countParts 26 = .ok (.istore_n 3, 1) := by decide +kernel
theorem dX7_countParts_27 : decode cX7_countParts 27 = .ok (.iload_n 3, 1) := by decide +kernel
theorem dX7_countParts_28 : decode cX7_countParts 28 = .ok (.ifCond .ne 5, 3) := by decide +kernel
theorem dX7_countParts_31 : decode cX7_countParts 31 = .ok (.iload_n 2, 1) := by decide +kernel
theorem dX7_countParts_32 : decode cX7_countParts 32 = .ok (.ireturn, 1) := by decide +kernel
theorem dX7_countParts_33 : decode cX7_countParts 33 = .ok (.iload_n 3, 1) := by decide +kernel
theorem dX7_countParts_34 : decode cX7_countParts 34 = .ok (.bipush 15, 2) := by decide +kernel
theorem dX7_countParts_36 : decode cX7_countParts 36 = .ok (.iand, 1) := by decide +kernel
theorem dX7_countParts_37 : decode cX7_countParts 37 = .ok (.istore 4, 2) := by decide +kernel
theorem dX7_countParts_39 : decode cX7_countParts 39 = .ok (.iload 4, 2) := by decide +kernel
theorem dX7_countParts_41 : decode cX7_countParts 41 = .ok (.ifCond .eq 9, 3) := by decide +kernel
theorem dX7_countParts_44 : decode cX7_countParts 44 = .ok (.iload 4, 2) := by decide +kernel
theorem dX7_countParts_46 : decode cX7_countParts 46 = .ok (.iload_n 1, 1) := by decide +kernel
theorem dX7_countParts_47 : decode cX7_countParts 47 = .ok (.if_icmp .le 5, 3) := by decide +kernel
theorem dX7_countParts_50 : decode cX7_countParts 50 = .ok (.iconst 0, 1) := by decide +kernel
theorem dX7_countParts_51 : decode cX7_countParts 51 = .ok (.ireturn, 1) := by decide +kernel
theorem dX7_countParts_52 : decode cX7_countParts 52 = .ok (.iinc 2 1, 3) := by decide +kernel
theorem dX7_countParts_55 : decode cX7_countParts 55 = .ok (.goto (-40), 3) := by decide +kernel
theorem dX7_countParts_58 : decode cX7_countParts 58 = .ok (.bipush 6, 2) := by decide +kernel
theorem dX7_countParts_60 : decode cX7_countParts 60 = .ok (.ireturn, 1) := by decide +kernel
set_option maxRecDepth 20000 in
theorem ggX7_fits_X7_partsOfPattern : GoodIn wsX7_fits wsX7_partsOfPattern := goodIn_r _ [4, 5, 6, 3, 7] (by decide +kernel) (by decide +kernel)
set_option maxRecDepth 20000 in
theorem gX7_fits_X7_partsOfPattern : GoodIn wsX7_fits (va_wsS RX7 111 yX7_partsOfPattern wsX7_partsOfPattern) := goodIn_app (goodIn_of _ (by decide +kernel)) ggX7_fits_X7_partsOfPattern
set_option maxRecDepth 20000 in
theorem ggX7_fits_X7_partsOfPath : GoodIn wsX7_fits wsX7_partsOfPath := goodIn_r _ [10, 5, 6, 3, 7] (by decide +kernel) (by decide +kernel)
set_option maxRecDepth 20000 in
theorem gX7_fits_X7_partsOfPath : GoodIn wsX7_fits (va_wsS RX7 123 yX7_partsOfPath wsX7_partsOfPath) := goodIn_app (goodIn_of _ (by decide +kernel)) ggX7_fits_X7_partsOfPath
theorem dX7_fits_0 : decode cX7_fits 0 = .ok (.iload_n 0, 1) := by decide +kernel
theorem dX7_fits_1 : decode cX7_fits 1 = .ok (.invokestatic 111, 3) := by decide +kernel
theorem dX7_fits_4 : decode cX7_fits 4 = .ok (.istore_n 2, 1) := by decide +kernel
theorem dX7_fits_5 : decode cX7_fits 5 = .ok (.iload_n 1, 1) := by decide +kernel
theorem dX7_fits_6 : decode cX7_fits 6 = .ok (.invokestatic 123, 3) := by decide +kernel
theorem dX7_fits_9 : decode cX7_fits 9 = .ok (.iload_n 2, 1) := by decide +kernel
theorem dX7_fits_10 : decode cX7_fits 10 = .ok (.isub, 1) := by decide +kernel
theorem dX7_fits_11 : decode cX7_fits 11 = .ok (.istore_n 3, 1) := by decide +kernel
theorem dX7_fits_12 : decode cX7_fits 12 = .ok (.iload_n 3, 1) := by decide +kernel
theorem dX7_fits_13 : decode cX7_fits 13 = .ok (.ifCond .ge 5, 3) := by decide +kernel
theorem dX7_fits_16 : decode cX7_fits 16 = .ok (.iconst 0, 1) := by decide +kernel
theorem dX7_fits_17 : decode cX7_fits 17 = .ok (.ireturn, 1) := by decide +kernel
theorem dX7_fits_18 : decode cX7_fits 18 = .ok (.iload_n 1, 1) := by decide +kernel
theorem dX7_fits_19 : decode cX7_fits 19 = .ok (.iload_n 3, 1) := by decide +kernel
theorem dX7_fits_20 : decode cX7_fits 20 = .ok (.iconst 4, 1) := by decide +kernel
theorem dX7_fits_21 : decode cX7_fits 21 = .ok (.imul, 1) := by decide +kernel
theorem dX7_fits_22 : decode cX7_fits 22 = .ok (.iushr, 1) := by decide +kernel
theorem dX7_fits_23 : decode cX7_fits 23 = .ok (.istore 4, 2) := by decide +kernel
theorem dX7_fits_25 : decode cX7_fits 25 = .ok (.iconst 0, 1) := by decide +kernel
theorem dX7_fits_26 : decode cX7_fits 26 = .ok (.istore 5, 2) := by decide +kernel
theorem dX7_fits_28 : decode cX7_fits 28 = .ok (.iload 5, 2) := by decide +kernel
theorem dX7_fits_30 : decode cX7_fits 30 = .ok (.iload_n 2, 1) := by decide +kernel
theorem dX7_fits_31 : decode cX7_fits 31 = .ok (.if_icmp .ge 48, 3) := by decide +kernel
theorem dX7_fits_34 : decode cX7_fits 34 = .ok (.iload_n 0, 1) := by decide +kernel
theorem dX7_fits_35 : decode cX7_fits 35 = .ok (.iload 5, 2) := by decide +kernel
theorem dX7_fits_37 : decode cX7_fits 37 = .ok (.iconst 4, 1) := by decide +kernel
theorem dX7_fits_38 : decode cX7_fits 38 = .ok (.imul, 1) := by decide +kernel
theorem dX7_fits_39 : decode cX7_fits 39 = .ok (.iushr, 1) := by decide +kernel
theorem dX7_fits_40 : decode cX7_fits 40 = .ok (.bipush 15, 2) := by decide +kernel
theorem dX7_fits_42 : decode cX7_fits 42 = .ok (.iand, 1) := by decide +kernel
theorem dX7_fits_43 : decode cX7_fits 43 = .ok (.istore 6, 2) := by decide +kernel
theorem dX7_fits_45 : decode cX7_fits 45 = .ok (.iload 4, 2) := by decide +kernel
theorem dX7_fits_47 : decode cX7_fits 47 = .ok (.iload 5, 2) := by decide +kernel
theorem dX7_fits_49 : decode cX7_fits 49 = .ok (.iconst 4, 1) := by decide +kernel
theorem dX7_fits_50 : decode cX7_fits 50 = .ok (.imul, 1) := by decide +kernel
theorem dX7_fits_51 : decode cX7_fits 51 = .ok (.iushr, 1) := by decide +kernel
theorem dX7_fits_52 : decode cX7_fits 52 = .ok (.bipush 15, 2) := by decide +kernel
theorem dX7_fits_54 : decode cX7_fits 54 = .ok (.iand, 1) := by decide +kernel
theorem dX7_fits_55 : decode cX7_fits 55 = .ok (.istore 7, 2) := by decide +kernel
theorem dX7_fits_57 : decode cX7_fits 57 = .ok (.iload 6, 2) := by decide +kernel
theorem dX7_fits_59 : decode cX7_fits 59 = .ok (.bipush 15, 2) := by decide +kernel
theorem dX7_fits_61 : decode cX7_fits 61 = .ok (.if_icmp .eq 12, 3) := by decide +kernel
theorem dX7_fits_64 : decode cX7_fits 64 = .ok (.iload 6, 2) := by decide +kernel
theorem dX7_fits_66 : decode cX7_fits 66 = .ok (.iload 7, 2) := by decide +kernel
theorem dX7_fits_68 : decode cX7_fits 68 = .ok (.if_icmp .eq 5, 3) := by decide +kernel
theorem dX7_fits_71 : decode cX7_fits 71 = .ok (.iconst 0, 1) := by decide +kernel
theorem dX7_fits_72 : decode cX7_fits 72 = .ok (.ireturn, 1) := by decide +kernel
theorem dX7_fits_73 : decode cX7_fits 73 = .ok (.iinc 5 1, 3) := by decide +kernel
theorem dX7_fits_76 : decode cX7_fits 76 = .ok (.goto (-48), 3) := by decide +kernel
theorem dX7_fits_79 : decode cX7_fits 79 = .ok (.iconst 1, 1) := by decide +kernel
theorem dX7_fits_80 : decode cX7_fits 80 = .ok (.ireturn, 1) := by decide +kernel
theorem dX8_init_0 : decode cX8_init 0 = .ok (.aload_n 0, 1) := by decide +kernel
theorem dX8_init_1 : decode cX8_init 1 = .ok (.invokespecial 1, 3) := by decide +kernel
theorem dX8_init_4 : decode cX8_init 4 = .ok (.aload_n 0, 1) := by decide +kernel
theorem dX8_init_5 : decode cX8_init 5 = .ok (.bipush 20, 2) := by decide +kernel
theorem dX8_init_7 : decode cX8_init 7 = .ok (.newarray .long, 2) := by decide +kernel
theorem dX8_init_9 : decode cX8_init 9 = .ok (.putfield 7, 3) := by decide +kernel
theorem dX8_init_12 : decode cX8_init 12 = .ok (.aload_n 0, 1) := by decide +kernel
theorem dX8_init_13 : decode cX8_init 13 = .ok (.bipush 20, 2) := by decide +kernel
theorem dX8_init_15 : decode cX8_init 15 = .ok (.newarray .long, 2) := by decide +kernel
theorem dX8_init_17 : decode cX8_init 17 = .ok (.putfield 13, 3) := by decide +kernel
theorem dX8_init_20 : decode cX8_init 20 = .ok (.aload_n 0, 1) := by decide +kernel
theorem dX8_init_21 : decode cX8_init 21 = .ok (.bipush 20, 2) := by decide +kernel
theorem dX8_init_23 : decode cX8_init 23 = .ok (.newarray .boolean, 2) := by decide +kernel
theorem dX8_init_25 : decode cX8_init 25 = .ok (.putfield 16, 3) := by decide +kernel
theorem dX8_init_28 : decode cX8_init 28 = .ok (.aload_n 0, 1) := by decide +kernel
theorem dX8_init_29 : decode cX8_init 29 = .ok (.bipush 10, 2) := by decide +kernel
theorem dX8_init_31 : decode cX8_init 31 = .ok (.newarray .int, 2) := by decide +kernel
theorem dX8_init_33 : decode cX8_init 33 = .ok (.putfield 20, 3) := by decide +kernel
theorem dX8_init_36 : decode cX8_init 36 = .ok (.aload_n 0, 1) := by decide +kernel
theorem dX8_init_37 : decode cX8_init 37 = .ok (.bipush 10, 2) := by decide +kernel
theorem dX8_init_39 : decode cX8_init 39 = .ok (.newarray .int, 2) := by decide +kernel
theorem dX8_init_41 : decode cX8_init 41 = .ok (.putfield 24, 3) := by decide +kernel
theorem dX8_init_44 : decode cX8_init 44 = .ok (.aload_n 0, 1) := by decide +kernel
theorem dX8_init_45 : decode cX8_init 45 = .ok (.sipush 240, 3) := by decide +kernel
theorem dX8_init_48 : decode cX8_init 48 = .ok (.newarray .int, 2) := by decide +kernel
theorem dX8_init_50 : decode cX8_init 50 = .ok (.putfield 27, 3) := by decide +kernel
theorem dX8_init_53 : decode cX8_init 53 = .ok (.aload_n 0, 1) := by decide +kernel
theorem dX8_init_54 : decode cX8_init 54 = .ok (.sipush 240, 3) := by decide +kernel
theorem dX8_init_57 : decode cX8_init 57 = .ok (.newarray .int, 2) := by decide +kernel
theorem dX8_init_59 : decode cX8_init 59 = .ok (.putfield 30, 3) := by decide +kernel
theorem dX8_init_62 : decode cX8_init 62 = .ok (.aload_n 0, 1) := by decide +kernel
theorem dX8_init_63 : decode cX8_init 63 = .ok (.bipush 24, 2) := by decide +kernel
theorem dX8_init_65 : decode cX8_init 65 = .ok (.newarray .int, 2) := by decide +kernel
theorem dX8_init_67 : decode cX8_init 67 = .ok (.putfield 33, 3) := by decide +kernel
theorem dX8_init_70 : decode cX8_init 70 = .ok (.aload_n 0, 1) := by decide +kernel
theorem dX8_init_71 : decode cX8_init 71 = .ok (.bipush 24, 2) := by decide +kernel
theorem dX8_init_73 : decode cX8_init 73 = .ok (.newarray .int, 2) := by decide +kernel
theorem dX8_init_75 : decode cX8_init 75 = .ok (.putfield 36, 3) := by decide +kernel
theorem dX8_init_78 : decode cX8_init 78 = .ok (.aload_n 0, 1) := by decide +kernel
theorem dX8_init_79 : decode cX8_init 79 = .ok (.bipush 24, 2) := by decide +kernel
theorem dX8_init_81 : decode cX8_init 81 = .ok (.newarray .int, 2) := by decide +kernel
theorem dX8_init_83 : decode cX8_init 83 = .ok (.putfield 39, 3) := by decide +kernel
theorem dX8_init_86 : decode cX8_init 86 = .ok (.aload_n 0, 1) := by decide +kernel
theorem dX8_init_87 : decode cX8_init 87 = .ok (.sipush 384, 3) := by decide +kernel
theorem dX8_init_90 : decode cX8_init 90 = .ok (.newarray .int, 2) := by decide +kernel
theorem dX8_init_92 : decode cX8_init 92 = .ok (.putfield 42, 3) := by decide +kernel
theorem dX8_init_95 : decode cX8_init 95 = .ok (.aload_n 0, 1) := by decide +kernel
theorem dX8_init_96 : decode cX8_init 96 = .ok (.bipush 24, 2) := by decide +kernel
theorem dX8_init_98 : decode cX8_init 98 = .ok (.newarray .long, 2) := by decide +kernel
theorem dX8_init_100 : decode cX8_init 100 = .ok (.putfield 45, 3) := by decide +kernel
theorem dX8_init_103 : decode cX8_init 103 = .ok (.aload_n 0, 1) := by decide +kernel
theorem dX8_init_104 : decode cX8_init 104 = .ok (.bipush 24, 2) := by decide +kernel
theorem dX8_init_106 : decode cX8_init 106 = .ok (.newarray .int, 2) := by decide +kernel
theorem dX8_init_108 : decode cX8_init 108 = .ok (.putfield 48, 3) := by decide +kernel
theorem dX8_init_111 : decode cX8_init 111 = .ok (.aload_n 0, 1) := by decide +kernel
theorem dX8_init_112 : decode cX8_init 112 = .ok (.sipush 168, 3) := by decide +kernel
theorem dX8_init_115 : decode cX8_init 115 = .ok (.newarray .int, 2) := by decide +kernel
theorem dX8_init_117 : decode cX8_init 117 = .ok (.putfield 51, 3) := by decide +kernel
theorem dX8_init_120 : decode cX8_init 120 = .ok (.aload_n 0, 1) := by decide +kernel
theorem dX8_init_121 : decode cX8_init 121 = .ok (.sipush 168, 3) := by decide +kernel
theorem dX8_init_124 : decode cX8_init 124 = .ok (.newarray .int, 2) := by decide +kernel
theorem dX8_init_126 : decode cX8_init 126 = .ok (.putfield 54, 3) := by decide +kernel
theorem dX8_init_129 : decode cX8_init 129 = .ok (.aload_n 0, 1) := by decide +kernel
theorem dX8_init_130 : decode cX8_init 130 = .ok (.bipush 24, 2) := by decide +kernel
theorem dX8_init_132 : decode cX8_init 132 = .ok (.newarray .int, 2) := by decide +kernel
theorem dX8_init_134 : decode cX8_init 134 = .ok (.putfield 57, 3) := by decide +kernel
theorem dX8_init_137 : decode cX8_init 137 = .ok (.aload_n 0, 1) := by decide +kernel
theorem dX8_init_138 : decode cX8_init 138 = .ok (.sipush 144, 3) := by decide +kernel
theorem dX8_init_141 : decode cX8_init 141 = .ok (.newarray .int, 2) := by decide +kernel
theorem dX8_init_143 : decode cX8_init 143 = .ok (.putfield 60, 3) := by decide +kernel
theorem dX8_init_146 : decode cX8_init 146 = .ok (.aload_n 0, 1) := by decide +kernel
theorem dX8_init_147 : decode cX8_init 147 = .ok (.sipush 144, 3) := by decide +kernel
theorem dX8_init_150 : decode cX8_init 150 = .ok (.newarray .int, 2) := by decide +kernel
theorem dX8_init_152 : decode cX8_init 152 = .ok (.putfield 63, 3) := by decide +kernel
theorem dX8_init_155 : decode cX8_init 155 = .ok (.aload_n 0, 1) := by decide +kernel
theorem dX8_init_156 : decode cX8_init 156 = .ok (.sipush 144, 3) := by decide +kernel
theorem dX8_init_159 : decode cX8_init 159 = .ok (.newarray .boolean, 2) := by decide +kernel
theorem dX8_init_161 : decode cX8_init 161 = .ok (.putfield 66, 3) := by decide +kernel
theorem dX8_init_164 : decode cX8_init 164 = .ok (.aload_n 0, 1) := by decide +kernel
theorem dX8_init_165 : decode cX8_init 165 = .ok (.bipush 24, 2) := by decide +kernel
theorem dX8_init_167 : decode cX8_init 167 = .ok (.newarray .int, 2) := by decide +kernel
theorem dX8_init_169 : decode cX8_init 169 = .ok (.putfield 69, 3) := by decide +kernel
theorem dX8_init_172 : decode cX8_init 172 = .ok (.aload_n 0, 1) := by decide +kernel
theorem dX8_init_173 : decode cX8_init 173 = .ok (.sipush 144, 3) := by decide +kernel
theorem dX8_init_176 : decode cX8_init 176 = .ok (.newarray .int, 2) := by decide +kernel
theorem dX8_init_178 : decode cX8_init 178 = .ok (.putfield 72, 3) := by decide +kernel
theorem dX8_init_181 : decode cX8_init 181 = .ok (.aload_n 0, 1) := by decide +kernel
theorem dX8_init_182 : decode cX8_init 182 = .ok (.bipush 24, 2) := by decide +kernel
theorem dX8_init_184 : decode cX8_init 184 = .ok (.newarray .int, 2) := by decide +kernel
theorem dX8_init_186 : decode cX8_init 186 = .ok (.putfield 75, 3) := by decide +kernel
theorem dX8_init_189 : decode cX8_init 189 = .ok (.aload_n 0, 1) := by decide +kernel
theorem dX8_init_190 : decode cX8_init 190 = .ok (.sipush 288, 3) := by decide +kernel
theorem dX8_init_193 : decode cX8_init 193 = .ok (.newarray .int, 2) := by decide +kernel
theorem dX8_init_195 : decode cX8_init 195 = .ok (.putfield 78, 3) := by decide +kernel
theorem dX8_init_198 : decode cX8_init 198 = .ok (.aload_n 0, 1) := by decide +kernel
theorem dX8_init_199 : decode cX8_init 199 = .ok (.sipush 288, 3) := by decide +kernel
theorem dX8_init_202 : decode cX8_init 202 = .ok (.newarray .long, 2) := by decide +kernel
theorem dX8_init_204 : decode cX8_init 204 = .ok (.putfield 81, 3) := by decide +kernel
theorem dX8_init_207 : decode cX8_init 207 = .ok (.aload_n 0, 1) := by decide +kernel
theorem dX8_init_208 : decode cX8_init 208 = .ok (.bipush 10, 2) := by decide +kernel
theorem dX8_init_210 : decode cX8_init 210 = .ok (.newarray .int, 2) := by decide +kernel
theorem dX8_init_212 : decode cX8_init 212 = .ok (.putfield 84, 3) := by decide +kernel
theorem dX8_init_215 : decode cX8_init 215 = .ok (.aload_n 0, 1) := by decide +kernel
theorem dX8_init_216 : decode cX8_init 216 = .ok (.sipush 256, 3) := by decide +kernel
theorem dX8_init_219 : decode cX8_init 219 = .ok (.newarray .int, 2) := by decide +kernel
theorem dX8_init_221 : decode cX8_init 221 = .ok (.putfield 87, 3) := by decide +kernel
theorem dX8_init_224 : decode cX8_init 224 = .ok (.aload_n 0, 1) := by decide +kernel
theorem dX8_init_225 : decode cX8_init 225 = .ok (.bipush 32, 2) := by decide +kernel
theorem dX8_init_227 : decode cX8_init 227 = .ok (.newarray .int, 2) := by decide +kernel
theorem dX8_init_229 : decode cX8_init 229 = .ok (.putfield 90, 3) := by decide +kernel
theorem dX8_init_232 : decode cX8_init 232 = .ok (.aload_n 0, 1) := by decide +kernel
theorem dX8_init_233 : decode cX8_init 233 = .ok (.bipush 32, 2) := by decide +kernel
theorem dX8_init_235 : decode cX8_init 235 = .ok (.newarray .int, 2) := by decide +kernel
theorem dX8_init_237 : decode cX8_init 237 = .ok (.putfield 93, 3) := by decide +kernel
theorem dX8_init_240 : decode cX8_init 240 = .ok (.aload_n 0, 1) := by decide +kernel
theorem dX8_init_241 : decode cX8_init 241 = .ok (.bipush 8, 2) := by decide +kernel
theorem dX8_init_243 : decode cX8_init 243 = .ok (.newarray .int, 2) := by decide +kernel
theorem dX8_init_245 : decode cX8_init 245 = .ok (.dup, 1) := by decide +kernel
theorem dX8_init_246 : decode cX8_init 246 = .ok (.iconst 0, 1) := by decide +kernel
theorem dX8_init_247 : decode cX8_init 247 = .ok (.ldc 96, 2) := by decide +kernel
theorem dX8_init_249 : decode cX8_init 249 = .ok (.iastore, 1) := by decide +kernel
theorem dX8_init_250 : decode cX8_init 250 = .ok (.dup, 1) := by decide +kernel
theorem dX8_init_251 : decode cX8_init 251 = .ok (.iconst 1, 1) := by decide +kernel
theorem dX8_init_252 : decode cX8_init 252 = .ok (.ldc 97, 2) := by decide +kernel
theorem dX8_init_254 : decode cX8_init 254 = .ok (.iastore, 1) := by decide +kernel
theorem dX8_init_255 : decode cX8_init 255 = .ok (.dup, 1) := by decide +kernel
theorem dX8_init_256 : decode cX8_init 256 = .ok (.iconst 2, 1) := by decide +kernel
theorem dX8_init_257 : decode cX8_init 257 = .ok (.ldc 98, 2) := by decide +kernel
theorem dX8_init_259 : decode cX8_init 259 = .ok (.iastore, 1) := by decide +kernel
theorem dX8_init_260 : decode cX8_init 260 = .ok (.dup, 1) := by decide +kernel
theorem dX8_init_261 : decode cX8_init 261 = .ok (.iconst 3, 1) := by decide +kernel
theorem dX8_init_262 : decode cX8_init 262 = .ok (.ldc 99, 2) := by decide +kernel
theorem dX8_init_264 : decode cX8_init 264 = .ok (.iastore, 1) := by decide +kernel
theorem dX8_init_265 : decode cX8_init 265 = .ok (.dup, 1) := by decide +kernel
theorem dX8_init_266 : decode cX8_init 266 = .ok (.iconst 4, 1) := by decide +kernel
theorem dX8_init_267 : decode cX8_init 267 = .ok (.ldc 100, 2) := by decide +kernel
theorem dX8_init_269 : decode cX8_init 269 = .ok (.iastore, 1) := by decide +kernel
theorem dX8_init_270 : decode cX8_init 270 = .ok (.dup, 1) := by decide +kernel
theorem dX8_init_271 : decode cX8_init 271 = .ok (.iconst 5, 1) := by decide +kernel
theorem dX8_init_272 : decode cX8_init 272 = .ok (.ldc 101, 2) := by decide +kernel
theorem dX8_init_274 : decode cX8_init 274 = .ok (.iastore, 1) := by decide +kernel
theorem dX8_init_275 : decode cX8_init 275 = .ok (.dup, 1) := by decide +kernel
theorem dX8_init_276 : decode cX8_init 276 = .ok (.bipush 6, 2) := by decide +kernel
theorem dX8_init_278 : decode cX8_init 278 = .ok (.ldc 102, 2) := by decide +kernel
theorem dX8_init_280 : decode cX8_init 280 = .ok (.iastore, 1) := by decide +kernel
theorem dX8_init_281 : decode cX8_init 281 = .ok (.dup, 1) := by decide +kernel
theorem dX8_init_282 : decode cX8_init 282 = .ok (.bipush 7, 2) := by decide +kernel
theorem dX8_init_284 : decode cX8_init 284 = .ok (.ldc 103, 2) := by decide +kernel
theorem dX8_init_286 : decode cX8_init 286 = .ok (.iastore, 1) := by decide +kernel
theorem dX8_init_287 : decode cX8_init 287 = .ok (.putfield 104, 3) := by decide +kernel
theorem dX8_init_290 : decode cX8_init 290 = .ok (.aload_n 0, 1) := by decide +kernel
theorem dX8_init_291 : decode cX8_init 291 = .ok (.bipush 64, 2) := by decide +kernel
theorem dX8_init_293 : decode cX8_init 293 = .ok (.newarray .int, 2) := by decide +kernel
theorem dX8_init_295 : decode cX8_init 295 = .ok (.dup, 1) := by decide +kernel
theorem dX8_init_296 : decode cX8_init 296 = .ok (.iconst 0, 1) := by decide +kernel
theorem dX8_init_297 : decode cX8_init 297 = .ok (.ldc 107, 2) := by decide +kernel
theorem dX8_init_299 : decode cX8_init 299 = .ok (.iastore, 1) := by decide +kernel
theorem dX8_init_300 : decode cX8_init 300 = .ok (.dup, 1) := by decide +kernel
theorem dX8_init_301 : decode cX8_init 301 = .ok (.iconst 1, 1) := by decide +kernel
theorem dX8_init_302 : decode cX8_init 302 = .ok (.ldc 108, 2) := by decide +kernel
theorem dX8_init_304 : decode cX8_init 304 = .ok (.iastore, 1) := by decide +kernel
theorem dX8_init_305 : decode cX8_init 305 = .ok (.dup, 1) := by decide +kernel
theorem dX8_init_306 : decode cX8_init 306 = .ok (.iconst 2, 1) := by decide +kernel
theorem dX8_init_307 : decode cX8_init 307 = .ok (.ldc 109, 2) := by decide +kernel
theorem dX8_init_309 : decode cX8_init 309 = .ok (.iastore, 1) := by decide +kernel
theorem dX8_init_310 : decode cX8_init 310 = .ok (.dup, 1) := by decide +kernel
theorem dX8_init_311 : decode cX8_init 311 = .ok (.iconst 3, 1) := by decide +kernel
theorem dX8_init_312 : decode cX8_init 312 = .ok (.ldc 110, 2) := by decide +kernel
theorem dX8_init_314 : decode cX8_init 314 = .ok (.iastore, 1) := by decide +kernel
theorem dX8_init_315 : decode cX8_init 315 = .ok (.dup, 1) := by decide +kernel
theorem dX8_init_316 : decode cX8_init 316 = .ok (.iconst 4, 1) := by decide +kernel
theorem dX8_init_317 : decode cX8_init 317 = .ok (.ldc 111, 2) := by decide +kernel
theorem dX8_init_319 : decode cX8_init 319 = .ok (.iastore, 1) := by decide +kernel
theorem dX8_init_320 : decode cX8_init 320 = .ok (.dup, 1) := by decide +kernel
theorem dX8_init_321 : decode cX8_init 321 = .ok (.iconst 5, 1) := by decide +kernel
theorem dX8_init_322 : decode cX8_init 322 = .ok (.ldc 112, 2) := by decide +kernel
theorem dX8_init_324 : decode cX8_init 324 = .ok (.iastore, 1) := by decide +kernel
theorem dX8_init_325 : decode cX8_init 325 = .ok (.dup, 1) := by decide +kernel
theorem dX8_init_326 : decode cX8_init 326 = .ok (.bipush 6, 2) := by decide +kernel
theorem dX8_init_328 : decode cX8_init 328 = .ok (.ldc 113, 2) := by decide +kernel
theorem dX8_init_330 : decode cX8_init 330 = .ok (.iastore, 1) := by decide +kernel
theorem dX8_init_331 : decode cX8_init 331 = .ok (.dup, 1) := by decide +kernel
theorem dX8_init_332 : decode cX8_init 332 = .ok (.bipush 7, 2) := by decide +kernel
theorem dX8_init_334 : decode cX8_init 334 = .ok (.ldc 114, 2) := by decide +kernel
theorem dX8_init_336 : decode cX8_init 336 = .ok (.iastore, 1) := by decide +kernel
theorem dX8_init_337 : decode cX8_init 337 = .ok (.dup, 1) := by decide +kernel
theorem dX8_init_338 : decode cX8_init 338 = .ok (.bipush 8, 2) := by decide +kernel
theorem dX8_init_340 : decode cX8_init 340 = .ok (.ldc 115, 2) := by decide +kernel
theorem dX8_init_342 : decode cX8_init 342 = .ok (.iastore, 1) := by decide +kernel
theorem dX8_init_343 : decode cX8_init 343 = .ok (.dup, 1) := by decide +kernel
theorem dX8_init_344 : decode cX8_init 344 = .ok (.bipush 9, 2) := by decide +kernel
theorem dX8_init_346 : decode cX8_init 346 = .ok (.ldc 116, 2) := by decide +kernel
theorem dX8_init_348 : decode cX8_init 348 = .ok (.iastore, 1) := by decide +kernel
theorem dX8_init_349 : decode cX8_init 349 = .ok (.dup, 1) := by decide +kernel
theorem dX8_init_350 : decode cX8_init 350 = .ok (.bipush 10, 2) := by decide +kernel
theorem dX8_init_352 : decode cX8_init 352 = .ok (.ldc 117, 2) := by decide +kernel
theorem dX8_init_354 : decode cX8_init 354 = .ok (.iastore, 1) := by decide +kernel
theorem dX8_init_355 : decode cX8_init 355 = .ok (.dup, 1) := by decide +kernel
theorem dX8_init_356 : decode cX8_init 356 = .ok (.bipush 11, 2) := by decide +kernel
theorem dX8_init_358 : decode cX8_init 358 = .ok (.ldc 118, 2) := by decide +kernel
theorem dX8_init_360 : decode cX8_init 360 = .ok (.iastore, 1) := by decide +kernel
theorem dX8_init_361 : decode cX8_init 361 = .ok (.dup, 1) := by decide +kernel
theorem dX8_init_362 : decode cX8_init 362 = .ok (.bipush 12, 2) := by decide +kernel
theorem dX8_init_364 : decode cX8_init 364 = .ok (.ldc 119, 2) := by decide +kernel
theorem dX8_init_366 : decode cX8_init 366 = .ok (.iastore, 1) := by decide +kernel
theorem dX8_init_367 : decode cX8_init 367 = .ok (.dup, 1) := by decide +kernel
theorem dX8_init_368 : decode cX8_init 368 = .ok (.bipush 13, 2) := by decide +kernel
theorem dX8_init_370 : decode cX8_init 370 = .ok (.ldc 120, 2) := by decide +kernel
theorem dX8_init_372 : decode cX8_init 372 = .ok (.iastore, 1) := by decide +kernel
theorem dX8_init_373 : decode cX8_init 373 = .ok (.dup, 1) := by decide +kernel
theorem dX8_init_374 : decode cX8_init 374 = .ok (.bipush 14, 2) := by decide +kernel
theorem dX8_init_376 : decode cX8_init 376 = .ok (.ldc 121, 2) := by decide +kernel
theorem dX8_init_378 : decode cX8_init 378 = .ok (.iastore, 1) := by decide +kernel
theorem dX8_init_379 : decode cX8_init 379 = .ok (.dup, 1) := by decide +kernel
theorem dX8_init_380 : decode cX8_init 380 = .ok (.bipush 15, 2) := by decide +kernel
theorem dX8_init_382 : decode cX8_init 382 = .ok (.ldc 122, 2) := by decide +kernel
theorem dX8_init_384 : decode cX8_init 384 = .ok (.iastore, 1) := by decide +kernel
theorem dX8_init_385 : decode cX8_init 385 = .ok (.dup, 1) := by decide +kernel
theorem dX8_init_386 : decode cX8_init 386 = .ok (.bipush 16, 2) := by decide +kernel
theorem dX8_init_388 : decode cX8_init 388 = .ok (.ldc 123, 2) := by decide +kernel
theorem dX8_init_390 : decode cX8_init 390 = .ok (.iastore, 1) := by decide +kernel
theorem dX8_init_391 : decode cX8_init 391 = .ok (.dup, 1) := by decide +kernel
theorem dX8_init_392 : decode cX8_init 392 = .ok (.bipush 17, 2) := by decide +kernel
theorem dX8_init_394 : decode cX8_init 394 = .ok (.ldc 124, 2) := by decide +kernel
theorem dX8_init_396 : decode cX8_init 396 = .ok (.iastore, 1) := by decide +kernel
theorem dX8_init_397 : decode cX8_init 397 = .ok (.dup, 1) := by decide +kernel
theorem dX8_init_398 : decode cX8_init 398 = .ok (.bipush 18, 2) := by decide +kernel
theorem dX8_init_400 : decode cX8_init 400 = .ok (.ldc 125, 2) := by decide +kernel
theorem dX8_init_402 : decode cX8_init 402 = .ok (.iastore, 1) := by decide +kernel
theorem dX8_init_403 : decode cX8_init 403 = .ok (.dup, 1) := by decide +kernel
theorem dX8_init_404 : decode cX8_init 404 = .ok (.bipush 19, 2) := by decide +kernel
theorem dX8_init_406 : decode cX8_init 406 = .ok (.ldc 126, 2) := by decide +kernel
theorem dX8_init_408 : decode cX8_init 408 = .ok (.iastore, 1) := by decide +kernel
theorem dX8_init_409 : decode cX8_init 409 = .ok (.dup, 1) := by decide +kernel
theorem dX8_init_410 : decode cX8_init 410 = .ok (.bipush 20, 2) := by decide +kernel
theorem dX8_init_412 : decode cX8_init 412 = .ok (.ldc 127, 2) := by decide +kernel
theorem dX8_init_414 : decode cX8_init 414 = .ok (.iastore, 1) := by decide +kernel
theorem dX8_init_415 : decode cX8_init 415 = .ok (.dup, 1) := by decide +kernel
theorem dX8_init_416 : decode cX8_init 416 = .ok (.bipush 21, 2) := by decide +kernel
theorem dX8_init_418 : decode cX8_init 418 = .ok (.ldc 128, 2) := by decide +kernel
theorem dX8_init_420 : decode cX8_init 420 = .ok (.iastore, 1) := by decide +kernel
theorem dX8_init_421 : decode cX8_init 421 = .ok (.dup, 1) := by decide +kernel
theorem dX8_init_422 : decode cX8_init 422 = .ok (.bipush 22, 2) := by decide +kernel
theorem dX8_init_424 : decode cX8_init 424 = .ok (.ldc 129, 2) := by decide +kernel
theorem dX8_init_426 : decode cX8_init 426 = .ok (.iastore, 1) := by decide +kernel
theorem dX8_init_427 : decode cX8_init 427 = .ok (.dup, 1) := by decide +kernel
theorem dX8_init_428 : decode cX8_init 428 = .ok (.bipush 23, 2) := by decide +kernel
theorem dX8_init_430 : decode cX8_init 430 = .ok (.ldc 130, 2) := by decide +kernel
theorem dX8_init_432 : decode cX8_init 432 = .ok (.iastore, 1) := by decide +kernel
theorem dX8_init_433 : decode cX8_init 433 = .ok (.dup, 1) := by decide +kernel
theorem dX8_init_434 : decode cX8_init 434 = .ok (.bipush 24, 2) := by decide +kernel
theorem dX8_init_436 : decode cX8_init 436 = .ok (.ldc 131, 2) := by decide +kernel
theorem dX8_init_438 : decode cX8_init 438 = .ok (.iastore, 1) := by decide +kernel
theorem dX8_init_439 : decode cX8_init 439 = .ok (.dup, 1) := by decide +kernel
theorem dX8_init_440 : decode cX8_init 440 = .ok (.bipush 25, 2) := by decide +kernel
theorem dX8_init_442 : decode cX8_init 442 = .ok (.ldc 132, 2) := by decide +kernel
theorem dX8_init_444 : decode cX8_init 444 = .ok (.iastore, 1) := by decide +kernel
theorem dX8_init_445 : decode cX8_init 445 = .ok (.dup, 1) := by decide +kernel
theorem dX8_init_446 : decode cX8_init 446 = .ok (.bipush 26, 2) := by decide +kernel
theorem dX8_init_448 : decode cX8_init 448 = .ok (.ldc 133, 2) := by decide +kernel
theorem dX8_init_450 : decode cX8_init 450 = .ok (.iastore, 1) := by decide +kernel
theorem dX8_init_451 : decode cX8_init 451 = .ok (.dup, 1) := by decide +kernel
theorem dX8_init_452 : decode cX8_init 452 = .ok (.bipush 27, 2) := by decide +kernel
theorem dX8_init_454 : decode cX8_init 454 = .ok (.ldc 134, 2) := by decide +kernel
theorem dX8_init_456 : decode cX8_init 456 = .ok (.iastore, 1) := by decide +kernel
theorem dX8_init_457 : decode cX8_init 457 = .ok (.dup, 1) := by decide +kernel
theorem dX8_init_458 : decode cX8_init 458 = .ok (.bipush 28, 2) := by decide +kernel
theorem dX8_init_460 : decode cX8_init 460 = .ok (.ldc 135, 2) := by decide +kernel
theorem dX8_init_462 : decode cX8_init 462 = .ok (.iastore, 1) := by decide +kernel
theorem dX8_init_463 : decode cX8_init 463 = .ok (.dup, 1) := by decide +kernel
theorem dX8_init_464 : decode cX8_init 464 = .ok (.bipush 29, 2) := by decide +kernel
theorem dX8_init_466 : decode cX8_init 466 = .ok (.ldc 136, 2) := by decide +kernel
theorem dX8_init_468 : decode cX8_init 468 = .ok (.iastore, 1) := by decide +kernel
theorem dX8_init_469 : decode cX8_init 469 = .ok (.dup, 1) := by decide +kernel
theorem dX8_init_470 : decode cX8_init 470 = .ok (.bipush 30, 2) := by decide +kernel
theorem dX8_init_472 : decode cX8_init 472 = .ok (.ldc 137, 2) := by decide +kernel
theorem dX8_init_474 : decode cX8_init 474 = .ok (.iastore, 1) := by decide +kernel
theorem dX8_init_475 : decode cX8_init 475 = .ok (.dup, 1) := by decide +kernel
theorem dX8_init_476 : decode cX8_init 476 = .ok (.bipush 31, 2) := by decide +kernel
theorem dX8_init_478 : decode cX8_init 478 = .ok (.ldc 138, 2) := by decide +kernel
theorem dX8_init_480 : decode cX8_init 480 = .ok (.iastore, 1) := by decide +kernel
theorem dX8_init_481 : decode cX8_init 481 = .ok (.dup, 1) := by decide +kernel
theorem dX8_init_482 : decode cX8_init 482 = .ok (.bipush 32, 2) := by decide +kernel
theorem dX8_init_484 : decode cX8_init 484 = .ok (.ldc 139, 2) := by decide +kernel
theorem dX8_init_486 : decode cX8_init 486 = .ok (.iastore, 1) := by decide +kernel
theorem dX8_init_487 : decode cX8_init 487 = .ok (.dup, 1) := by decide +kernel
theorem dX8_init_488 : decode cX8_init 488 = .ok (.bipush 33, 2) := by decide +kernel
theorem dX8_init_490 : decode cX8_init 490 = .ok (.ldc 140, 2) := by decide +kernel
theorem dX8_init_492 : decode cX8_init 492 = .ok (.iastore, 1) := by decide +kernel
theorem dX8_init_493 : decode cX8_init 493 = .ok (.dup, 1) := by decide +kernel
theorem dX8_init_494 : decode cX8_init 494 = .ok (.bipush 34, 2) := by decide +kernel
theorem dX8_init_496 : decode cX8_init 496 = .ok (.ldc 141, 2) := by decide +kernel
theorem dX8_init_498 : decode cX8_init 498 = .ok (.iastore, 1) := by decide +kernel
theorem dX8_init_499 : decode cX8_init 499 = .ok (.dup, 1) := by decide +kernel
theorem dX8_init_500 : decode cX8_init 500 = .ok (.bipush 35, 2) := by decide +kernel
theorem dX8_init_502 : decode cX8_init 502 = .ok (.ldc 142, 2) := by decide +kernel
theorem dX8_init_504 : decode cX8_init 504 = .ok (.iastore, 1) := by decide +kernel
theorem dX8_init_505 : decode cX8_init 505 = .ok (.dup, 1) := by decide +kernel
theorem dX8_init_506 : decode cX8_init 506 = .ok (.bipush 36, 2) := by decide +kernel
theorem dX8_init_508 : decode cX8_init 508 = .ok (.ldc 143, 2) := by decide +kernel
theorem dX8_init_510 : decode cX8_init 510 = .ok (.iastore, 1) := by decide +kernel
theorem dX8_init_511 : decode cX8_init 511 = .ok (.dup, 1) := by decide +kernel
theorem dX8_init_512 : decode cX8_init 512 = .ok (.bipush 37, 2) := by decide +kernel
theorem dX8_init_514 : decode cX8_init 514 = .ok (.ldc 144, 2) := by decide +kernel
theorem dX8_init_516 : decode cX8_init 516 = .ok (.iastore, 1) := by decide +kernel
theorem dX8_init_517 : decode cX8_init 517 = .ok (.dup, 1) := by decide +kernel
theorem dX8_init_518 : decode cX8_init 518 = .ok (.bipush 38, 2) := by decide +kernel
theorem dX8_init_520 : decode cX8_init 520 = .ok (.ldc 145, 2) := by decide +kernel
theorem dX8_init_522 : decode cX8_init 522 = .ok (.iastore, 1) := by decide +kernel
theorem dX8_init_523 : decode cX8_init 523 = .ok (.dup, 1) := by decide +kernel
theorem dX8_init_524 : decode cX8_init 524 = .ok (.bipush 39, 2) := by decide +kernel
theorem dX8_init_526 : decode cX8_init 526 = .ok (.ldc 146, 2) := by decide +kernel
theorem dX8_init_528 : decode cX8_init 528 = .ok (.iastore, 1) := by decide +kernel
theorem dX8_init_529 : decode cX8_init 529 = .ok (.dup, 1) := by decide +kernel
theorem dX8_init_530 : decode cX8_init 530 = .ok (.bipush 40, 2) := by decide +kernel
theorem dX8_init_532 : decode cX8_init 532 = .ok (.ldc 147, 2) := by decide +kernel
theorem dX8_init_534 : decode cX8_init 534 = .ok (.iastore, 1) := by decide +kernel
theorem dX8_init_535 : decode cX8_init 535 = .ok (.dup, 1) := by decide +kernel
theorem dX8_init_536 : decode cX8_init 536 = .ok (.bipush 41, 2) := by decide +kernel
theorem dX8_init_538 : decode cX8_init 538 = .ok (.ldc 148, 2) := by decide +kernel
theorem dX8_init_540 : decode cX8_init 540 = .ok (.iastore, 1) := by decide +kernel
theorem dX8_init_541 : decode cX8_init 541 = .ok (.dup, 1) := by decide +kernel
theorem dX8_init_542 : decode cX8_init 542 = .ok (.bipush 42, 2) := by decide +kernel
theorem dX8_init_544 : decode cX8_init 544 = .ok (.ldc 149, 2) := by decide +kernel
theorem dX8_init_546 : decode cX8_init 546 = .ok (.iastore, 1) := by decide +kernel
theorem dX8_init_547 : decode cX8_init 547 = .ok (.dup, 1) := by decide +kernel
theorem dX8_init_548 : decode cX8_init 548 = .ok (.bipush 43, 2) := by decide +kernel
theorem dX8_init_550 : decode cX8_init 550 = .ok (.ldc 150, 2) := by decide +kernel
theorem dX8_init_552 : decode cX8_init 552 = .ok (.iastore, 1) := by decide +kernel
theorem dX8_init_553 : decode cX8_init 553 = .ok (.dup, 1) := by decide +kernel
theorem dX8_init_554 : decode cX8_init 554 = .ok (.bipush 44, 2) := by decide +kernel
theorem dX8_init_556 : decode cX8_init 556 = .ok (.ldc 151, 2) := by decide +kernel
theorem dX8_init_558 : decode cX8_init 558 = .ok (.iastore, 1) := by decide +kernel
theorem dX8_init_559 : decode cX8_init 559 = .ok (.dup, 1) := by decide +kernel
theorem dX8_init_560 : decode cX8_init 560 = .ok (.bipush 45, 2) := by decide +kernel
theorem dX8_init_562 : decode cX8_init 562 = .ok (.ldc 152, 2) := by decide +kernel
theorem dX8_init_564 : decode cX8_init 564 = .ok (.iastore, 1) := by decide +kernel
theorem dX8_init_565 : decode cX8_init 565 = .ok (.dup, 1) := by decide +kernel
theorem dX8_init_566 : decode cX8_init 566 = .ok (.bipush 46, 2) := by decide +kernel
theorem dX8_init_568 : decode cX8_init 568 = .ok (.ldc 153, 2) := by decide +kernel
theorem dX8_init_570 : decode cX8_init 570 = .ok (.iastore, 1) := by decide +kernel
theorem dX8_init_571 : decode cX8_init 571 = .ok (.dup, 1) := by decide +kernel
theorem dX8_init_572 : decode cX8_init 572 = .ok (.bipush 47, 2) := by decide +kernel
theorem dX8_init_574 : decode cX8_init 574 = .ok (.ldc 154, 2) := by decide +kernel
theorem dX8_init_576 : decode cX8_init 576 = .ok (.iastore, 1) := by decide +kernel
theorem dX8_init_577 : decode cX8_init 577 = .ok (.dup, 1) := by decide +kernel
theorem dX8_init_578 : decode cX8_init 578 = .ok (.bipush 48, 2) := by decide +kernel
theorem dX8_init_580 : decode cX8_init 580 = .ok (.ldc 155, 2) := by decide +kernel
theorem dX8_init_582 : decode cX8_init 582 = .ok (.iastore, 1) := by decide +kernel
theorem dX8_init_583 : decode cX8_init 583 = .ok (.dup, 1) := by decide +kernel
theorem dX8_init_584 : decode cX8_init 584 = .ok (.bipush 49, 2) := by decide +kernel
theorem dX8_init_586 : decode cX8_init 586 = .ok (.ldc 156, 2) := by decide +kernel
theorem dX8_init_588 : decode cX8_init 588 = .ok (.iastore, 1) := by decide +kernel
theorem dX8_init_589 : decode cX8_init 589 = .ok (.dup, 1) := by decide +kernel
theorem dX8_init_590 : decode cX8_init 590 = .ok (.bipush 50, 2) := by decide +kernel
theorem dX8_init_592 : decode cX8_init 592 = .ok (.ldc 157, 2) := by decide +kernel
theorem dX8_init_594 : decode cX8_init 594 = .ok (.iastore, 1) := by decide +kernel
theorem dX8_init_595 : decode cX8_init 595 = .ok (.dup, 1) := by decide +kernel
theorem dX8_init_596 : decode cX8_init 596 = .ok (.bipush 51, 2) := by decide +kernel
theorem dX8_init_598 : decode cX8_init 598 = .ok (.ldc 158, 2) := by decide +kernel
theorem dX8_init_600 : decode cX8_init 600 = .ok (.iastore, 1) := by decide +kernel
theorem dX8_init_601 : decode cX8_init 601 = .ok (.dup, 1) := by decide +kernel
theorem dX8_init_602 : decode cX8_init 602 = .ok (.bipush 52, 2) := by decide +kernel
theorem dX8_init_604 : decode cX8_init 604 = .ok (.ldc 159, 2) := by decide +kernel
theorem dX8_init_606 : decode cX8_init 606 = .ok (.iastore, 1) := by decide +kernel
theorem dX8_init_607 : decode cX8_init 607 = .ok (.dup, 1) := by decide +kernel
theorem dX8_init_608 : decode cX8_init 608 = .ok (.bipush 53, 2) := by decide +kernel
theorem dX8_init_610 : decode cX8_init 610 = .ok (.ldc 160, 2) := by decide +kernel
theorem dX8_init_612 : decode cX8_init 612 = .ok (.iastore, 1) := by decide +kernel
theorem dX8_init_613 : decode cX8_init 613 = .ok (.dup, 1) := by decide +kernel
theorem dX8_init_614 : decode cX8_init 614 = .ok (.bipush 54, 2) := by decide +kernel
theorem dX8_init_616 : decode cX8_init 616 = .ok (.ldc 161, 2) := by decide +kernel
theorem dX8_init_618 : decode cX8_init 618 = .ok (.iastore, 1) := by decide +kernel
theorem dX8_init_619 : decode cX8_init 619 = .ok (.dup, 1) := by decide +kernel
theorem dX8_init_620 : decode cX8_init 620 = .ok (.bipush 55, 2) := by decide +kernel
theorem dX8_init_622 : decode cX8_init 622 = .ok (.ldc 162, 2) := by decide +kernel
theorem dX8_init_624 : decode cX8_init 624 = .ok (.iastore, 1) := by decide +kernel
theorem dX8_init_625 : decode cX8_init 625 = .ok (.dup, 1) := by decide +kernel
theorem dX8_init_626 : decode cX8_init 626 = .ok (.bipush 56, 2) := by decide +kernel
theorem dX8_init_628 : decode cX8_init 628 = .ok (.ldc 163, 2) := by decide +kernel
theorem dX8_init_630 : decode cX8_init 630 = .ok (.iastore, 1) := by decide +kernel
theorem dX8_init_631 : decode cX8_init 631 = .ok (.dup, 1) := by decide +kernel
theorem dX8_init_632 : decode cX8_init 632 = .ok (.bipush 57, 2) := by decide +kernel
theorem dX8_init_634 : decode cX8_init 634 = .ok (.ldc 164, 2) := by decide +kernel
theorem dX8_init_636 : decode cX8_init 636 = .ok (.iastore, 1) := by decide +kernel
theorem dX8_init_637 : decode cX8_init 637 = .ok (.dup, 1) := by decide +kernel
theorem dX8_init_638 : decode cX8_init 638 = .ok (.bipush 58, 2) := by decide +kernel
theorem dX8_init_640 : decode cX8_init 640 = .ok (.ldc 165, 2) := by decide +kernel
theorem dX8_init_642 : decode cX8_init 642 = .ok (.iastore, 1) := by decide +kernel
theorem dX8_init_643 : decode cX8_init 643 = .ok (.dup, 1) := by decide +kernel
theorem dX8_init_644 : decode cX8_init 644 = .ok (.bipush 59, 2) := by decide +kernel
theorem dX8_init_646 : decode cX8_init 646 = .ok (.ldc 166, 2) := by decide +kernel
theorem dX8_init_648 : decode cX8_init 648 = .ok (.iastore, 1) := by decide +kernel
theorem dX8_init_649 : decode cX8_init 649 = .ok (.dup, 1) := by decide +kernel
theorem dX8_init_650 : decode cX8_init 650 = .ok (.bipush 60, 2) := by decide +kernel
theorem dX8_init_652 : decode cX8_init 652 = .ok (.ldc 167, 2) := by decide +kernel
theorem dX8_init_654 : decode cX8_init 654 = .ok (.iastore, 1) := by decide +kernel
theorem dX8_init_655 : decode cX8_init 655 = .ok (.dup, 1) := by decide +kernel
theorem dX8_init_656 : decode cX8_init 656 = .ok (.bipush 61, 2) := by decide +kernel
theorem dX8_init_658 : decode cX8_init 658 = .ok (.ldc 168, 2) := by decide +kernel
theorem dX8_init_660 : decode cX8_init 660 = .ok (.iastore, 1) := by decide +kernel
theorem dX8_init_661 : decode cX8_init 661 = .ok (.dup, 1) := by decide +kernel
theorem dX8_init_662 : decode cX8_init 662 = .ok (.bipush 62, 2) := by decide +kernel
theorem dX8_init_664 : decode cX8_init 664 = .ok (.ldc 169, 2) := by decide +kernel
theorem dX8_init_666 : decode cX8_init 666 = .ok (.iastore, 1) := by decide +kernel
theorem dX8_init_667 : decode cX8_init 667 = .ok (.dup, 1) := by decide +kernel
theorem dX8_init_668 : decode cX8_init 668 = .ok (.bipush 63, 2) := by decide +kernel
theorem dX8_init_670 : decode cX8_init 670 = .ok (.ldc 170, 2) := by decide +kernel
theorem dX8_init_672 : decode cX8_init 672 = .ok (.iastore, 1) := by decide +kernel
theorem dX8_init_673 : decode cX8_init 673 = .ok (.putfield 171, 3) := by decide +kernel
theorem dX8_init_676 : decode cX8_init 676 = .ok (.aload_n 0, 1) := by decide +kernel
theorem dX8_init_677 : decode cX8_init 677 = .ok (.bipush 16, 2) := by decide +kernel
theorem dX8_init_679 : decode cX8_init 679 = .ok (.newarray .int, 2) := by decide +kernel
theorem dX8_init_681 : decode cX8_init 681 = .ok (.putfield 174, 3) := by decide +kernel
theorem dX8_init_684 : decode cX8_init 684 = .ok (.aload_n 0, 1) := by decide +kernel
theorem dX8_init_685 : decode cX8_init 685 = .ok (.bipush 8, 2) := by decide +kernel
theorem dX8_init_687 : decode cX8_init 687 = .ok (.newarray .int, 2) := by decide +kernel
theorem dX8_init_689 : decode cX8_init 689 = .ok (.putfield 177, 3) := by decide +kernel
theorem dX8_init_692 : decode cX8_init 692 = .ok (.aload_n 0, 1) := by decide +kernel
theorem dX8_init_693 : decode cX8_init 693 = .ok (.bipush 8, 2) := by decide +kernel
theorem dX8_init_695 : decode cX8_init 695 = .ok (.newarray .int, 2) := by decide +kernel
theorem dX8_init_697 : decode cX8_init 697 = .ok (.putfield 180, 3) := by decide +kernel
theorem dX8_init_700 : decode cX8_init 700 = .ok (.aload_n 0, 1) := by decide +kernel
theorem dX8_init_701 : decode cX8_init 701 = .ok (.bipush 10, 2) := by decide +kernel
theorem dX8_init_703 : decode cX8_init 703 = .ok (.newarray .boolean, 2) := by decide +kernel
theorem dX8_init_705 : decode cX8_init 705 = .ok (.putfield 183, 3) := by decide +kernel
theorem dX8_init_708 : decode cX8_init 708 = .ok (.aload_n 0, 1) := by decide +kernel
theorem dX8_init_709 : decode cX8_init 709 = .ok (.bipush 12, 2) := by decide +kernel
theorem dX8_init_711 : decode cX8_init 711 = .ok (.newarray .int, 2) := by decide +kernel
theorem dX8_init_713 : decode cX8_init 713 = .ok (.putfield 186, 3) := by decide +kernel
theorem dX8_init_716 : decode cX8_init 716 = .ok (.aload_n 0, 1) := by decide +kernel
theorem dX8_init_717 : decode cX8_init 717 = .ok (.bipush 12, 2) := by decide +kernel
theorem dX8_init_719 : decode cX8_init 719 = .ok (.newarray .int, 2) := by decide +kernel
theorem dX8_init_721 : decode cX8_init 721 = .ok (.putfield 189, 3) := by decide +kernel
theorem dX8_init_724 : decode cX8_init 724 = .ok (.iconst 0, 1) := by decide +kernel
theorem dX8_init_725 : decode cX8_init 725 = .ok (.istore_n 1, 1) := by decide +kernel
theorem dX8_init_726 : decode cX8_init 726 = .ok (.iload_n 1, 1) := by decide +kernel
theorem dX8_init_727 : decode cX8_init 727 = .ok (.bipush 10, 2) := by decide +kernel
theorem dX8_init_729 : decode cX8_init 729 = .ok (.if_icmp .ge 23, 3) := by decide +kernel
theorem dX8_init_732 : decode cX8_init 732 = .ok (.aload_n 0, 1) := by decide +kernel
theorem dX8_init_733 : decode cX8_init 733 = .ok (.getfield 20, 3) := by decide +kernel
theorem dX8_init_736 : decode cX8_init 736 = .ok (.iload_n 1, 1) := by decide +kernel
theorem dX8_init_737 : decode cX8_init 737 = .ok (.iconst 1, 1) := by decide +kernel
theorem dX8_init_738 : decode cX8_init 738 = .ok (.iastore, 1) := by decide +kernel
theorem dX8_init_739 : decode cX8_init 739 = .ok (.aload_n 0, 1) := by decide +kernel
theorem dX8_init_740 : decode cX8_init 740 = .ok (.getfield 84, 3) := by decide +kernel
theorem dX8_init_743 : decode cX8_init 743 = .ok (.iload_n 1, 1) := by decide +kernel
theorem dX8_init_744 : decode cX8_init 744 = .ok (.iconst (-1), 1) := by decide +kernel
theorem dX8_init_745 : decode cX8_init 745 = .ok (.iastore, 1) := by decide +kernel
theorem dX8_init_746 : decode cX8_init 746 = .ok (.iinc 1 1, 3) := by decide +kernel
theorem dX8_init_749 : decode cX8_init 749 = .ok (.goto (-23), 3) := by decide +kernel
theorem dX8_init_752 : decode cX8_init 752 = .ok (.return_, 1) := by decide +kernel
theorem dX8_thrown_0 : decode cX8_thrown 0 = .ok (.aload_n 0, 1) := by decide +kernel
theorem dX8_thrown_1 : decode cX8_thrown 1 = .ok (.getfield 192, 3) := by decide +kernel
theorem dX8_thrown_4 : decode cX8_thrown 4 = .ok (.ireturn, 1) := by decide +kernel
theorem dX8_isKey_0 : decode cX8_isKey 0 = .ok (.iload_n 1, 1) := by decide +kernel
theorem dX8_isKey_1 : decode cX8_isKey 1 = .ok (.ifCond .lt 15, 3) := by decide +kernel
theorem dX8_isKey_4 : decode cX8_isKey 4 = .ok (.iload_n 1, 1) := by decide +kernel
theorem dX8_isKey_5 : decode cX8_isKey 5 = .ok (.aload_n 0, 1) := by decide +kernel
theorem dX8_isKey_6 : decode cX8_isKey 6 = .ok (.getfield 196, 3) := by decide +kernel
theorem dX8_isKey_9 : decode cX8_isKey 9 = .ok (.if_icmp .ge 7, 3) := by decide +kernel
theorem dX8_isKey_12 : decode cX8_isKey 12 = .ok (.iconst 1, 1) := by decide +kernel
theorem dX8_isKey_13 : decode cX8_isKey 13 = .ok (.goto 4, 3) := by decide +kernel
theorem dX8_isKey_16 : decode cX8_isKey 16 = .ok (.iconst 0, 1) := by decide +kernel
theorem dX8_isKey_17 : decode cX8_isKey 17 = .ok (.ireturn, 1) := by decide +kernel
theorem dX8_isRow_0 : decode cX8_isRow 0 = .ok (.iload_n 1, 1) := by decide +kernel
theorem dX8_isRow_1 : decode cX8_isRow 1 = .ok (.ifCond .lt 15, 3) := by decide +kernel
theorem dX8_isRow_4 : decode cX8_isRow 4 = .ok (.iload_n 1, 1) := by decide +kernel
theorem dX8_isRow_5 : decode cX8_isRow 5 = .ok (.aload_n 0, 1) := by decide +kernel
theorem dX8_isRow_6 : decode cX8_isRow 6 = .ok (.getfield 199, 3) := by decide +kernel
theorem dX8_isRow_9 : decode cX8_isRow 9 = .ok (.if_icmp .ge 7, 3) := by decide +kernel
theorem dX8_isRow_12 : decode cX8_isRow 12 = .ok (.iconst 1, 1) := by decide +kernel
theorem dX8_isRow_13 : decode cX8_isRow 13 = .ok (.goto 4, 3) := by decide +kernel
theorem dX8_isRow_16 : decode cX8_isRow 16 = .ok (.iconst 0, 1) := by decide +kernel
theorem dX8_isRow_17 : decode cX8_isRow 17 = .ok (.ireturn, 1) := by decide +kernel
theorem dX8_isRole_0 : decode cX8_isRole 0 = .ok (.iload_n 0, 1) := by decide +kernel
theorem dX8_isRole_1 : decode cX8_isRole 1 = .ok (.ifCond .lt 13, 3) := by decide +kernel
theorem dX8_isRole_4 : decode cX8_isRole 4 = .ok (.iload_n 0, 1) := by decide +kernel
theorem dX8_isRole_5 : decode cX8_isRole 5 = .ok (.bipush 10, 2) := by decide +kernel
theorem dX8_isRole_7 : decode cX8_isRole 7 = .ok (.if_icmp .ge 7, 3) := by decide +kernel
theorem dX8_isRole_10 : decode cX8_isRole 10 = .ok (.iconst 1, 1) := by decide +kernel
theorem dX8_isRole_11 : decode cX8_isRole 11 = .ok (.goto 4, 3) := by decide +kernel
theorem dX8_isRole_14 : decode cX8_isRole 14 = .ok (.iconst 0, 1) := by decide +kernel
theorem dX8_isRole_15 : decode cX8_isRole 15 = .ok (.ireturn, 1) := by decide +kernel
set_option maxRecDepth 20000 in
theorem ggX8_isOpen_X8_isRow : GoodIn wsX8_isOpen wsX8_isRow := goodIn_r _ [6, 7, 8, 9, 10, 11, 12, 13, 14, 15, 16, 17, 18, 19, 20, 21, 22, 23, 24, 25, 26, 27, 28, 29, 30, 31, 32, 33, 34, 35, 36, 37, 38, 39, 40, 41, 42, 43, 44, 45, 46, 47, 48] (by decide +kernel) (by decide +kernel)
set_option maxRecDepth 20000 in
theorem gX8_isOpen_X8_isRow : GoodIn wsX8_isOpen (wsV RX8 202 RX8 yX8_isRow wsX8_isRow) := goodIn_app (goodIn_of _ (by decide +kernel)) ggX8_isOpen_X8_isRow
theorem dX8_isOpen_0 : decode cX8_isOpen 0 = .ok (.aload_n 0, 1) := by decide +kernel
theorem dX8_isOpen_1 : decode cX8_isOpen 1 = .ok (.iload_n 1, 1) := by decide +kernel
theorem dX8_isOpen_2 : decode cX8_isOpen 2 = .ok (.invokevirtual 202, 3) := by decide +kernel
theorem dX8_isOpen_5 : decode cX8_isOpen 5 = .ok (.ifCond .eq 16, 3) := by decide +kernel
theorem dX8_isOpen_8 : decode cX8_isOpen 8 = .ok (.aload_n 0, 1) := by decide +kernel
theorem dX8_isOpen_9 : decode cX8_isOpen 9 = .ok (.getfield 75, 3) := by decide +kernel
theorem dX8_isOpen_12 : decode cX8_isOpen 12 = .ok (.iload_n 1, 1) := by decide +kernel
theorem dX8_isOpen_13 : decode cX8_isOpen 13 = .ok (.iaload, 1) := by decide +kernel
theorem dX8_isOpen_14 : decode cX8_isOpen 14 = .ok (.ifCond .ne 7, 3) := by decide +kernel
theorem dX8_isOpen_17 : decode cX8_isOpen 17 = .ok (.iconst 1, 1) := by decide +kernel
theorem dX8_isOpen_18 : decode cX8_isOpen 18 = .ok (.goto 4, 3) := by decide +kernel
theorem dX8_isOpen_21 : decode cX8_isOpen 21 = .ok (.iconst 0, 1) := by decide +kernel
theorem dX8_isOpen_22 : decode cX8_isOpen 22 = .ok (.ireturn, 1) := by decide +kernel
theorem dX8_turned_0 : decode cX8_turned 0 = .ok (.iload_n 0, 1) := by decide +kernel
theorem dX8_turned_1 : decode cX8_turned 1 = .ok (.iload_n 1, 1) := by decide +kernel
theorem dX8_turned_2 : decode cX8_turned 2 = .ok (.iushr, 1) := by decide +kernel
theorem dX8_turned_3 : decode cX8_turned 3 = .ok (.iload_n 0, 1) := by decide +kernel
theorem dX8_turned_4 : decode cX8_turned 4 = .ok (.bipush 32, 2) := by decide +kernel
theorem dX8_turned_6 : decode cX8_turned 6 = .ok (.iload_n 1, 1) := by decide +kernel
theorem dX8_turned_7 : decode cX8_turned 7 = .ok (.isub, 1) := by decide +kernel
theorem dX8_turned_8 : decode cX8_turned 8 = .ok (.ishl, 1) := by decide +kernel
theorem dX8_turned_9 : decode cX8_turned 9 = .ok (.ior, 1) := by decide +kernel
theorem dX8_turned_10 : decode cX8_turned 10 = .ok (.ireturn, 1) := by decide +kernel
theorem dX8_put_0 : decode cX8_put 0 = .ok (.bipush 8, 2) := by decide +kernel
theorem dX8_put_2 : decode cX8_put 2 = .ok (.iload_n 3, 1) := by decide +kernel
theorem dX8_put_3 : decode cX8_put 3 = .ok (.imul, 1) := by decide +kernel
theorem dX8_put_4 : decode cX8_put 4 = .ok (.bipush 8, 2) := by decide +kernel
theorem dX8_put_6 : decode cX8_put 6 = .ok (.isub, 1) := by decide +kernel
theorem dX8_put_7 : decode cX8_put 7 = .ok (.istore 4, 2) := by decide +kernel
theorem dX8_put_9 : decode cX8_put 9 = .ok (.iload 4, 2) := by decide +kernel
theorem dX8_put_11 : decode cX8_put 11 = .ok (.ifCond .lt 37, 3) := by decide +kernel
theorem dX8_put_14 : decode cX8_put 14 = .ok (.aload_n 0, 1) := by decide +kernel
theorem dX8_put_15 : decode cX8_put 15 = .ok (.getfield 87, 3) := by decide +kernel
theorem dX8_put_18 : decode cX8_put 18 = .ok (.aload_n 0, 1) := by decide +kernel
theorem dX8_put_19 : decode cX8_put 19 = .ok (.getfield 206, 3) := by decide +kernel
theorem dX8_put_22 : decode cX8_put 22 = .ok (.lload_n 1, 1) := by decide +kernel
theorem dX8_put_23 : decode cX8_put 23 = .ok (.iload 4, 2) := by decide +kernel
theorem dX8_put_25 : decode cX8_put 25 = .ok (.lshr, 1) := by decide +kernel
theorem dX8_put_26 : decode cX8_put 26 = .ok (.ldc2_w 209, 3) := by decide +kernel
theorem dX8_put_29 : decode cX8_put 29 = .ok (.land, 1) := by decide +kernel
theorem dX8_put_30 : decode cX8_put 30 = .ok (.l2i, 1) := by decide +kernel
theorem dX8_put_31 : decode cX8_put 31 = .ok (.iastore, 1) := by decide +kernel
theorem dX8_put_32 : decode cX8_put 32 = .ok (.aload_n 0, 1) := by decide +kernel
theorem dX8_put_33 : decode cX8_put 33 = .ok (.dup, 1) := by decide +kernel
theorem dX8_put_34 : decode cX8_put 34 = .ok (.getfield 206, 3) := by decide +kernel
theorem dX8_put_37 : decode cX8_put 37 = .ok (.iconst 1, 1) := by decide +kernel
theorem dX8_put_38 : decode cX8_put 38 = .ok (.iadd, 1) := by decide +kernel
theorem dX8_put_39 : decode cX8_put 39 = .ok (.putfield 206, 3) := by decide +kernel
theorem dX8_put_42 : decode cX8_put 42 = .ok (.iinc 4 (-8), 3) := by decide +kernel
theorem dX8_put_45 : decode cX8_put 45 = .ok (.goto (-36), 3) := by decide +kernel
theorem dX8_put_48 : decode cX8_put 48 = .ok (.return_, 1) := by decide +kernel
set_option maxRecDepth 20000 in
theorem ggX8_later_X8_turned : GoodIn wsX8_later wsX8_turned := goodIn_r _ [5] (by decide +kernel) (by decide +kernel)
set_option maxRecDepth 20000 in
theorem gX8_later_X8_turned : GoodIn wsX8_later (va_wsS RX8 211 yX8_turned wsX8_turned) := goodIn_app (goodIn_of _ (by decide +kernel)) ggX8_later_X8_turned
theorem dX8_later_0 : decode cX8_later 0 = .ok (.aload_n 0, 1) := by decide +kernel
theorem dX8_later_1 : decode cX8_later 1 = .ok (.getfield 174, 3) := by decide +kernel
theorem dX8_later_4 : decode cX8_later 4 = .ok (.iload_n 1, 1) := by decide +kernel
theorem dX8_later_5 : decode cX8_later 5 = .ok (.iconst 1, 1) := by decide +kernel
theorem dX8_later_6 : decode cX8_later 6 = .ok (.iadd, 1) := by decide +kernel
theorem dX8_later_7 : decode cX8_later 7 = .ok (.bipush 15, 2) := by decide +kernel
theorem dX8_later_9 : decode cX8_later 9 = .ok (.iand, 1) := by decide +kernel
theorem dX8_later_10 : decode cX8_later 10 = .ok (.iaload, 1) := by decide +kernel
theorem dX8_later_11 : decode cX8_later 11 = .ok (.istore_n 2, 1) := by decide +kernel
theorem dX8_later_12 : decode cX8_later 12 = .ok (.aload_n 0, 1) := by decide +kernel
theorem dX8_later_13 : decode cX8_later 13 = .ok (.getfield 174, 3) := by decide +kernel
theorem dX8_later_16 : decode cX8_later 16 = .ok (.iload_n 1, 1) := by decide +kernel
theorem dX8_later_17 : decode cX8_later 17 = .ok (.bipush 14, 2) := by decide +kernel
theorem dX8_later_19 : decode cX8_later 19 = .ok (.iadd, 1) := by decide +kernel
theorem dX8_later_20 : decode cX8_later 20 = .ok (.bipush 15, 2) := by decide +kernel
theorem dX8_later_22 : decode cX8_later 22 = .ok (.iand, 1) := by decide +kernel
theorem dX8_later_23 : decode cX8_later 23 = .ok (.iaload, 1) := by decide +kernel
theorem dX8_later_24 : decode cX8_later 24 = .ok (.istore_n 3, 1) := by decide +kernel
theorem dX8_later_25 : decode cX8_later 25 = .ok (.aload_n 0, 1) := by decide +kernel
theorem dX8_later_26 : decode cX8_later 26 = .ok (.getfield 174, 3) := by decide +kernel
theorem dX8_later_29 : decode cX8_later 29 = .ok (.iload_n 1, 1) := by decide +kernel
theorem dX8_later_30 : decode cX8_later 30 = .ok (.bipush 15, 2) := by decide +kernel
theorem dX8_later_32 : decode cX8_later 32 = .ok (.iand, 1) := by decide +kernel
theorem dX8_later_33 : decode cX8_later 33 = .ok (.iaload, 1) := by decide +kernel
theorem dX8_later_34 : decode cX8_later 34 = .ok (.aload_n 0, 1) := by decide +kernel
theorem dX8_later_35 : decode cX8_later 35 = .ok (.getfield 174, 3) := by decide +kernel
theorem dX8_later_38 : decode cX8_later 38 = .ok (.iload_n 1, 1) := by decide +kernel
theorem dX8_later_39 : decode cX8_later 39 = .ok (.bipush 9, 2) := by decide +kernel
theorem dX8_later_41 : decode cX8_later 41 = .ok (.iadd, 1) := by decide +kernel
theorem dX8_later_42 : decode cX8_later 42 = .ok (.bipush 15, 2) := by decide +kernel
theorem dX8_later_44 : decode cX8_later 44 = .ok (.iand, 1) := by decide +kernel
theorem dX8_later_45 : decode cX8_later 45 = .ok (.iaload, 1) := by decide +kernel
theorem dX8_later_46 : decode cX8_later 46 = .ok (.iadd, 1) := by decide +kernel
theorem dX8_later_47 : decode cX8_later 47 = .ok (.iload_n 2, 1) := by decide +kernel
theorem dX8_later_48 : decode cX8_later 48 = .ok (.bipush 7, 2) := by decide +kernel
theorem dX8_later_50 : decode cX8_later 50 = .ok (.invokestatic 211, 3) := by decide +kernel
theorem dX8_later_53 : decode cX8_later 53 = .ok (.iload_n 2, 1) := by decide +kernel
theorem dX8_later_54 : decode cX8_later 54 = .ok (.bipush 18, 2) := by decide +kernel
theorem dX8_later_56 : decode cX8_later 56 = .ok (.invokestatic 211, 3) := by decide +kernel
theorem dX8_later_59 : decode cX8_later 59 = .ok (.ixor, 1) := by decide +kernel
theorem dX8_later_60 : decode cX8_later 60 = .ok (.iload_n 2, 1) := by decide +kernel
theorem dX8_later_61 : decode cX8_later 61 = .ok (.iconst 3, 1) := by decide +kernel
theorem dX8_later_62 : decode cX8_later 62 = .ok (.iushr, 1) := by decide +kernel
theorem dX8_later_63 : decode cX8_later 63 = .ok (.ixor, 1) := by decide +kernel
theorem dX8_later_64 : decode cX8_later 64 = .ok (.iadd, 1) := by decide +kernel
theorem dX8_later_65 : decode cX8_later 65 = .ok (.iload_n 3, 1) := by decide +kernel
theorem dX8_later_66 : decode cX8_later 66 = .ok (.bipush 17, 2) := by decide +kernel
theorem dX8_later_68 : decode cX8_later 68 = .ok (.invokestatic 211, 3) := by decide +kernel
theorem dX8_later_71 : decode cX8_later 71 = .ok (.iload_n 3, 1) := by decide +kernel
theorem dX8_later_72 : decode cX8_later 72 = .ok (.bipush 19, 2) := by decide +kernel
theorem dX8_later_74 : decode cX8_later 74 = .ok (.invokestatic 211, 3) := by decide +kernel
theorem dX8_later_77 : decode cX8_later 77 = .ok (.ixor, 1) := by decide +kernel
theorem dX8_later_78 : decode cX8_later 78 = .ok (.iload_n 3, 1) := by decide +kernel
theorem dX8_later_79 : decode cX8_later 79 = .ok (.bipush 10, 2) := by decide +kernel
theorem dX8_later_81 : decode cX8_later 81 = .ok (.iushr, 1) := by decide +kernel
theorem dX8_later_82 : decode cX8_later 82 = .ok (.ixor, 1) := by decide +kernel
theorem dX8_later_83 : decode cX8_later 83 = .ok (.iadd, 1) := by decide +kernel
theorem dX8_later_84 : decode cX8_later 84 = .ok (.ireturn, 1) := by decide +kernel
set_option maxRecDepth 20000 in
theorem ggX8_step_X8_turned : GoodIn wsX8_step wsX8_turned := goodIn_r _ [7] (by decide +kernel) (by decide +kernel)
set_option maxRecDepth 20000 in
theorem gX8_step_X8_turned : GoodIn wsX8_step (va_wsS RX8 211 yX8_turned wsX8_turned) := goodIn_app (goodIn_of _ (by decide +kernel)) ggX8_step_X8_turned
set_option maxRecDepth 20000 in
theorem ggX8_step_X8_later : GoodIn wsX8_step wsX8_later := goodIn_r _ [11, 3, 4, 5, 6, 7, 12, 13, 14, 15, 16, 17, 18, 19, 20, 21, 22, 23, 24, 25, 26, 27, 28, 29, 30, 31, 32, 33, 34, 35, 36, 37, 38, 39, 40, 41, 42, 43, 44, 45, 46, 47, 48, 49, 50, 51, 52] (by decide +kernel) (by decide +kernel)
set_option maxRecDepth 20000 in
theorem gX8_step_X8_later : GoodIn wsX8_step (wsV RX8 215 RX8 yX8_later wsX8_later) := goodIn_app (goodIn_of _ (by decide +kernel)) ggX8_step_X8_later
theorem dX8_step_0 : decode cX8_step 0 = .ok (.bipush 64, 2) := by decide +kernel
theorem dX8_step_2 : decode cX8_step 2 = .ok (.iload_n 1, 1) := by decide +kernel
theorem dX8_step_3 : decode cX8_step 3 = .ok (.isub, 1) := by decide +kernel
theorem dX8_step_4 : decode cX8_step 4 = .ok (.istore_n 2, 1) := by decide +kernel
theorem dX8_step_5 : decode cX8_step 5 = .ok (.aload_n 0, 1) := by decide +kernel
theorem dX8_step_6 : decode cX8_step 6 = .ok (.getfield 177, 3) := by decide +kernel
theorem dX8_step_9 : decode cX8_step 9 = .ok (.iload_n 2, 1) := by decide +kernel
theorem dX8_step_10 : decode cX8_step 10 = .ok (.iconst 4, 1) := by decide +kernel
theorem dX8_step_11 : decode cX8_step 11 = .ok (.iadd, 1) := by decide +kernel
theorem dX8_step_12 : decode cX8_step 12 = .ok (.bipush 7, 2) := by decide +kernel
theorem dX8_step_14 : decode cX8_step 14 = .ok (.iand, 1) := by decide +kernel
theorem dX8_step_15 : decode cX8_step 15 = .ok (.iaload, 1) := by decide +kernel
theorem dX8_step_16 : decode cX8_step 16 = .ok (.istore_n 3, 1) := by decide +kernel
theorem dX8_step_17 : decode cX8_step 17 = .ok (.aload_n 0, 1) := by decide +kernel
theorem dX8_step_18 : decode cX8_step 18 = .ok (.getfield 177, 3) := by decide +kernel
theorem dX8_step_21 : decode cX8_step 21 = .ok (.iload_n 2, 1) := by decide +kernel
theorem dX8_step_22 : decode cX8_step 22 = .ok (.iconst 5, 1) := by decide +kernel
theorem dX8_step_23 : decode cX8_step 23 = .ok (.iadd, 1) := by decide +kernel
theorem dX8_step_24 : decode cX8_step 24 = .ok (.bipush 7, 2) := by decide +kernel
theorem dX8_step_26 : decode cX8_step 26 = .ok (.iand, 1) := by decide +kernel
theorem dX8_step_27 : decode cX8_step 27 = .ok (.iaload, 1) := by decide +kernel
theorem dX8_step_28 : decode cX8_step 28 = .ok (.istore 4, 2) := by decide +kernel
theorem dX8_step_30 : decode cX8_step 30 = .ok (.aload_n 0, 1) := by decide +kernel
theorem dX8_step_31 : decode cX8_step 31 = .ok (.getfield 177, 3) := by decide +kernel
theorem dX8_step_34 : decode cX8_step 34 = .ok (.iload_n 2, 1) := by decide +kernel
theorem dX8_step_35 : decode cX8_step 35 = .ok (.bipush 6, 2) := by decide +kernel
theorem dX8_step_37 : decode cX8_step 37 = .ok (.iadd, 1) := by decide +kernel
theorem dX8_step_38 : decode cX8_step 38 = .ok (.bipush 7, 2) := by decide +kernel
theorem dX8_step_40 : decode cX8_step 40 = .ok (.iand, 1) := by decide +kernel
theorem dX8_step_41 : decode cX8_step 41 = .ok (.iaload, 1) := by decide +kernel
theorem dX8_step_42 : decode cX8_step 42 = .ok (.istore 5, 2) := by decide +kernel
theorem dX8_step_44 : decode cX8_step 44 = .ok (.aload_n 0, 1) := by decide +kernel
theorem dX8_step_45 : decode cX8_step 45 = .ok (.getfield 177, 3) := by decide +kernel
theorem dX8_step_48 : decode cX8_step 48 = .ok (.iload_n 2, 1) := by decide +kernel
theorem dX8_step_49 : decode cX8_step 49 = .ok (.bipush 7, 2) := by decide +kernel
theorem dX8_step_51 : decode cX8_step 51 = .ok (.iand, 1) := by decide +kernel
theorem dX8_step_52 : decode cX8_step 52 = .ok (.iaload, 1) := by decide +kernel
theorem dX8_step_53 : decode cX8_step 53 = .ok (.istore 6, 2) := by decide +kernel
theorem dX8_step_55 : decode cX8_step 55 = .ok (.aload_n 0, 1) := by decide +kernel
theorem dX8_step_56 : decode cX8_step 56 = .ok (.getfield 177, 3) := by decide +kernel
theorem dX8_step_59 : decode cX8_step 59 = .ok (.iload_n 2, 1) := by decide +kernel
theorem dX8_step_60 : decode cX8_step 60 = .ok (.iconst 1, 1) := by decide +kernel
theorem dX8_step_61 : decode cX8_step 61 = .ok (.iadd, 1) := by decide +kernel
theorem dX8_step_62 : decode cX8_step 62 = .ok (.bipush 7, 2) := by decide +kernel
theorem dX8_step_64 : decode cX8_step 64 = .ok (.iand, 1) := by decide +kernel
theorem dX8_step_65 : decode cX8_step 65 = .ok (.iaload, 1) := by decide +kernel
theorem dX8_step_66 : decode cX8_step 66 = .ok (.istore 7, 2) := by decide +kernel
theorem dX8_step_68 : decode cX8_step 68 = .ok (.aload_n 0, 1) := by decide +kernel
theorem dX8_step_69 : decode cX8_step 69 = .ok (.getfield 177, 3) := by decide +kernel
theorem dX8_step_72 : decode cX8_step 72 = .ok (.iload_n 2, 1) := by decide +kernel
theorem dX8_step_73 : decode cX8_step 73 = .ok (.iconst 2, 1) := by decide +kernel
theorem dX8_step_74 : decode cX8_step 74 = .ok (.iadd, 1) := by decide +kernel
theorem dX8_step_75 : decode cX8_step 75 = .ok (.bipush 7, 2) := by decide +kernel
theorem dX8_step_77 : decode cX8_step 77 = .ok (.iand, 1) := by decide +kernel
theorem dX8_step_78 : decode cX8_step 78 = .ok (.iaload, 1) := by decide +kernel
theorem dX8_step_79 : decode cX8_step 79 = .ok (.istore 8, 2) := by decide +kernel
theorem dX8_step_81 : decode cX8_step 81 = .ok (.aload_n 0, 1) := by decide +kernel
theorem dX8_step_82 : decode cX8_step 82 = .ok (.getfield 177, 3) := by decide +kernel
theorem dX8_step_85 : decode cX8_step 85 = .ok (.iload_n 2, 1) := by decide +kernel
theorem dX8_step_86 : decode cX8_step 86 = .ok (.bipush 7, 2) := by decide +kernel
