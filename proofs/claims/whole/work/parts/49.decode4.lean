theorem dX8_rule_181 : decode cX8_rule 181 = .ok (.iconst 3, 1) := by decide +kernel
theorem dX8_rule_182 : decode cX8_rule 182 = .ok (.if_icmp .lt 16, 3) := by decide +kernel
theorem dX8_rule_185 : decode cX8_rule 185 = .ok (.aload_n 0, 1) := by decide +kernel
theorem dX8_rule_186 : decode cX8_rule 186 = .ok (.iconst 2, 1) := by decide +kernel
theorem dX8_rule_187 : decode cX8_rule 187 = .ok (.iload_n 1, 1) := by decide +kernel
theorem dX8_rule_188 : decode cX8_rule 188 = .ok (.lload_n 2, 1) := by decide +kernel
theorem dX8_rule_189 : decode cX8_rule 189 = .ok (.invokevirtual 279, 3) := by decide +kernel
theorem dX8_rule_192 : decode cX8_rule 192 = .ok (.ifCond .ne 6, 3) := by decide +kernel
theorem dX8_rule_195 : decode cX8_rule 195 = .ok (.bipush 7, 2) := by decide +kernel
theorem dX8_rule_197 : decode cX8_rule 197 = .ok (.ireturn, 1) := by decide +kernel
theorem dX8_rule_198 : decode cX8_rule 198 = .ok (.iload 4, 2) := by decide +kernel
theorem dX8_rule_200 : decode cX8_rule 200 = .ok (.iconst 2, 1) := by decide +kernel
theorem dX8_rule_201 : decode cX8_rule 201 = .ok (.if_icmp .ne 30, 3) := by decide +kernel
theorem dX8_rule_204 : decode cX8_rule 204 = .ok (.aload_n 0, 1) := by decide +kernel
theorem dX8_rule_205 : decode cX8_rule 205 = .ok (.getfield 84, 3) := by decide +kernel
theorem dX8_rule_208 : decode cX8_rule 208 = .ok (.iconst 2, 1) := by decide +kernel
theorem dX8_rule_209 : decode cX8_rule 209 = .ok (.iaload, 1) := by decide +kernel
theorem dX8_rule_210 : decode cX8_rule 210 = .ok (.iconst (-1), 1) := by decide +kernel
theorem dX8_rule_211 : decode cX8_rule 211 = .ok (.if_icmp .eq 20, 3) := by decide +kernel
theorem dX8_rule_214 : decode cX8_rule 214 = .ok (.aload_n 0, 1) := by decide +kernel
theorem dX8_rule_215 : decode cX8_rule 215 = .ok (.aload_n 0, 1) := by decide +kernel
theorem dX8_rule_216 : decode cX8_rule 216 = .ok (.getfield 84, 3) := by decide +kernel
theorem dX8_rule_219 : decode cX8_rule 219 = .ok (.iconst 2, 1) := by decide +kernel
theorem dX8_rule_220 : decode cX8_rule 220 = .ok (.iaload, 1) := by decide +kernel
theorem dX8_rule_221 : decode cX8_rule 221 = .ok (.iload_n 1, 1) := by decide +kernel
theorem dX8_rule_222 : decode cX8_rule 222 = .ok (.invokevirtual 283, 3) := by decide +kernel
theorem dX8_rule_225 : decode cX8_rule 225 = .ok (.ifCond .ne 6, 3) := by decide +kernel
theorem dX8_rule_228 : decode cX8_rule 228 = .ok (.bipush 8, 2) := by decide +kernel
theorem dX8_rule_230 : decode cX8_rule 230 = .ok (.ireturn, 1) := by decide +kernel
theorem dX8_rule_231 : decode cX8_rule 231 = .ok (.iconst 0, 1) := by decide +kernel
theorem dX8_rule_232 : decode cX8_rule 232 = .ok (.ireturn, 1) := by decide +kernel
set_option maxRecDepth 20000 in
theorem ggX8_verify_X8_rule : GoodIn wsX8_verify wsX8_rule := goodIn_r _ [6, 7, 8, 9, 10, 11, 12, 5, 13, 14, 15, 16, 17, 18, 19, 20, 21, 22, 23, 24, 25, 26, 27, 28, 29, 30, 31, 32, 33, 34, 35, 36, 37, 38, 39, 40, 41, 42, 43, 44, 45, 46, 47, 48, 49, 50, 51, 52, 53, 54, 55, 56, 57, 58, 59, 60, 61, 62, 63, 64, 65, 66, 67, 68, 69, 70, 71, 72, 73, 74, 75, 76, 77, 78, 79, 80, 81, 82, 83, 84, 85, 86, 87, 88, 89, 90, 91, 92, 93, 94, 95, 96, 97, 98, 99, 100, 101, 102, 103, 104, 105, 106, 107, 108, 109, 110, 111, 112, 113, 114, 115, 116, 117, 118, 119, 120, 121, 122, 123, 124, 125, 126, 127, 128, 129, 130, 131, 132, 133, 134, 135, 136, 137, 138, 139, 140, 141, 142, 143, 144, 145] (by decide +kernel) (by decide +kernel)
set_option maxRecDepth 20000 in
theorem gX8_verify_X8_rule : GoodIn wsX8_verify (wsV RX8 287 RX8 yX8_rule wsX8_rule) := goodIn_app (goodIn_of _ (by decide +kernel)) ggX8_verify_X8_rule
theorem dX8_verify_0 : decode cX8_verify 0 = .ok (.aload_n 0, 1) := by decide +kernel
theorem dX8_verify_1 : decode cX8_verify 1 = .ok (.iconst 0, 1) := by decide +kernel
theorem dX8_verify_2 : decode cX8_verify 2 = .ok (.putfield 192, 3) := by decide +kernel
theorem dX8_verify_5 : decode cX8_verify 5 = .ok (.aload_n 0, 1) := by decide +kernel
theorem dX8_verify_6 : decode cX8_verify 6 = .ok (.iload_n 1, 1) := by decide +kernel
theorem dX8_verify_7 : decode cX8_verify 7 = .ok (.lload_n 2, 1) := by decide +kernel
theorem dX8_verify_8 : decode cX8_verify 8 = .ok (.invokevirtual 287, 3) := by decide +kernel
theorem dX8_verify_11 : decode cX8_verify 11 = .ok (.istore 4, 2) := by decide +kernel
theorem dX8_verify_13 : decode cX8_verify 13 = .ok (.iload 4, 2) := by decide +kernel
theorem dX8_verify_15 : decode cX8_verify 15 = .ok (.ifCond .ne 7, 3) := by decide +kernel
theorem dX8_verify_18 : decode cX8_verify 18 = .ok (.iconst 1, 1) := by decide +kernel
theorem dX8_verify_19 : decode cX8_verify 19 = .ok (.goto 6, 3) := by decide +kernel
theorem dX8_verify_22 : decode cX8_verify 22 = .ok (.iload 4, 2) := by decide +kernel
theorem dX8_verify_24 : decode cX8_verify 24 = .ok (.ineg, 1) := by decide +kernel
theorem dX8_verify_25 : decode cX8_verify 25 = .ok (.ireturn, 1) := by decide +kernel
set_option maxRecDepth 20000 in
theorem ggX8_update_X8_rule : GoodIn wsX8_update wsX8_rule := goodIn_r _ [8, 3, 2, 9, 10, 11, 12, 7, 13, 14, 15, 16, 17, 18, 19, 20, 21, 22, 23, 24, 25, 26, 27, 28, 29, 30, 31, 32, 33, 34, 35, 36, 37, 38, 39, 40, 41, 42, 43, 44, 45, 46, 47, 48, 49, 50, 51, 52, 53, 54, 55, 56, 57, 58, 59, 60, 61, 62, 63, 64, 65, 66, 67, 68, 69, 70, 71, 72, 73, 74, 75, 76, 77, 78, 79, 80, 81, 82, 83, 84, 85, 86, 87, 88, 89, 90, 91, 92, 93, 94, 95, 96, 97, 98, 99, 100, 101, 102, 103, 104, 105, 106, 107, 108, 109, 110, 111, 112, 113, 114, 115, 116, 117, 118, 119, 120, 121, 122, 123, 124, 125, 126, 127, 128, 129, 130, 131, 132, 133, 134, 135, 136, 137, 138, 139, 140, 141, 142, 143, 144, 145] (by decide +kernel) (by decide +kernel)
set_option maxRecDepth 20000 in
theorem gX8_update_X8_rule : GoodIn wsX8_update (wsV RX8 287 RX8 yX8_rule wsX8_rule) := goodIn_app (goodIn_of _ (by decide +kernel)) ggX8_update_X8_rule
theorem dX8_update_0 : decode cX8_update 0 = .ok (.aload_n 0, 1) := by decide +kernel
theorem dX8_update_1 : decode cX8_update 1 = .ok (.iconst 0, 1) := by decide +kernel
theorem dX8_update_2 : decode cX8_update 2 = .ok (.putfield 192, 3) := by decide +kernel
theorem dX8_update_5 : decode cX8_update 5 = .ok (.aload_n 0, 1) := by decide +kernel
theorem dX8_update_6 : decode cX8_update 6 = .ok (.iload_n 1, 1) := by decide +kernel
theorem dX8_update_7 : decode cX8_update 7 = .ok (.lload_n 2, 1) := by decide +kernel
theorem dX8_update_8 : decode cX8_update 8 = .ok (.invokevirtual 287, 3) := by decide +kernel
theorem dX8_update_11 : decode cX8_update 11 = .ok (.istore 4, 2) := by decide +kernel
theorem dX8_update_13 : decode cX8_update 13 = .ok (.iload 4, 2) := by decide +kernel
theorem dX8_update_15 : decode cX8_update 15 = .ok (.ifCond .le 7, 3) := by decide +kernel
theorem dX8_update_18 : decode cX8_update 18 = .ok (.iload 4, 2) := by decide +kernel
theorem dX8_update_20 : decode cX8_update 20 = .ok (.ineg, 1) := by decide +kernel
theorem dX8_update_21 : decode cX8_update 21 = .ok (.ireturn, 1) := by decide +kernel
theorem dX8_update_22 : decode cX8_update 22 = .ok (.aload_n 0, 1) := by decide +kernel
theorem dX8_update_23 : decode cX8_update 23 = .ok (.getfield 84, 3) := by decide +kernel
theorem dX8_update_26 : decode cX8_update 26 = .ok (.aload_n 0, 1) := by decide +kernel
theorem dX8_update_27 : decode cX8_update 27 = .ok (.getfield 33, 3) := by decide +kernel
theorem dX8_update_30 : decode cX8_update 30 = .ok (.iload_n 1, 1) := by decide +kernel
theorem dX8_update_31 : decode cX8_update 31 = .ok (.iaload, 1) := by decide +kernel
theorem dX8_update_32 : decode cX8_update 32 = .ok (.iload_n 1, 1) := by decide +kernel
theorem dX8_update_33 : decode cX8_update 33 = .ok (.iastore, 1) := by decide +kernel
theorem dX8_update_34 : decode cX8_update 34 = .ok (.iconst 1, 1) := by decide +kernel
theorem dX8_update_35 : decode cX8_update 35 = .ok (.ireturn, 1) := by decide +kernel
set_option maxRecDepth 20000 in
theorem ggX8_revoke_X8_isKey : GoodIn wsX8_revoke wsX8_isKey := goodIn_r _ [7, 8, 9, 10, 11, 12, 13, 14, 15, 16, 17, 18, 19, 20, 21, 22, 23, 24, 25, 26, 27, 28, 29, 30, 31, 32, 33, 34, 35, 36, 37, 38, 39, 40, 41, 42, 43, 44, 45, 46, 47, 48, 49] (by decide +kernel) (by decide +kernel)
set_option maxRecDepth 20000 in
theorem gX8_revoke_X8_isKey : GoodIn wsX8_revoke (wsV RX8 247 RX8 yX8_isKey wsX8_isKey) := goodIn_app (goodIn_of _ (by decide +kernel)) ggX8_revoke_X8_isKey
theorem dX8_revoke_0 : decode cX8_revoke 0 = .ok (.aload_n 0, 1) := by decide +kernel
theorem dX8_revoke_1 : decode cX8_revoke 1 = .ok (.iconst 0, 1) := by decide +kernel
theorem dX8_revoke_2 : decode cX8_revoke 2 = .ok (.putfield 192, 3) := by decide +kernel
theorem dX8_revoke_5 : decode cX8_revoke 5 = .ok (.aload_n 0, 1) := by decide +kernel
theorem dX8_revoke_6 : decode cX8_revoke 6 = .ok (.iload_n 1, 1) := by decide +kernel
theorem dX8_revoke_7 : decode cX8_revoke 7 = .ok (.invokevirtual 247, 3) := by decide +kernel
theorem dX8_revoke_10 : decode cX8_revoke 10 = .ok (.ifCond .eq 12, 3) := by decide +kernel
theorem dX8_revoke_13 : decode cX8_revoke 13 = .ok (.aload_n 0, 1) := by decide +kernel
theorem dX8_revoke_14 : decode cX8_revoke 14 = .ok (.getfield 16, 3) := by decide +kernel
theorem dX8_revoke_17 : decode cX8_revoke 17 = .ok (.iload_n 1, 1) := by decide +kernel
theorem dX8_revoke_18 : decode cX8_revoke 18 = .ok (.baload, 1) := by decide +kernel
theorem dX8_revoke_19 : decode cX8_revoke 19 = .ok (.ifCond .eq 5, 3) := by decide +kernel
theorem dX8_revoke_22 : decode cX8_revoke 22 = .ok (.iconst 0, 1) := by decide +kernel
theorem dX8_revoke_23 : decode cX8_revoke 23 = .ok (.ireturn, 1) := by decide +kernel
theorem dX8_revoke_24 : decode cX8_revoke 24 = .ok (.aload_n 0, 1) := by decide +kernel
theorem dX8_revoke_25 : decode cX8_revoke 25 = .ok (.getfield 16, 3) := by decide +kernel
theorem dX8_revoke_28 : decode cX8_revoke 28 = .ok (.iload_n 1, 1) := by decide +kernel
theorem dX8_revoke_29 : decode cX8_revoke 29 = .ok (.iconst 1, 1) := by decide +kernel
theorem dX8_revoke_30 : decode cX8_revoke 30 = .ok (.bastore, 1) := by decide +kernel
theorem dX8_revoke_31 : decode cX8_revoke 31 = .ok (.iconst 1, 1) := by decide +kernel
theorem dX8_revoke_32 : decode cX8_revoke 32 = .ok (.ireturn, 1) := by decide +kernel
set_option maxRecDepth 20000 in
theorem ggX8_fits_X8_partsOf : GoodIn wsX8_fits wsX8_partsOf := goodIn_r _ [4, 5] (by decide +kernel) (by decide +kernel)
set_option maxRecDepth 20000 in
theorem gX8_fits_X8_partsOf : GoodIn wsX8_fits (va_wsS RX8 258 yX8_partsOf wsX8_partsOf) := goodIn_app (goodIn_of _ (by decide +kernel)) ggX8_fits_X8_partsOf
theorem dX8_fits_0 : decode cX8_fits 0 = .ok (.iload_n 0, 1) := by decide +kernel
theorem dX8_fits_1 : decode cX8_fits 1 = .ok (.bipush 15, 2) := by decide +kernel
theorem dX8_fits_3 : decode cX8_fits 3 = .ok (.invokestatic 258, 3) := by decide +kernel
theorem dX8_fits_6 : decode cX8_fits 6 = .ok (.istore_n 2, 1) := by decide +kernel
theorem dX8_fits_7 : decode cX8_fits 7 = .ok (.iload_n 1, 1) := by decide +kernel
theorem dX8_fits_8 : decode cX8_fits 8 = .ok (.bipush 14, 2) := by decide +kernel
theorem dX8_fits_10 : decode cX8_fits 10 = .ok (.invokestatic 258, 3) := by decide +kernel
theorem dX8_fits_13 : decode cX8_fits 13 = .ok (.istore_n 3, 1) := by decide +kernel
theorem dX8_fits_14 : decode cX8_fits 14 = .ok (.iload_n 2, 1) := by decide +kernel
theorem dX8_fits_15 : decode cX8_fits 15 = .ok (.iload_n 3, 1) := by decide +kernel
theorem dX8_fits_16 : decode cX8_fits 16 = .ok (.if_icmp .le 5, 3) := by decide +kernel
theorem dX8_fits_19 : decode cX8_fits 19 = .ok (.iconst 0, 1) := by decide +kernel
theorem dX8_fits_20 : decode cX8_fits 20 = .ok (.ireturn, 1) := by decide +kernel
theorem dX8_fits_21 : decode cX8_fits 21 = .ok (.iconst 1, 1) := by decide +kernel
theorem dX8_fits_22 : decode cX8_fits 22 = .ok (.istore 4, 2) := by decide +kernel
theorem dX8_fits_24 : decode cX8_fits 24 = .ok (.iconst 0, 1) := by decide +kernel
theorem dX8_fits_25 : decode cX8_fits 25 = .ok (.istore 5, 2) := by decide +kernel
theorem dX8_fits_27 : decode cX8_fits 27 = .ok (.iload 5, 2) := by decide +kernel
theorem dX8_fits_29 : decode cX8_fits 29 = .ok (.iload_n 2, 1) := by decide +kernel
theorem dX8_fits_30 : decode cX8_fits 30 = .ok (.if_icmp .ge 61, 3) := by decide +kernel
theorem dX8_fits_33 : decode cX8_fits 33 = .ok (.iload_n 0, 1) := by decide +kernel
theorem dX8_fits_34 : decode cX8_fits 34 = .ok (.iconst 4, 1) := by decide +kernel
theorem dX8_fits_35 : decode cX8_fits 35 = .ok (.iload_n 2, 1) := by decide +kernel
theorem dX8_fits_36 : decode cX8_fits 36 = .ok (.iconst 1, 1) := by decide +kernel
theorem dX8_fits_37 : decode cX8_fits 37 = .ok (.isub, 1) := by decide +kernel
theorem dX8_fits_38 : decode cX8_fits 38 = .ok (.iload 5, 2) := by decide +kernel
theorem dX8_fits_40 : decode cX8_fits 40 = .ok (.isub, 1) := by decide +kernel
theorem dX8_fits_41 : decode cX8_fits 41 = .ok (.imul, 1) := by decide +kernel
theorem dX8_fits_42 : decode cX8_fits 42 = .ok (.ishr, 1) := by decide +kernel
theorem dX8_fits_43 : decode cX8_fits 43 = .ok (.bipush 15, 2) := by decide +kernel
theorem dX8_fits_45 : decode cX8_fits 45 = .ok (.iand, 1) := by decide +kernel
theorem dX8_fits_46 : decode cX8_fits 46 = .ok (.istore 6, 2) := by decide +kernel
theorem dX8_fits_48 : decode cX8_fits 48 = .ok (.iload 4, 2) := by decide +kernel
theorem dX8_fits_50 : decode cX8_fits 50 = .ok (.ifCond .eq 32, 3) := by decide +kernel
theorem dX8_fits_53 : decode cX8_fits 53 = .ok (.iload 6, 2) := by decide +kernel
theorem dX8_fits_55 : decode cX8_fits 55 = .ok (.bipush 15, 2) := by decide +kernel
theorem dX8_fits_57 : decode cX8_fits 57 = .ok (.if_icmp .eq 21, 3) := by decide +kernel
theorem dX8_fits_60 : decode cX8_fits 60 = .ok (.iload 6, 2) := by decide +kernel
theorem dX8_fits_62 : decode cX8_fits 62 = .ok (.iload_n 1, 1) := by decide +kernel
theorem dX8_fits_63 : decode cX8_fits 63 = .ok (.iconst 4, 1) := by decide +kernel
theorem dX8_fits_64 : decode cX8_fits 64 = .ok (.iload_n 3, 1) := by decide +kernel
theorem dX8_fits_65 : decode cX8_fits 65 = .ok (.iconst 1, 1) := by decide +kernel
theorem dX8_fits_66 : decode cX8_fits 66 = .ok (.isub, 1) := by decide +kernel
theorem dX8_fits_67 : decode cX8_fits 67 = .ok (.iload 5, 2) := by decide +kernel
theorem dX8_fits_69 : decode cX8_fits 69 = .ok (.isub, 1) := by decide +kernel
theorem dX8_fits_70 : decode cX8_fits 70 = .ok (.imul, 1) := by decide +kernel
theorem dX8_fits_71 : decode cX8_fits 71 = .ok (.ishr, 1) := by decide +kernel
theorem dX8_fits_72 : decode cX8_fits 72 = .ok (.bipush 15, 2) := by decide +kernel
theorem dX8_fits_74 : decode cX8_fits 74 = .ok (.iand, 1) := by decide +kernel
theorem dX8_fits_75 : decode cX8_fits 75 = .ok (.if_icmp .ne 7, 3) := by decide +kernel
theorem dX8_fits_78 : decode cX8_fits 78 = .ok (.iconst 1, 1) := by decide +kernel
theorem dX8_fits_79 : decode cX8_fits 79 = .ok (.goto 4, 3) := by decide +kernel
theorem dX8_fits_82 : decode cX8_fits 82 = .ok (.iconst 0, 1) := by decide +kernel
theorem dX8_fits_83 : decode cX8_fits 83 = .ok (.istore 4, 2) := by decide +kernel
