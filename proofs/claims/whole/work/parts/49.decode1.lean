theorem dX8_delegate_101 : decode cX8_delegate 101 = .ok (.iconst 1, 1) := by decide +kernel
theorem dX8_delegate_102 : decode cX8_delegate 102 = .ok (.iadd, 1) := by decide +kernel
theorem dX8_delegate_103 : decode cX8_delegate 103 = .ok (.iastore, 1) := by decide +kernel
theorem dX8_delegate_104 : decode cX8_delegate 104 = .ok (.aload_n 0, 1) := by decide +kernel
theorem dX8_delegate_105 : decode cX8_delegate 105 = .ok (.getfield 57, 3) := by decide +kernel
theorem dX8_delegate_108 : decode cX8_delegate 108 = .ok (.iload_n 1, 1) := by decide +kernel
theorem dX8_delegate_109 : decode cX8_delegate 109 = .ok (.iaload, 1) := by decide +kernel
theorem dX8_delegate_110 : decode cX8_delegate 110 = .ok (.ireturn, 1) := by decide +kernel
set_option maxRecDepth 20000 in
theorem ggX8_lists_X8_isOpen : GoodIn wsX8_lists wsX8_isOpen := goodIn_r _ [9, 10, 11, 12, 13, 8, 14, 15, 20, 21, 22, 23, 24, 25, 26, 27, 28, 29, 30, 31, 32, 33, 34, 35, 36, 37, 38, 39, 40, 41, 42, 43, 44, 45, 46, 47, 48, 49, 50, 51, 52, 53, 54, 55, 56, 57, 58, 59, 60] (by decide +kernel) (by decide +kernel)
set_option maxRecDepth 20000 in
theorem gX8_lists_X8_isOpen : GoodIn wsX8_lists (wsV RX8 251 RX8 yX8_isOpen wsX8_isOpen) := goodIn_app (goodIn_of _ (by decide +kernel)) ggX8_lists_X8_isOpen
set_option maxRecDepth 20000 in
theorem ggX8_lists_X8_partsOf : GoodIn wsX8_lists wsX8_partsOf := goodIn_r _ [18, 19] (by decide +kernel) (by decide +kernel)
set_option maxRecDepth 20000 in
theorem gX8_lists_X8_partsOf : GoodIn wsX8_lists (va_wsS RX8 258 yX8_partsOf wsX8_partsOf) := goodIn_app (goodIn_of _ (by decide +kernel)) ggX8_lists_X8_partsOf
theorem dX8_lists_0 : decode cX8_lists 0 = .ok (.aload_n 0, 1) := by decide +kernel
theorem dX8_lists_1 : decode cX8_lists 1 = .ok (.iconst 0, 1) := by decide +kernel
theorem dX8_lists_2 : decode cX8_lists 2 = .ok (.putfield 192, 3) := by decide +kernel
theorem dX8_lists_5 : decode cX8_lists 5 = .ok (.aload_n 0, 1) := by decide +kernel
theorem dX8_lists_6 : decode cX8_lists 6 = .ok (.iload_n 1, 1) := by decide +kernel
theorem dX8_lists_7 : decode cX8_lists 7 = .ok (.invokevirtual 251, 3) := by decide +kernel
theorem dX8_lists_10 : decode cX8_lists 10 = .ok (.ifCond .eq 33, 3) := by decide +kernel
theorem dX8_lists_13 : decode cX8_lists 13 = .ok (.aload_n 0, 1) := by decide +kernel
theorem dX8_lists_14 : decode cX8_lists 14 = .ok (.getfield 33, 3) := by decide +kernel
theorem dX8_lists_17 : decode cX8_lists 17 = .ok (.iload_n 1, 1) := by decide +kernel
theorem dX8_lists_18 : decode cX8_lists 18 = .ok (.iaload, 1) := by decide +kernel
theorem dX8_lists_19 : decode cX8_lists 19 = .ok (.iconst 3, 1) := by decide +kernel
theorem dX8_lists_20 : decode cX8_lists 20 = .ok (.if_icmp .lt 23, 3) := by decide +kernel
theorem dX8_lists_23 : decode cX8_lists 23 = .ok (.iload_n 2, 1) := by decide +kernel
theorem dX8_lists_24 : decode cX8_lists 24 = .ok (.bipush 14, 2) := by decide +kernel
theorem dX8_lists_26 : decode cX8_lists 26 = .ok (.invokestatic 258, 3) := by decide +kernel
theorem dX8_lists_29 : decode cX8_lists 29 = .ok (.ifCond .eq 14, 3) := by decide +kernel
theorem dX8_lists_32 : decode cX8_lists 32 = .ok (.aload_n 0, 1) := by decide +kernel
theorem dX8_lists_33 : decode cX8_lists 33 = .ok (.getfield 69, 3) := by decide +kernel
theorem dX8_lists_36 : decode cX8_lists 36 = .ok (.iload_n 1, 1) := by decide +kernel
theorem dX8_lists_37 : decode cX8_lists 37 = .ok (.iaload, 1) := by decide +kernel
theorem dX8_lists_38 : decode cX8_lists 38 = .ok (.bipush 6, 2) := by decide +kernel
theorem dX8_lists_40 : decode cX8_lists 40 = .ok (.if_icmp .ne 5, 3) := by decide +kernel
theorem dX8_lists_43 : decode cX8_lists 43 = .ok (.iconst (-1), 1) := by decide +kernel
theorem dX8_lists_44 : decode cX8_lists 44 = .ok (.ireturn, 1) := by decide +kernel
theorem dX8_lists_45 : decode cX8_lists 45 = .ok (.aload_n 0, 1) := by decide +kernel
theorem dX8_lists_46 : decode cX8_lists 46 = .ok (.getfield 72, 3) := by decide +kernel
theorem dX8_lists_49 : decode cX8_lists 49 = .ok (.bipush 6, 2) := by decide +kernel
theorem dX8_lists_51 : decode cX8_lists 51 = .ok (.iload_n 1, 1) := by decide +kernel
theorem dX8_lists_52 : decode cX8_lists 52 = .ok (.imul, 1) := by decide +kernel
theorem dX8_lists_53 : decode cX8_lists 53 = .ok (.aload_n 0, 1) := by decide +kernel
theorem dX8_lists_54 : decode cX8_lists 54 = .ok (.getfield 69, 3) := by decide +kernel
theorem dX8_lists_57 : decode cX8_lists 57 = .ok (.iload_n 1, 1) := by decide +kernel
theorem dX8_lists_58 : decode cX8_lists 58 = .ok (.iaload, 1) := by decide +kernel
theorem dX8_lists_59 : decode cX8_lists 59 = .ok (.iadd, 1) := by decide +kernel
theorem dX8_lists_60 : decode cX8_lists 60 = .ok (.iload_n 2, 1) := by decide +kernel
theorem dX8_lists_61 : decode cX8_lists 61 = .ok (.iastore, 1) := by decide +kernel
theorem dX8_lists_62 : decode cX8_lists 62 = .ok (.aload_n 0, 1) := by decide +kernel
theorem dX8_lists_63 : decode cX8_lists 63 = .ok (.getfield 69, 3) := by decide +kernel
theorem dX8_lists_66 : decode cX8_lists 66 = .ok (.iload_n 1, 1) := by decide +kernel
theorem dX8_lists_67 : decode cX8_lists 67 = .ok (.dup2, 1) := by decide +kernel
theorem dX8_lists_68 : decode cX8_lists 68 = .ok (.iaload, 1) := by decide +kernel
theorem dX8_lists_69 : decode cX8_lists 69 = .ok (.iconst 1, 1) := by decide +kernel
theorem dX8_lists_70 : decode cX8_lists 70 = .ok (.iadd, 1) := by decide +kernel
theorem dX8_lists_71 : decode cX8_lists 71 = .ok (.iastore, 1) := by decide +kernel
theorem dX8_lists_72 : decode cX8_lists 72 = .ok (.aload_n 0, 1) := by decide +kernel
theorem dX8_lists_73 : decode cX8_lists 73 = .ok (.getfield 69, 3) := by decide +kernel
theorem dX8_lists_76 : decode cX8_lists 76 = .ok (.iload_n 1, 1) := by decide +kernel
theorem dX8_lists_77 : decode cX8_lists 77 = .ok (.iaload, 1) := by decide +kernel
theorem dX8_lists_78 : decode cX8_lists 78 = .ok (.ireturn, 1) := by decide +kernel
theorem dX8_addSignature_0 : decode cX8_addSignature 0 = .ok (.aload_n 0, 1) := by decide +kernel
theorem dX8_addSignature_1 : decode cX8_addSignature 1 = .ok (.getfield 78, 3) := by decide +kernel
theorem dX8_addSignature_4 : decode cX8_addSignature 4 = .ok (.bipush 12, 2) := by decide +kernel
theorem dX8_addSignature_6 : decode cX8_addSignature 6 = .ok (.iload_n 1, 1) := by decide +kernel
theorem dX8_addSignature_7 : decode cX8_addSignature 7 = .ok (.imul, 1) := by decide +kernel
theorem dX8_addSignature_8 : decode cX8_addSignature 8 = .ok (.aload_n 0, 1) := by decide +kernel
theorem dX8_addSignature_9 : decode cX8_addSignature 9 = .ok (.getfield 75, 3) := by decide +kernel
theorem dX8_addSignature_12 : decode cX8_addSignature 12 = .ok (.iload_n 1, 1) := by decide +kernel
theorem dX8_addSignature_13 : decode cX8_addSignature 13 = .ok (.iaload, 1) := by decide +kernel
theorem dX8_addSignature_14 : decode cX8_addSignature 14 = .ok (.iadd, 1) := by decide +kernel
theorem dX8_addSignature_15 : decode cX8_addSignature 15 = .ok (.iload_n 2, 1) := by decide +kernel
theorem dX8_addSignature_16 : decode cX8_addSignature 16 = .ok (.iastore, 1) := by decide +kernel
theorem dX8_addSignature_17 : decode cX8_addSignature 17 = .ok (.aload_n 0, 1) := by decide +kernel
theorem dX8_addSignature_18 : decode cX8_addSignature 18 = .ok (.getfield 81, 3) := by decide +kernel
theorem dX8_addSignature_21 : decode cX8_addSignature 21 = .ok (.bipush 12, 2) := by decide +kernel
theorem dX8_addSignature_23 : decode cX8_addSignature 23 = .ok (.iload_n 1, 1) := by decide +kernel
theorem dX8_addSignature_24 : decode cX8_addSignature 24 = .ok (.imul, 1) := by decide +kernel
theorem dX8_addSignature_25 : decode cX8_addSignature 25 = .ok (.aload_n 0, 1) := by decide +kernel
theorem dX8_addSignature_26 : decode cX8_addSignature 26 = .ok (.getfield 75, 3) := by decide +kernel
theorem dX8_addSignature_29 : decode cX8_addSignature 29 = .ok (.iload_n 1, 1) := by decide +kernel
theorem dX8_addSignature_30 : decode cX8_addSignature 30 = .ok (.iaload, 1) := by decide +kernel
theorem dX8_addSignature_31 : decode cX8_addSignature 31 = .ok (.iadd, 1) := by decide +kernel
theorem dX8_addSignature_32 : decode cX8_addSignature 32 = .ok (.lload_n 3, 1) := by decide +kernel
theorem dX8_addSignature_33 : decode cX8_addSignature 33 = .ok (.lastore, 1) := by decide +kernel
theorem dX8_addSignature_34 : decode cX8_addSignature 34 = .ok (.aload_n 0, 1) := by decide +kernel
theorem dX8_addSignature_35 : decode cX8_addSignature 35 = .ok (.getfield 75, 3) := by decide +kernel
theorem dX8_addSignature_38 : decode cX8_addSignature 38 = .ok (.iload_n 1, 1) := by decide +kernel
theorem dX8_addSignature_39 : decode cX8_addSignature 39 = .ok (.dup2, 1) := by decide +kernel
theorem dX8_addSignature_40 : decode cX8_addSignature 40 = .ok (.iaload, 1) := by decide +kernel
theorem dX8_addSignature_41 : decode cX8_addSignature 41 = .ok (.iconst 1, 1) := by decide +kernel
theorem dX8_addSignature_42 : decode cX8_addSignature 42 = .ok (.iadd, 1) := by decide +kernel
theorem dX8_addSignature_43 : decode cX8_addSignature 43 = .ok (.iastore, 1) := by decide +kernel
theorem dX8_addSignature_44 : decode cX8_addSignature 44 = .ok (.return_, 1) := by decide +kernel
set_option maxRecDepth 20000 in
theorem ggX8_sign_X8_isRow : GoodIn wsX8_sign wsX8_isRow := goodIn_r _ [7, 8, 79, 80, 81, 82, 83, 84, 85, 86, 87, 88, 89, 90, 91, 92, 93, 94, 95, 96, 97, 98, 99, 100, 101, 102, 103, 104, 105, 106, 107, 108, 109, 110, 111, 112, 113, 114, 115, 116, 117, 118, 119] (by decide +kernel) (by decide +kernel)
set_option maxRecDepth 20000 in
theorem gX8_sign_X8_isRow : GoodIn wsX8_sign (wsV RX8 202 RX8 yX8_isRow wsX8_isRow) := goodIn_app (goodIn_of _ (by decide +kernel)) ggX8_sign_X8_isRow
set_option maxRecDepth 20000 in
theorem ggX8_sign_X8_isKey : GoodIn wsX8_sign wsX8_isKey := goodIn_r _ [12, 13, 79, 80, 81, 82, 83, 84, 85, 86, 87, 88, 89, 90, 91, 92, 93, 94, 95, 96, 97, 98, 99, 100, 101, 102, 103, 104, 105, 106, 107, 108, 109, 110, 111, 112, 113, 114, 115, 116, 117, 118, 119] (by decide +kernel) (by decide +kernel)
set_option maxRecDepth 20000 in
theorem gX8_sign_X8_isKey : GoodIn wsX8_sign (wsV RX8 247 RX8 yX8_isKey wsX8_isKey) := goodIn_app (goodIn_of _ (by decide +kernel)) ggX8_sign_X8_isKey
set_option maxRecDepth 20000 in
theorem ggX8_sign_X8_rightOne : GoodIn wsX8_sign wsX8_rightOne := goodIn_r _ [17, 18, 19, 20, 21, 22, 23, 6, 24, 25, 26, 27, 28, 29, 30, 31, 32, 33, 34, 35, 36, 37, 38, 39, 40, 41, 42, 43, 44, 45, 46, 47, 48, 49, 50, 51, 52, 53, 54, 55, 56, 57, 58, 59, 60, 61, 62, 63, 64, 65, 66, 67, 68, 69, 70, 71, 72, 79, 80, 81, 82, 83, 84, 85, 86, 87, 88, 89, 90, 91, 92, 93, 94, 95, 96, 97, 98, 99, 100, 101, 102, 103, 104, 105, 106, 107, 108, 109, 110, 111, 112, 113, 114, 115, 116, 117, 118, 119] (by decide +kernel) (by decide +kernel)
set_option maxRecDepth 20000 in
theorem gX8_sign_X8_rightOne : GoodIn wsX8_sign (wsV RX8 240 RX8 yX8_rightOne wsX8_rightOne) := goodIn_app (goodIn_of _ (by decide +kernel)) ggX8_sign_X8_rightOne
set_option maxRecDepth 20000 in
theorem ggX8_sign_X8_addSignature : GoodIn wsX8_sign wsX8_addSignature := goodIn_r _ [76, 77, 2, 78, 79, 80, 81, 82, 83, 84, 85, 86, 87, 88, 89, 90, 91, 92, 93, 94, 95, 96, 97, 98, 99, 100, 101, 102, 103, 104, 105, 106, 107, 108, 109, 110, 111, 112, 113, 114, 115, 116, 117, 118, 119] (by decide +kernel) (by decide +kernel)
set_option maxRecDepth 20000 in
theorem gX8_sign_X8_addSignature : GoodIn wsX8_sign (wsV RX8 261 RX8 yX8_addSignature wsX8_addSignature) := goodIn_app (goodIn_of _ (by decide +kernel)) ggX8_sign_X8_addSignature
theorem dX8_sign_0 : decode cX8_sign 0 = .ok (.aload_n 0, 1) := by decide +kernel
theorem dX8_sign_1 : decode cX8_sign 1 = .ok (.iconst 0, 1) := by decide +kernel
theorem dX8_sign_2 : decode cX8_sign 2 = .ok (.putfield 192, 3) := by decide +kernel
theorem dX8_sign_5 : decode cX8_sign 5 = .ok (.aload_n 0, 1) := by decide +kernel
theorem dX8_sign_6 : decode cX8_sign 6 = .ok (.iload_n 1, 1) := by decide +kernel
theorem dX8_sign_7 : decode cX8_sign 7 = .ok (.invokevirtual 202, 3) := by decide +kernel
theorem dX8_sign_10 : decode cX8_sign 10 = .ok (.ifCond .eq 22, 3) := by decide +kernel
theorem dX8_sign_13 : decode cX8_sign 13 = .ok (.aload_n 0, 1) := by decide +kernel
theorem dX8_sign_14 : decode cX8_sign 14 = .ok (.iload_n 2, 1) := by decide +kernel
theorem dX8_sign_15 : decode cX8_sign 15 = .ok (.invokevirtual 247, 3) := by decide +kernel
theorem dX8_sign_18 : decode cX8_sign 18 = .ok (.ifCond .eq 14, 3) := by decide +kernel
theorem dX8_sign_21 : decode cX8_sign 21 = .ok (.aload_n 0, 1) := by decide +kernel
theorem dX8_sign_22 : decode cX8_sign 22 = .ok (.getfield 75, 3) := by decide +kernel
theorem dX8_sign_25 : decode cX8_sign 25 = .ok (.iload_n 1, 1) := by decide +kernel
theorem dX8_sign_26 : decode cX8_sign 26 = .ok (.iaload, 1) := by decide +kernel
theorem dX8_sign_27 : decode cX8_sign 27 = .ok (.bipush 12, 2) := by decide +kernel
theorem dX8_sign_29 : decode cX8_sign 29 = .ok (.if_icmp .ne 5, 3) := by decide +kernel
theorem dX8_sign_32 : decode cX8_sign 32 = .ok (.lconst 0, 1) := by decide +kernel
theorem dX8_sign_33 : decode cX8_sign 33 = .ok (.lreturn, 1) := by decide +kernel
theorem dX8_sign_34 : decode cX8_sign 34 = .ok (.aload_n 0, 1) := by decide +kernel
theorem dX8_sign_35 : decode cX8_sign 35 = .ok (.iload_n 1, 1) := by decide +kernel
theorem dX8_sign_36 : decode cX8_sign 36 = .ok (.iload_n 2, 1) := by decide +kernel
theorem dX8_sign_37 : decode cX8_sign 37 = .ok (.invokevirtual 240, 3) := by decide +kernel
theorem dX8_sign_40 : decode cX8_sign 40 = .ok (.lstore_n 3, 1) := by decide +kernel
theorem dX8_sign_41 : decode cX8_sign 41 = .ok (.aload_n 0, 1) := by decide +kernel
theorem dX8_sign_42 : decode cX8_sign 42 = .ok (.iload_n 1, 1) := by decide +kernel
theorem dX8_sign_43 : decode cX8_sign 43 = .ok (.iload_n 2, 1) := by decide +kernel
theorem dX8_sign_44 : decode cX8_sign 44 = .ok (.lload_n 3, 1) := by decide +kernel
theorem dX8_sign_45 : decode cX8_sign 45 = .ok (.invokevirtual 261, 3) := by decide +kernel
theorem dX8_sign_48 : decode cX8_sign 48 = .ok (.lload_n 3, 1) := by decide +kernel
theorem dX8_sign_49 : decode cX8_sign 49 = .ok (.lreturn, 1) := by decide +kernel
set_option maxRecDepth 20000 in
theorem ggX8_forge_X8_isRow : GoodIn wsX8_forge wsX8_isRow := goodIn_r _ [7, 8, 20, 21, 22, 23, 24, 25, 26, 27, 28, 29, 30, 31, 32, 33, 34, 35, 36, 37, 38, 39, 40, 41, 42, 43, 44, 45, 46, 47, 48, 49, 50, 51, 52, 53, 54, 55, 56, 57, 58, 59, 60] (by decide +kernel) (by decide +kernel)
set_option maxRecDepth 20000 in
theorem gX8_forge_X8_isRow : GoodIn wsX8_forge (wsV RX8 202 RX8 yX8_isRow wsX8_isRow) := goodIn_app (goodIn_of _ (by decide +kernel)) ggX8_forge_X8_isRow
set_option maxRecDepth 20000 in
theorem ggX8_forge_X8_isKey : GoodIn wsX8_forge wsX8_isKey := goodIn_r _ [12, 13, 20, 21, 22, 23, 24, 25, 26, 27, 28, 29, 30, 31, 32, 33, 34, 35, 36, 37, 38, 39, 40, 41, 42, 43, 44, 45, 46, 47, 48, 49, 50, 51, 52, 53, 54, 55, 56, 57, 58, 59, 60] (by decide +kernel) (by decide +kernel)
set_option maxRecDepth 20000 in
theorem gX8_forge_X8_isKey : GoodIn wsX8_forge (wsV RX8 247 RX8 yX8_isKey wsX8_isKey) := goodIn_app (goodIn_of _ (by decide +kernel)) ggX8_forge_X8_isKey
set_option maxRecDepth 20000 in
theorem ggX8_forge_X8_addSignature : GoodIn wsX8_forge wsX8_addSignature := goodIn_r _ [17, 18, 2, 19, 20, 21, 22, 23, 24, 25, 26, 27, 28, 29, 30, 31, 32, 33, 34, 35, 36, 37, 38, 39, 40, 41, 42, 43, 44, 45, 46, 47, 48, 49, 50, 51, 52, 53, 54, 55, 56, 57, 58, 59, 60] (by decide +kernel) (by decide +kernel)
set_option maxRecDepth 20000 in
theorem gX8_forge_X8_addSignature : GoodIn wsX8_forge (wsV RX8 261 RX8 yX8_addSignature wsX8_addSignature) := goodIn_app (goodIn_of _ (by decide +kernel)) ggX8_forge_X8_addSignature
theorem dX8_forge_0 : decode cX8_forge 0 = .ok (.aload_n 0, 1) := by decide +kernel
theorem dX8_forge_1 : decode cX8_forge 1 = .ok (.iconst 0, 1) := by decide +kernel
