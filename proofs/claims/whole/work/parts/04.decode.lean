theorem dX5_begin_1 : decode cX5_begin 1 = .ok (.iconst 0, 1) := by decide +kernel
theorem dX5_begin_2 : decode cX5_begin 2 = .ok (.putfield 22, 3) := by decide +kernel
theorem dX5_begin_5 : decode cX5_begin 5 = .ok (.return_, 1) := by decide +kernel
theorem dX5_length_0 : decode cX5_length 0 = .ok (.aload_n 0, 1) := by decide +kernel
theorem dX5_length_1 : decode cX5_length 1 = .ok (.getfield 22, 3) := by decide +kernel
theorem dX5_length_4 : decode cX5_length 4 = .ok (.ireturn, 1) := by decide +kernel
theorem dX5_putByte_0 : decode cX5_putByte 0 = .ok (.aload_n 0, 1) := by decide +kernel
theorem dX5_putByte_1 : decode cX5_putByte 1 = .ok (.getfield 22, 3) := by decide +kernel
theorem dX5_putByte_4 : decode cX5_putByte 4 = .ok (.bipush 119, 2) := by decide +kernel
theorem dX5_putByte_6 : decode cX5_putByte 6 = .ok (.if_icmp .ge 24, 3) := by decide +kernel
theorem dX5_putByte_9 : decode cX5_putByte 9 = .ok (.aload_n 0, 1) := by decide +kernel
theorem dX5_putByte_10 : decode cX5_putByte 10 = .ok (.getfield 11, 3) := by decide +kernel
theorem dX5_putByte_13 : decode cX5_putByte 13 = .ok (.aload_n 0, 1) := by decide +kernel
theorem dX5_putByte_14 : decode cX5_putByte 14 = .ok (.getfield 22, 3) := by decide +kernel
theorem dX5_putByte_17 : decode cX5_putByte 17 = .ok (.iload_n 1, 1) := by decide +kernel
theorem dX5_putByte_18 : decode cX5_putByte 18 = .ok (.i2b, 1) := by decide +kernel
theorem dX5_putByte_19 : decode cX5_putByte 19 = .ok (.bastore, 1) := by decide +kernel
theorem dX5_putByte_20 : decode cX5_putByte 20 = .ok (.aload_n 0, 1) := by decide +kernel
theorem dX5_putByte_21 : decode cX5_putByte 21 = .ok (.dup, 1) := by decide +kernel
theorem dX5_putByte_22 : decode cX5_putByte 22 = .ok (.getfield 22, 3) := by decide +kernel
theorem dX5_putByte_25 : decode cX5_putByte 25 = .ok (.iconst 1, 1) := by decide +kernel
theorem dX5_putByte_26 : decode cX5_putByte 26 = .ok (.iadd, 1) := by decide +kernel
theorem dX5_putByte_27 : decode cX5_putByte 27 = .ok (.putfield 22, 3) := by decide +kernel
theorem dX5_putByte_30 : decode cX5_putByte 30 = .ok (.return_, 1) := by decide +kernel
set_option maxRecDepth 20000 in
theorem ggX5_putInt_X5_putByte : GoodIn wsX5_putInt wsX5_putByte := goodIn_r _ [5, 6, 7, 8, 9, 10, 11] (by decide +kernel) (by decide +kernel)
set_option maxRecDepth 20000 in
theorem gX5_putInt_X5_putByte : GoodIn wsX5_putInt (wsV RX5 26 RX5 yX5_putByte wsX5_putByte) := goodIn_app (goodIn_of _ (by decide +kernel)) ggX5_putInt_X5_putByte
theorem dX5_putInt_0 : decode cX5_putInt 0 = .ok (.bipush 24, 2) := by decide +kernel
theorem dX5_putInt_2 : decode cX5_putInt 2 = .ok (.istore_n 2, 1) := by decide +kernel
theorem dX5_putInt_3 : decode cX5_putInt 3 = .ok (.iload_n 2, 1) := by decide +kernel
theorem dX5_putInt_4 : decode cX5_putInt 4 = .ok (.ifCond .lt 16, 3) := by decide +kernel
theorem dX5_putInt_7 : decode cX5_putInt 7 = .ok (.aload_n 0, 1) := by decide +kernel
theorem dX5_putInt_8 : decode cX5_putInt 8 = .ok (.iload_n 1, 1) := by decide +kernel
theorem dX5_putInt_9 : decode cX5_putInt 9 = .ok (.iload_n 2, 1) := by decide +kernel
theorem dX5_putInt_10 : decode cX5_putInt 10 = .ok (.iushr, 1) := by decide +kernel
theorem dX5_putInt_11 : decode cX5_putInt 11 = .ok (.invokevirtual 26, 3) := by decide +kernel
theorem dX5_putInt_14 : decode cX5_putInt 14 = .ok (.iinc 2 (-8), 3) := by decide +kernel
theorem dX5_putInt_17 : decode cX5_putInt 17 = .ok (.goto (-14), 3) := by decide +kernel
theorem dX5_putInt_20 : decode cX5_putInt 20 = .ok (.return_, 1) := by decide +kernel
set_option maxRecDepth 20000 in
theorem ggX5_putLong_X5_putInt : GoodIn wsX5_putLong wsX5_putInt := goodIn_r _ [5, 6, 7, 8, 4, 9, 10, 11, 12, 13, 14, 15] (by decide +kernel) (by decide +kernel)
set_option maxRecDepth 20000 in
theorem gX5_putLong_X5_putInt : GoodIn wsX5_putLong (wsV RX5 30 RX5 yX5_putInt wsX5_putInt) := goodIn_app (goodIn_of _ (by decide +kernel)) ggX5_putLong_X5_putInt
theorem dX5_putLong_0 : decode cX5_putLong 0 = .ok (.aload_n 0, 1) := by decide +kernel
theorem dX5_putLong_1 : decode cX5_putLong 1 = .ok (.lload_n 1, 1) := by decide +kernel
theorem dX5_putLong_2 : decode cX5_putLong 2 = .ok (.bipush 32, 2) := by decide +kernel
theorem dX5_putLong_4 : decode cX5_putLong 4 = .ok (.lushr, 1) := by decide +kernel
theorem dX5_putLong_5 : decode cX5_putLong 5 = .ok (.l2i, 1) := by decide +kernel
theorem dX5_putLong_6 : decode cX5_putLong 6 = .ok (.invokevirtual 30, 3) := by decide +kernel
theorem dX5_putLong_9 : decode cX5_putLong 9 = .ok (.aload_n 0, 1) := by decide +kernel
theorem dX5_putLong_10 : decode cX5_putLong 10 = .ok (.lload_n 1, 1) := by decide +kernel
theorem dX5_putLong_11 : decode cX5_putLong 11 = .ok (.l2i, 1) := by decide +kernel
theorem dX5_putLong_12 : decode cX5_putLong 12 = .ok (.invokevirtual 30, 3) := by decide +kernel
theorem dX5_putLong_15 : decode cX5_putLong 15 = .ok (.return_, 1) := by decide +kernel
set_option maxRecDepth 20000 in
theorem ggX5_finish_X5_closeMessage : GoodIn wsX5_finish wsX5_closeMessage := goodIn_r _ [12, 13, 1, 28, 29, 30, 31] (by decide +kernel) (by decide +kernel)
set_option maxRecDepth 20000 in
theorem gX5_finish_X5_closeMessage : GoodIn wsX5_finish (wsV RX5 33 RX5 yX5_closeMessage wsX5_closeMessage) := goodIn_app (goodIn_of _ (by decide +kernel)) ggX5_finish_X5_closeMessage
set_option maxRecDepth 20000 in
theorem ggX5_finish_X5_fillSchedule : GoodIn wsX5_finish wsX5_fillSchedule := goodIn_r _ [17, 18, 13, 19, 20, 21, 22, 28, 29, 30, 31] (by decide +kernel) (by decide +kernel)
set_option maxRecDepth 20000 in
theorem gX5_finish_X5_fillSchedule : GoodIn wsX5_finish (wsV RX5 45 RX5 yX5_fillSchedule wsX5_fillSchedule) := goodIn_app (goodIn_of _ (by decide +kernel)) ggX5_finish_X5_fillSchedule
set_option maxRecDepth 20000 in
theorem ggX5_finish_X5_mixBlock : GoodIn wsX5_finish wsX5_mixBlock := goodIn_r _ [26, 3, 27, 18, 19, 20, 21, 22, 28, 29, 30, 31] (by decide +kernel) (by decide +kernel)
set_option maxRecDepth 20000 in
theorem gX5_finish_X5_mixBlock : GoodIn wsX5_finish (wsV RX5 48 RX5 yX5_mixBlock wsX5_mixBlock) := goodIn_app (goodIn_of _ (by decide +kernel)) ggX5_finish_X5_mixBlock
theorem dX5_finish_0 : decode cX5_finish 0 = .ok (.aload_n 0, 1) := by decide +kernel
theorem dX5_finish_1 : decode cX5_finish 1 = .ok (.getfield 22, 3) := by decide +kernel
theorem dX5_finish_4 : decode cX5_finish 4 = .ok (.bipush 9, 2) := by decide +kernel
theorem dX5_finish_6 : decode cX5_finish 6 = .ok (.iadd, 1) := by decide +kernel
theorem dX5_finish_7 : decode cX5_finish 7 = .ok (.bipush 64, 2) := by decide +kernel
theorem dX5_finish_9 : decode cX5_finish 9 = .ok (.if_icmp .gt 8, 3) := by decide +kernel
theorem dX5_finish_12 : decode cX5_finish 12 = .ok (.bipush 64, 2) := by decide +kernel
theorem dX5_finish_14 : decode cX5_finish 14 = .ok (.goto 6, 3) := by decide +kernel
theorem dX5_finish_17 : decode cX5_finish 17 = .ok (.sipush 128, 3) := by decide +kernel
theorem dX5_finish_20 : decode cX5_finish 20 = .ok (.istore_n 1, 1) := by decide +kernel
theorem dX5_finish_21 : decode cX5_finish 21 = .ok (.aload_n 0, 1) := by decide +kernel
theorem dX5_finish_22 : decode cX5_finish 22 = .ok (.iload_n 1, 1) := by decide +kernel
theorem dX5_finish_23 : decode cX5_finish 23 = .ok (.invokevirtual 33, 3) := by decide +kernel
theorem dX5_finish_26 : decode cX5_finish 26 = .ok (.getstatic 36, 3) := by decide +kernel
theorem dX5_finish_29 : decode cX5_finish 29 = .ok (.iconst 0, 1) := by decide +kernel
theorem dX5_finish_30 : decode cX5_finish 30 = .ok (.aload_n 0, 1) := by decide +kernel
theorem dX5_finish_31 : decode cX5_finish 31 = .ok (.getfield 19, 3) := by decide +kernel
theorem dX5_finish_34 : decode cX5_finish 34 = .ok (.iconst 0, 1) := by decide +kernel
theorem dX5_finish_35 : decode cX5_finish 35 = .ok (.bipush 8, 2) := by decide +kernel
theorem dX5_finish_37 : decode cX5_finish 37 = .ok (.invokestatic 39, 3) := by decide +kernel
theorem dX5_finish_40 : decode cX5_finish 40 = .ok (.iconst 0, 1) := by decide +kernel
theorem dX5_finish_41 : decode cX5_finish 41 = .ok (.istore_n 2, 1) := by decide +kernel
theorem dX5_finish_42 : decode cX5_finish 42 = .ok (.iload_n 2, 1) := by decide +kernel
theorem dX5_finish_43 : decode cX5_finish 43 = .ok (.iload_n 1, 1) := by decide +kernel
theorem dX5_finish_44 : decode cX5_finish 44 = .ok (.if_icmp .ge 18, 3) := by decide +kernel
theorem dX5_finish_47 : decode cX5_finish 47 = .ok (.aload_n 0, 1) := by decide +kernel
theorem dX5_finish_48 : decode cX5_finish 48 = .ok (.iload_n 2, 1) := by decide +kernel
theorem dX5_finish_49 : decode cX5_finish 49 = .ok (.invokevirtual 45, 3) := by decide +kernel
theorem dX5_finish_52 : decode cX5_finish 52 = .ok (.aload_n 0, 1) := by decide +kernel
theorem dX5_finish_53 : decode cX5_finish 53 = .ok (.invokevirtual 48, 3) := by decide +kernel
theorem dX5_finish_56 : decode cX5_finish 56 = .ok (.iinc 2 64, 3) := by decide +kernel
theorem dX5_finish_59 : decode cX5_finish 59 = .ok (.goto (-17), 3) := by decide +kernel
theorem dX5_finish_62 : decode cX5_finish 62 = .ok (.return_, 1) := by decide +kernel
theorem dX5_copyWords_0 : decode cX5_copyWords 0 = .ok (.aload_n 1, 1) := by decide +kernel
theorem dX5_copyWords_1 : decode cX5_copyWords 1 = .ok (.ifnull 22, 3) := by decide +kernel
theorem dX5_copyWords_4 : decode cX5_copyWords 4 = .ok (.aload_n 1, 1) := by decide +kernel
theorem dX5_copyWords_5 : decode cX5_copyWords 5 = .ok (.arraylength, 1) := by decide +kernel
theorem dX5_copyWords_6 : decode cX5_copyWords 6 = .ok (.bipush 8, 2) := by decide +kernel
theorem dX5_copyWords_8 : decode cX5_copyWords 8 = .ok (.if_icmp .lt 15, 3) := by decide +kernel
theorem dX5_copyWords_11 : decode cX5_copyWords 11 = .ok (.aload_n 0, 1) := by decide +kernel
theorem dX5_copyWords_12 : decode cX5_copyWords 12 = .ok (.getfield 19, 3) := by decide +kernel
theorem dX5_copyWords_15 : decode cX5_copyWords 15 = .ok (.iconst 0, 1) := by decide +kernel
theorem dX5_copyWords_16 : decode cX5_copyWords 16 = .ok (.aload_n 1, 1) := by decide +kernel
theorem dX5_copyWords_17 : decode cX5_copyWords 17 = .ok (.iconst 0, 1) := by decide +kernel
theorem dX5_copyWords_18 : decode cX5_copyWords 18 = .ok (.bipush 8, 2) := by decide +kernel
theorem dX5_copyWords_20 : decode cX5_copyWords 20 = .ok (.invokestatic 39, 3) := by decide +kernel
theorem dX5_copyWords_23 : decode cX5_copyWords 23 = .ok (.return_, 1) := by decide +kernel
theorem dX5_firstEightBytes_0 : decode cX5_firstEightBytes 0 = .ok (.aload_n 0, 1) := by decide +kernel
theorem dX5_firstEightBytes_1 : decode cX5_firstEightBytes 1 = .ok (.getfield 19, 3) := by decide +kernel
theorem dX5_firstEightBytes_4 : decode cX5_firstEightBytes 4 = .ok (.iconst 0, 1) := by decide +kernel
theorem dX5_firstEightBytes_5 : decode cX5_firstEightBytes 5 = .ok (.iaload, 1) := by decide +kernel
theorem dX5_firstEightBytes_6 : decode cX5_firstEightBytes 6 = .ok (.i2l, 1) := by decide +kernel
theorem dX5_firstEightBytes_7 : decode cX5_firstEightBytes 7 = .ok (.bipush 32, 2) := by decide +kernel
theorem dX5_firstEightBytes_9 : decode cX5_firstEightBytes 9 = .ok (.lshl, 1) := by decide +kernel
theorem dX5_firstEightBytes_10 : decode cX5_firstEightBytes 10 = .ok (.aload_n 0, 1) := by decide +kernel
theorem dX5_firstEightBytes_11 : decode cX5_firstEightBytes 11 = .ok (.getfield 19, 3) := by decide +kernel
theorem dX5_firstEightBytes_14 : decode cX5_firstEightBytes 14 = .ok (.iconst 1, 1) := by decide +kernel
theorem dX5_firstEightBytes_15 : decode cX5_firstEightBytes 15 = .ok (.iaload, 1) := by decide +kernel
theorem dX5_firstEightBytes_16 : decode cX5_firstEightBytes 16 = .ok (.i2l, 1) := by decide +kernel
theorem dX5_firstEightBytes_17 : decode cX5_firstEightBytes 17 = .ok (.ldc2_w 51, 3) := by decide +kernel
theorem dX5_firstEightBytes_20 : decode cX5_firstEightBytes 20 = .ok (.land, 1) := by decide +kernel
theorem dX5_firstEightBytes_21 : decode cX5_firstEightBytes 21 = .ok (.lor, 1) := by decide +kernel
theorem dX5_firstEightBytes_22 : decode cX5_firstEightBytes 22 = .ok (.lreturn, 1) := by decide +kernel
theorem dX5_closeMessage_0 : decode cX5_closeMessage 0 = .ok (.aload_n 0, 1) := by decide +kernel
theorem dX5_closeMessage_1 : decode cX5_closeMessage 1 = .ok (.getfield 11, 3) := by decide +kernel
theorem dX5_closeMessage_4 : decode cX5_closeMessage 4 = .ok (.aload_n 0, 1) := by decide +kernel
theorem dX5_closeMessage_5 : decode cX5_closeMessage 5 = .ok (.getfield 22, 3) := by decide +kernel
theorem dX5_closeMessage_8 : decode cX5_closeMessage 8 = .ok (.bipush (-128), 2) := by decide +kernel
theorem dX5_closeMessage_10 : decode cX5_closeMessage 10 = .ok (.bastore, 1) := by decide +kernel
theorem dX5_closeMessage_11 : decode cX5_closeMessage 11 = .ok (.aload_n 0, 1) := by decide +kernel
theorem dX5_closeMessage_12 : decode cX5_closeMessage 12 = .ok (.getfield 22, 3) := by decide +kernel
theorem dX5_closeMessage_15 : decode cX5_closeMessage 15 = .ok (.iconst 1, 1) := by decide +kernel
theorem dX5_closeMessage_16 : decode cX5_closeMessage 16 = .ok (.iadd, 1) := by decide +kernel
theorem dX5_closeMessage_17 : decode cX5_closeMessage 17 = .ok (.istore_n 2, 1) := by decide +kernel
theorem dX5_closeMessage_18 : decode cX5_closeMessage 18 = .ok (.iload_n 2, 1) := by decide +kernel
theorem dX5_closeMessage_19 : decode cX5_closeMessage 19 = .ok (.iload_n 1, 1) := by decide +kernel
theorem dX5_closeMessage_20 : decode cX5_closeMessage 20 = .ok (.if_icmp .ge 16, 3) := by decide +kernel
theorem dX5_closeMessage_23 : decode cX5_closeMessage 23 = .ok (.aload_n 0, 1) := by decide +kernel
theorem dX5_closeMessage_24 : decode cX5_closeMessage 24 = .ok (.getfield 11, 3) := by decide +kernel
theorem dX5_closeMessage_27 : decode cX5_closeMessage 27 = .ok (.iload_n 2, 1) := by decide +kernel
theorem dX5_closeMessage_28 : decode cX5_closeMessage 28 = .ok (.iconst 0, 1) := by decide +kernel
theorem dX5_closeMessage_29 : decode cX5_closeMessage 29 = .ok (.bastore, 1) := by decide +kernel
theorem dX5_closeMessage_30 : decode cX5_closeMessage 30 = .ok (.iinc 2 1, 3) := by decide +kernel
theorem dX5_closeMessage_33 : decode cX5_closeMessage 33 = .ok (.goto (-15), 3) := by decide +kernel
theorem dX5_closeMessage_36 : decode cX5_closeMessage 36 = .ok (.aload_n 0, 1) := by decide +kernel
theorem dX5_closeMessage_37 : decode cX5_closeMessage 37 = .ok (.getfield 22, 3) := by decide +kernel
theorem dX5_closeMessage_40 : decode cX5_closeMessage 40 = .ok (.bipush 8, 2) := by decide +kernel
theorem dX5_closeMessage_42 : decode cX5_closeMessage 42 = .ok (.imul, 1) := by decide +kernel
theorem dX5_closeMessage_43 : decode cX5_closeMessage 43 = .ok (.istore_n 2, 1) := by decide +kernel
theorem dX5_closeMessage_44 : decode cX5_closeMessage 44 = .ok (.aload_n 0, 1) := by decide +kernel
theorem dX5_closeMessage_45 : decode cX5_closeMessage 45 = .ok (.getfield 11, 3) := by decide +kernel
theorem dX5_closeMessage_48 : decode cX5_closeMessage 48 = .ok (.iload_n 1, 1) := by decide +kernel
theorem dX5_closeMessage_49 : decode cX5_closeMessage 49 = .ok (.iconst 2, 1) := by decide +kernel
theorem dX5_closeMessage_50 : decode cX5_closeMessage 50 = .ok (.isub, 1) := by decide +kernel
theorem dX5_closeMessage_51 : decode cX5_closeMessage 51 = .ok (.iload_n 2, 1) := by decide +kernel
theorem dX5_closeMessage_52 : decode cX5_closeMessage 52 = .ok (.bipush 8, 2) := by decide +kernel
theorem dX5_closeMessage_54 : decode cX5_closeMessage 54 = .ok (.iushr, 1) := by decide +kernel
theorem dX5_closeMessage_55 : decode cX5_closeMessage 55 = .ok (.i2b, 1) := by decide +kernel
theorem dX5_closeMessage_56 : decode cX5_closeMessage 56 = .ok (.bastore, 1) := by decide +kernel
theorem dX5_closeMessage_57 : decode cX5_closeMessage 57 = .ok (.aload_n 0, 1) := by decide +kernel
theorem dX5_closeMessage_58 : decode cX5_closeMessage 58 = .ok (.getfield 11, 3) := by decide +kernel
theorem dX5_closeMessage_61 : decode cX5_closeMessage 61 = .ok (.iload_n 1, 1) := by decide +kernel
theorem dX5_closeMessage_62 : decode cX5_closeMessage 62 = .ok (.iconst 1, 1) := by decide +kernel
theorem dX5_closeMessage_63 : decode cX5_closeMessage 63 = .ok (.isub, 1) := by decide +kernel
theorem dX5_closeMessage_64 : decode cX5_closeMessage 64 = .ok (.iload_n 2, 1) := by decide +kernel
theorem dX5_closeMessage_65 : decode cX5_closeMessage 65 = .ok (.i2b, 1) := by decide +kernel
theorem dX5_closeMessage_66 : decode cX5_closeMessage 66 = .ok (.bastore, 1) := by decide +kernel
theorem dX5_closeMessage_67 : decode cX5_closeMessage 67 = .ok (.return_, 1) := by decide +kernel
set_option maxRecDepth 20000 in
theorem ggX5_fillSchedule_J6_rotateRight_7cf53 : GoodIn wsX5_fillSchedule wsJ6_rotateRight_7cf53 := goodIn_r _ [6] (by decide +kernel) (by decide +kernel)
set_option maxRecDepth 20000 in
theorem gX5_fillSchedule_J6_rotateRight_7cf53 : GoodIn wsX5_fillSchedule (va_wsS RX5 53 yJ6_rotateRight_7cf53 wsJ6_rotateRight_7cf53) := goodIn_app (goodIn_of _ (by decide +kernel)) ggX5_fillSchedule_J6_rotateRight_7cf53
theorem dX5_fillSchedule_0 : decode cX5_fillSchedule 0 = .ok (.iconst 0, 1) := by decide +kernel
theorem dX5_fillSchedule_1 : decode cX5_fillSchedule 1 = .ok (.istore_n 2, 1) := by decide +kernel
theorem dX5_fillSchedule_2 : decode cX5_fillSchedule 2 = .ok (.iload_n 2, 1) := by decide +kernel
theorem dX5_fillSchedule_3 : decode cX5_fillSchedule 3 = .ok (.bipush 16, 2) := by decide +kernel
theorem dX5_fillSchedule_5 : decode cX5_fillSchedule 5 = .ok (.if_icmp .ge 79, 3) := by decide +kernel
theorem dX5_fillSchedule_8 : decode cX5_fillSchedule 8 = .ok (.iload_n 1, 1) := by decide +kernel
theorem dX5_fillSchedule_9 : decode cX5_fillSchedule 9 = .ok (.iconst 4, 1) := by decide +kernel
theorem dX5_fillSchedule_10 : decode cX5_fillSchedule 10 = .ok (.iload_n 2, 1) := by decide +kernel
theorem dX5_fillSchedule_11 : decode cX5_fillSchedule 11 = .ok (.imul, 1) := by decide +kernel
theorem dX5_fillSchedule_12 : decode cX5_fillSchedule 12 = .ok (.iadd, 1) := by decide +kernel
theorem dX5_fillSchedule_13 : decode cX5_fillSchedule 13 = .ok (.istore_n 3, 1) := by decide +kernel
theorem dX5_fillSchedule_14 : decode cX5_fillSchedule 14 = .ok (.aload_n 0, 1) := by decide +kernel
theorem dX5_fillSchedule_15 : decode cX5_fillSchedule 15 = .ok (.getfield 15, 3) := by decide +kernel
theorem dX5_fillSchedule_18 : decode cX5_fillSchedule 18 = .ok (.iload_n 2, 1) := by decide +kernel
theorem dX5_fillSchedule_19 : decode cX5_fillSchedule 19 = .ok (.aload_n 0, 1) := by decide +kernel
theorem dX5_fillSchedule_20 : decode cX5_fillSchedule 20 = .ok (.getfield 11, 3) := by decide +kernel
theorem dX5_fillSchedule_23 : decode cX5_fillSchedule 23 = .ok (.iload_n 3, 1) := by decide +kernel
theorem dX5_fillSchedule_24 : decode cX5_fillSchedule 24 = .ok (.baload, 1) := by decide +kernel
theorem dX5_fillSchedule_25 : decode cX5_fillSchedule 25 = .ok (.sipush 255, 3) := by decide +kernel
theorem dX5_fillSchedule_28 : decode cX5_fillSchedule 28 = .ok (.iand, 1) := by decide +kernel
theorem dX5_fillSchedule_29 : decode cX5_fillSchedule 29 = .ok (.bipush 24, 2) := by decide +kernel
theorem dX5_fillSchedule_31 : decode cX5_fillSchedule 31 = .ok (.ishl, 1) := by decide +kernel
theorem dX5_fillSchedule_32 : decode cX5_fillSchedule 32 = .ok (.aload_n 0, 1) := by decide +kernel
theorem dX5_fillSchedule_33 : decode cX5_fillSchedule 33 = .ok (.getfield 11, 3) := by decide +kernel
theorem dX5_fillSchedule_36 : decode cX5_fillSchedule 36 = .ok (.iload_n 3, 1) := by decide +kernel
theorem dX5_fillSchedule_37 : decode cX5_fillSchedule 37 = .ok (.iconst 1, 1) := by decide +kernel
theorem dX5_fillSchedule_38 : decode cX5_fillSchedule 38 = .ok (.iadd, 1) := by decide +kernel
theorem dX5_fillSchedule_39 : decode cX5_fillSchedule 39 = .ok (.baload, 1) := by decide +kernel
theorem dX5_fillSchedule_40 : decode cX5_fillSchedule 40 = .ok (.sipush 255, 3) := by decide +kernel
theorem dX5_fillSchedule_43 : decode cX5_fillSchedule 43 = .ok (.iand, 1) := by decide +kernel
theorem dX5_fillSchedule_44 : decode cX5_fillSchedule 44 = .ok (.bipush 16, 2) := by decide +kernel
theorem dX5_fillSchedule_46 : decode cX5_fillSchedule 46 = .ok (.ishl, 1) := by decide +kernel
theorem dX5_fillSchedule_47 : decode cX5_fillSchedule 47 = .ok (.ior, 1) := by decide +kernel
theorem dX5_fillSchedule_48 : decode cX5_fillSchedule 48 = .ok (.aload_n 0, 1) := by decide +kernel
theorem dX5_fillSchedule_49 : decode cX5_fillSchedule 49 = .ok (.getfield 11, 3) := by decide +kernel
theorem dX5_fillSchedule_52 : decode cX5_fillSchedule 52 = .ok (.iload_n 3, 1) := by decide +kernel
theorem dX5_fillSchedule_53 : decode cX5_fillSchedule 53 = .ok (.iconst 2, 1) := by decide +kernel
theorem dX5_fillSchedule_54 : decode cX5_fillSchedule 54 = .ok (.iadd, 1) := by decide +kernel
theorem dX5_fillSchedule_55 : decode cX5_fillSchedule 55 = .ok (.baload, 1) := by decide +kernel
theorem dX5_fillSchedule_56 : decode cX5_fillSchedule 56 = .ok (.sipush 255, 3) := by decide +kernel
theorem dX5_fillSchedule_59 : decode cX5_fillSchedule 59 = .ok (.iand, 1) := by decide +kernel
theorem dX5_fillSchedule_60 : decode cX5_fillSchedule 60 = .ok (.bipush 8, 2) := by decide +kernel
theorem dX5_fillSchedule_62 : decode cX5_fillSchedule 62 = .ok (.ishl, 1) := by decide +kernel
theorem dX5_fillSchedule_63 : decode cX5_fillSchedule 63 = .ok (.ior, 1) := by decide +kernel
theorem dX5_fillSchedule_64 : decode cX5_fillSchedule 64 = .ok (.aload_n 0, 1) := by decide +kernel
theorem dX5_fillSchedule_65 : decode cX5_fillSchedule 65 = .ok (.getfield 11, 3) := by decide +kernel
theorem dX5_fillSchedule_68 : decode cX5_fillSchedule 68 = .ok (.iload_n 3, 1) := by decide +kernel
theorem dX5_fillSchedule_69 : decode cX5_fillSchedule 69 = .ok (.iconst 3, 1) := by decide +kernel
theorem dX5_fillSchedule_70 : decode cX5_fillSchedule 70 = .ok (.iadd, 1) := by decide +kernel
theorem dX5_fillSchedule_71 : decode cX5_fillSchedule 71 = .ok (.baload, 1) := by decide +kernel
theorem dX5_fillSchedule_72 : decode cX5_fillSchedule 72 = .ok (.sipush 255, 3) := by decide +kernel
theorem dX5_fillSchedule_75 : decode cX5_fillSchedule 75 = .ok (.iand, 1) := by decide +kernel
theorem dX5_fillSchedule_76 : decode cX5_fillSchedule 76 = .ok (.ior, 1) := by decide +kernel
theorem dX5_fillSchedule_77 : decode cX5_fillSchedule 77 = .ok (.iastore, 1) := by decide +kernel
theorem dX5_fillSchedule_78 : decode cX5_fillSchedule 78 = .ok (.iinc 2 1, 3) := by decide +kernel
theorem dX5_fillSchedule_81 : decode cX5_fillSchedule 81 = .ok (.goto (-79), 3) := by decide +kernel
theorem dX5_fillSchedule_84 : decode cX5_fillSchedule 84 = .ok (.bipush 16, 2) := by decide +kernel
theorem dX5_fillSchedule_86 : decode cX5_fillSchedule 86 = .ok (.istore_n 2, 1) := by decide +kernel
theorem dX5_fillSchedule_87 : decode cX5_fillSchedule 87 = .ok (.iload_n 2, 1) := by decide +kernel
theorem dX5_fillSchedule_88 : decode cX5_fillSchedule 88 = .ok (.bipush 64, 2) := by decide +kernel
theorem dX5_fillSchedule_90 : decode cX5_fillSchedule 90 = .ok (.if_icmp .ge 102, 3) := by decide +kernel
theorem dX5_fillSchedule_93 : decode cX5_fillSchedule 93 = .ok (.aload_n 0, 1) := by decide +kernel
theorem dX5_fillSchedule_94 : decode cX5_fillSchedule 94 = .ok (.getfield 15, 3) := by decide +kernel
theorem dX5_fillSchedule_97 : decode cX5_fillSchedule 97 = .ok (.iload_n 2, 1) := by decide +kernel
theorem dX5_fillSchedule_98 : decode cX5_fillSchedule 98 = .ok (.bipush 15, 2) := by decide +kernel
theorem dX5_fillSchedule_100 : decode cX5_fillSchedule 100 = .ok (.isub, 1) := by decide +kernel
theorem dX5_fillSchedule_101 : decode cX5_fillSchedule 101 = .ok (.iaload, 1) := by decide +kernel
theorem dX5_fillSchedule_102 : decode cX5_fillSchedule 102 = .ok (.istore_n 3, 1) := by decide +kernel
theorem dX5_fillSchedule_103 : decode cX5_fillSchedule 103 = .ok (.aload_n 0, 1) := by decide +kernel
theorem dX5_fillSchedule_104 : decode cX5_fillSchedule 104 = .ok (.getfield 15, 3) := by decide +kernel
theorem dX5_fillSchedule_107 : decode cX5_fillSchedule 107 = .ok (.iload_n 2, 1) := by decide +kernel
theorem dX5_fillSchedule_108 : decode cX5_fillSchedule 108 = .ok (.iconst 2, 1) := by decide +kernel
theorem dX5_fillSchedule_109 : decode cX5_fillSchedule 109 = .ok (.isub, 1) := by decide +kernel
theorem dX5_fillSchedule_110 : decode cX5_fillSchedule 110 = .ok (.iaload, 1) := by decide +kernel
theorem dX5_fillSchedule_111 : decode cX5_fillSchedule 111 = .ok (.istore 4, 2) := by decide +kernel
theorem dX5_fillSchedule_113 : decode cX5_fillSchedule 113 = .ok (.iload_n 3, 1) := by decide +kernel
theorem dX5_fillSchedule_114 : decode cX5_fillSchedule 114 = .ok (.bipush 7, 2) := by decide +kernel
theorem dX5_fillSchedule_116 : decode cX5_fillSchedule 116 = .ok (.invokestatic 53, 3) := by decide +kernel
theorem dX5_fillSchedule_119 : decode cX5_fillSchedule 119 = .ok (.iload_n 3, 1) := by decide +kernel
theorem dX5_fillSchedule_120 : decode cX5_fillSchedule 120 = .ok (.bipush 18, 2) := by decide +kernel
theorem dX5_fillSchedule_122 : decode cX5_fillSchedule 122 = .ok (.invokestatic 53, 3) := by decide +kernel
theorem dX5_fillSchedule_125 : decode cX5_fillSchedule 125 = .ok (.ixor, 1) := by decide +kernel
theorem dX5_fillSchedule_126 : decode cX5_fillSchedule 126 = .ok (.iload_n 3, 1) := by decide +kernel
theorem dX5_fillSchedule_127 : decode cX5_fillSchedule 127 = .ok (.iconst 3, 1) := by decide +kernel
theorem dX5_fillSchedule_128 : decode cX5_fillSchedule 128 = .ok (.iushr, 1) := by decide +kernel
theorem dX5_fillSchedule_129 : decode cX5_fillSchedule 129 = .ok (.ixor, 1) := by decide +kernel
theorem dX5_fillSchedule_130 : decode cX5_fillSchedule 130 = .ok (.istore 5, 2) := by decide +kernel
theorem dX5_fillSchedule_132 : decode cX5_fillSchedule 132 = .ok (.iload 4, 2) := by decide +kernel
theorem dX5_fillSchedule_134 : decode cX5_fillSchedule 134 = .ok (.bipush 17, 2) := by decide +kernel
theorem dX5_fillSchedule_136 : decode cX5_fillSchedule 136 = .ok (.invokestatic 53, 3) := by decide +kernel
theorem dX5_fillSchedule_139 : decode cX5_fillSchedule 139 = .ok (.iload 4, 2) := by decide +kernel
theorem dX5_fillSchedule_141 : decode cX5_fillSchedule 141 = .ok (.bipush 19, 2) := by decide +kernel
theorem dX5_fillSchedule_143 : decode cX5_fillSchedule 143 = .ok (.invokestatic 53, 3) := by decide +kernel
theorem dX5_fillSchedule_146 : decode cX5_fillSchedule 146 = .ok (.ixor, 1) := by decide +kernel
theorem dX5_fillSchedule_147 : decode cX5_fillSchedule 147 = .ok (.iload 4, 2) := by decide +kernel
theorem dX5_fillSchedule_149 : decode cX5_fillSchedule 149 = .ok (.bipush 10, 2) := by decide +kernel
theorem dX5_fillSchedule_151 : decode cX5_fillSchedule 151 = .ok (.iushr, 1) := by decide +kernel
theorem dX5_fillSchedule_152 : decode cX5_fillSchedule 152 = .ok (.ixor, 1) := by decide +kernel
theorem dX5_fillSchedule_153 : decode cX5_fillSchedule 153 = .ok (.istore 6, 2) := by decide +kernel
theorem dX5_fillSchedule_155 : decode cX5_fillSchedule 155 = .ok (.aload_n 0, 1) := by decide +kernel
theorem dX5_fillSchedule_156 : decode cX5_fillSchedule 156 = .ok (.getfield 15, 3) := by decide +kernel
theorem dX5_fillSchedule_159 : decode cX5_fillSchedule 159 = .ok (.iload_n 2, 1) := by decide +kernel
theorem dX5_fillSchedule_160 : decode cX5_fillSchedule 160 = .ok (.aload_n 0, 1) := by decide +kernel
theorem dX5_fillSchedule_161 : decode cX5_fillSchedule 161 = .ok (.getfield 15, 3) := by decide +kernel
theorem dX5_fillSchedule_164 : decode cX5_fillSchedule 164 = .ok (.iload_n 2, 1) := by decide +kernel
theorem dX5_fillSchedule_165 : decode cX5_fillSchedule 165 = .ok (.bipush 16, 2) := by decide +kernel
theorem dX5_fillSchedule_167 : decode cX5_fillSchedule 167 = .ok (.isub, 1) := by decide +kernel
theorem dX5_fillSchedule_168 : decode cX5_fillSchedule 168 = .ok (.iaload, 1) := by decide +kernel
theorem dX5_fillSchedule_169 : decode cX5_fillSchedule 169 = .ok (.iload 5, 2) := by decide +kernel
theorem dX5_fillSchedule_171 : decode cX5_fillSchedule 171 = .ok (.iadd, 1) := by decide +kernel
theorem dX5_fillSchedule_172 : decode cX5_fillSchedule 172 = .ok (.aload_n 0, 1) := by decide +kernel
theorem dX5_fillSchedule_173 : decode cX5_fillSchedule 173 = .ok (.getfield 15, 3) := by decide +kernel
theorem dX5_fillSchedule_176 : decode cX5_fillSchedule 176 = .ok (.iload_n 2, 1) := by decide +kernel
theorem dX5_fillSchedule_177 : decode cX5_fillSchedule 177 = .ok (.bipush 7, 2) := by decide +kernel
theorem dX5_fillSchedule_179 : decode cX5_fillSchedule 179 = .ok (.isub, 1) := by decide +kernel
theorem dX5_fillSchedule_180 : decode cX5_fillSchedule 180 = .ok (.iaload, 1) := by decide +kernel
theorem dX5_fillSchedule_181 : decode cX5_fillSchedule 181 = .ok (.iadd, 1) := by decide +kernel
theorem dX5_fillSchedule_182 : decode cX5_fillSchedule 182 = .ok (.iload 6, 2) := by decide +kernel
theorem dX5_fillSchedule_184 : decode cX5_fillSchedule 184 = .ok (.iadd, 1) := by decide +kernel
theorem dX5_fillSchedule_185 : decode cX5_fillSchedule 185 = .ok (.iastore, 1) := by decide +kernel
theorem dX5_fillSchedule_186 : decode cX5_fillSchedule 186 = .ok (.iinc 2 1, 3) := by decide +kernel
theorem dX5_fillSchedule_189 : decode cX5_fillSchedule 189 = .ok (.goto (-102), 3) := by decide +kernel
theorem dX5_fillSchedule_192 : decode cX5_fillSchedule 192 = .ok (.return_, 1) := by decide +kernel
set_option maxRecDepth 20000 in
theorem ggX5_mixBlock_J6_rotateRight_7cf53 : GoodIn wsX5_mixBlock wsJ6_rotateRight_7cf53 := goodIn_r _ [7] (by decide +kernel) (by decide +kernel)
set_option maxRecDepth 20000 in
theorem gX5_mixBlock_J6_rotateRight_7cf53 : GoodIn wsX5_mixBlock (va_wsS RX5 53 yJ6_rotateRight_7cf53 wsJ6_rotateRight_7cf53) := goodIn_app (goodIn_of _ (by decide +kernel)) ggX5_mixBlock_J6_rotateRight_7cf53
theorem dX5_mixBlock_0 : decode cX5_mixBlock 0 = .ok (.aload_n 0, 1) := by decide +kernel
theorem dX5_mixBlock_1 : decode cX5_mixBlock 1 = .ok (.getfield 19, 3) := by decide +kernel
theorem dX5_mixBlock_4 : decode cX5_mixBlock 4 = .ok (.iconst 0, 1) := by decide +kernel
theorem dX5_mixBlock_5 : decode cX5_mixBlock 5 = .ok (.iaload, 1) := by decide +kernel
theorem dX5_mixBlock_6 : decode cX5_mixBlock 6 = .ok (.istore_n 1, 1) := by decide +kernel
theorem dX5_mixBlock_7 : decode cX5_mixBlock 7 = .ok (.aload_n 0, 1) := by decide +kernel
theorem dX5_mixBlock_8 : decode cX5_mixBlock 8 = .ok (.getfield 19, 3) := by decide +kernel
theorem dX5_mixBlock_11 : decode cX5_mixBlock 11 = .ok (.iconst 1, 1) := by decide +kernel
theorem dX5_mixBlock_12 : decode cX5_mixBlock 12 = .ok (.iaload, 1) := by decide +kernel
theorem dX5_mixBlock_13 : decode cX5_mixBlock 13 = .ok (.istore_n 2, 1) := by decide +kernel
theorem dX5_mixBlock_14 : decode cX5_mixBlock 14 = .ok (.aload_n 0, 1) := by decide +kernel
theorem dX5_mixBlock_15 : decode cX5_mixBlock 15 = .ok (.getfield 19, 3) := by decide +kernel
theorem dX5_mixBlock_18 : decode cX5_mixBlock 18 = .ok (.iconst 2, 1) := by decide +kernel
theorem dX5_mixBlock_19 : decode cX5_mixBlock 19 = .ok (.iaload, 1) := by decide +kernel
theorem dX5_mixBlock_20 : decode cX5_mixBlock 20 = .ok (.istore_n 3, 1) := by decide +kernel
theorem dX5_mixBlock_21 : decode cX5_mixBlock 21 = .ok (.aload_n 0, 1) := by decide +kernel
theorem dX5_mixBlock_22 : decode cX5_mixBlock 22 = .ok (.getfield 19, 3) := by decide +kernel
theorem dX5_mixBlock_25 : decode cX5_mixBlock 25 = .ok (.iconst 3, 1) := by decide +kernel
theorem dX5_mixBlock_26 : decode cX5_mixBlock 26 = .ok (.iaload, 1) := by decide +kernel
theorem dX5_mixBlock_27 : decode cX5_mixBlock 27 = .ok (.istore 4, 2) := by decide +kernel
theorem dX5_mixBlock_29 : decode cX5_mixBlock 29 = .ok (.aload_n 0, 1) := by decide +kernel
theorem dX5_mixBlock_30 : decode cX5_mixBlock 30 = .ok (.getfield 19, 3) := by decide +kernel
theorem dX5_mixBlock_33 : decode cX5_mixBlock 33 = .ok (.iconst 4, 1) := by decide +kernel
theorem dX5_mixBlock_34 : decode cX5_mixBlock 34 = .ok (.iaload, 1) := by decide +kernel
theorem dX5_mixBlock_35 : decode cX5_mixBlock 35 = .ok (.istore 5, 2) := by decide +kernel
theorem dX5_mixBlock_37 : decode cX5_mixBlock 37 = .ok (.aload_n 0, 1) := by decide +kernel
theorem dX5_mixBlock_38 : decode cX5_mixBlock 38 = .ok (.getfield 19, 3) := by decide +kernel
theorem dX5_mixBlock_41 : decode cX5_mixBlock 41 = .ok (.iconst 5, 1) := by decide +kernel
theorem dX5_mixBlock_42 : decode cX5_mixBlock 42 = .ok (.iaload, 1) := by decide +kernel
theorem dX5_mixBlock_43 : decode cX5_mixBlock 43 = .ok (.istore 6, 2) := by decide +kernel
theorem dX5_mixBlock_45 : decode cX5_mixBlock 45 = .ok (.aload_n 0, 1) := by decide +kernel
theorem dX5_mixBlock_46 : decode cX5_mixBlock 46 = .ok (.getfield 19, 3) := by decide +kernel
theorem dX5_mixBlock_49 : decode cX5_mixBlock 49 = .ok (.bipush 6, 2) := by decide +kernel
theorem dX5_mixBlock_51 : decode cX5_mixBlock 51 = .ok (.iaload, 1) := by decide +kernel
theorem dX5_mixBlock_52 : decode cX5_mixBlock 52 = .ok (.istore 7, 2) := by decide +kernel
theorem dX5_mixBlock_54 : decode cX5_mixBlock 54 = .ok (.aload_n 0, 1) := by decide +kernel
theorem dX5_mixBlock_55 : decode cX5_mixBlock 55 = .ok (.getfield 19, 3) := by decide +kernel
theorem dX5_mixBlock_58 : decode cX5_mixBlock 58 = .ok (.bipush 7, 2) := by decide +kernel
theorem dX5_mixBlock_60 : decode cX5_mixBlock 60 = .ok (.iaload, 1) := by decide +kernel
theorem dX5_mixBlock_61 : decode cX5_mixBlock 61 = .ok (.istore 8, 2) := by decide +kernel
theorem dX5_mixBlock_63 : decode cX5_mixBlock 63 = .ok (.iconst 0, 1) := by decide +kernel
theorem dX5_mixBlock_64 : decode cX5_mixBlock 64 = .ok (.istore 9, 2) := by decide +kernel
theorem dX5_mixBlock_66 : decode cX5_mixBlock 66 = .ok (.iload 9, 2) := by decide +kernel
theorem dX5_mixBlock_68 : decode cX5_mixBlock 68 = .ok (.bipush 64, 2) := by decide +kernel
theorem dX5_mixBlock_70 : decode cX5_mixBlock 70 = .ok (.if_icmp .ge 143, 3) := by decide +kernel
theorem dX5_mixBlock_73 : decode cX5_mixBlock 73 = .ok (.iload 5, 2) := by decide +kernel
theorem dX5_mixBlock_75 : decode cX5_mixBlock 75 = .ok (.bipush 6, 2) := by decide +kernel
theorem dX5_mixBlock_77 : decode cX5_mixBlock 77 = .ok (.invokestatic 53, 3) := by decide +kernel
theorem dX5_mixBlock_80 : decode cX5_mixBlock 80 = .ok (.iload 5, 2) := by decide +kernel
theorem dX5_mixBlock_82 : decode cX5_mixBlock 82 = .ok (.bipush 11, 2) := by decide +kernel
theorem dX5_mixBlock_84 : decode cX5_mixBlock 84 = .ok (.invokestatic 53, 3) := by decide +kernel
theorem dX5_mixBlock_87 : decode cX5_mixBlock 87 = .ok (.ixor, 1) := by decide +kernel
theorem dX5_mixBlock_88 : decode cX5_mixBlock 88 = .ok (.iload 5, 2) := by decide +kernel
theorem dX5_mixBlock_90 : decode cX5_mixBlock 90 = .ok (.bipush 25, 2) := by decide +kernel
theorem dX5_mixBlock_92 : decode cX5_mixBlock 92 = .ok (.invokestatic 53, 3) := by decide +kernel
theorem dX5_mixBlock_95 : decode cX5_mixBlock 95 = .ok (.ixor, 1) := by decide +kernel
theorem dX5_mixBlock_96 : decode cX5_mixBlock 96 = .ok (.istore 10, 2) := by decide +kernel
theorem dX5_mixBlock_98 : decode cX5_mixBlock 98 = .ok (.iload 5, 2) := by decide +kernel
theorem dX5_mixBlock_100 : decode cX5_mixBlock 100 = .ok (.iload 6, 2) := by decide +kernel
theorem dX5_mixBlock_102 : decode cX5_mixBlock 102 = .ok (.iand, 1) := by decide +kernel
theorem dX5_mixBlock_103 : decode cX5_mixBlock 103 = .ok (.iload 5, 2) := by decide +kernel
theorem dX5_mixBlock_105 : decode cX5_mixBlock 105 = .ok (.iconst (-1), 1) := by decide +kernel
theorem dX5_mixBlock_106 : decode cX5_mixBlock 106 = .ok (.ixor, 1) := by decide +kernel
theorem dX5_mixBlock_107 : decode cX5_mixBlock 107 = .ok (.iload 7, 2) := by decide +kernel
theorem dX5_mixBlock_109 : decode cX5_mixBlock 109 = .ok (.iand, 1) := by decide +kernel
theorem dX5_mixBlock_110 : decode cX5_mixBlock 110 = .ok (.ixor, 1) := by decide +kernel
theorem dX5_mixBlock_111 : decode cX5_mixBlock 111 = .ok (.istore 11, 2) := by decide +kernel
theorem dX5_mixBlock_113 : decode cX5_mixBlock 113 = .ok (.iload 8, 2) := by decide +kernel
theorem dX5_mixBlock_115 : decode cX5_mixBlock 115 = .ok (.iload 10, 2) := by decide +kernel
theorem dX5_mixBlock_117 : decode cX5_mixBlock 117 = .ok (.iadd, 1) := by decide +kernel
theorem dX5_mixBlock_118 : decode cX5_mixBlock 118 = .ok (.iload 11, 2) := by decide +kernel
theorem dX5_mixBlock_120 : decode cX5_mixBlock 120 = .ok (.iadd, 1) := by decide +kernel
theorem dX5_mixBlock_121 : decode cX5_mixBlock 121 = .ok (.getstatic 59, 3) := by decide +kernel
theorem dX5_mixBlock_124 : decode cX5_mixBlock 124 = .ok (.iload 9, 2) := by decide +kernel
theorem dX5_mixBlock_126 : decode cX5_mixBlock 126 = .ok (.iaload, 1) := by decide +kernel
theorem dX5_mixBlock_127 : decode cX5_mixBlock 127 = .ok (.iadd, 1) := by decide +kernel
theorem dX5_mixBlock_128 : decode cX5_mixBlock 128 = .ok (.aload_n 0, 1) := by decide +kernel
theorem dX5_mixBlock_129 : decode cX5_mixBlock 129 = .ok (.getfield 15, 3) := by decide +kernel
theorem dX5_mixBlock_132 : decode cX5_mixBlock 132 = .ok (.iload 9, 2) := by decide +kernel
theorem dX5_mixBlock_134 : decode cX5_mixBlock 134 = .ok (.iaload, 1) := by decide +kernel
theorem dX5_mixBlock_135 : decode cX5_mixBlock 135 = .ok (.iadd, 1) := by decide +kernel
theorem dX5_mixBlock_136 : decode cX5_mixBlock 136 = .ok (.istore 12, 2) := by decide +kernel
theorem dX5_mixBlock_138 : decode cX5_mixBlock 138 = .ok (.iload_n 1, 1) := by decide +kernel
theorem dX5_mixBlock_139 : decode cX5_mixBlock 139 = .ok (.iconst 2, 1) := by decide +kernel
theorem dX5_mixBlock_140 : decode cX5_mixBlock 140 = .ok (.invokestatic 53, 3) := by decide +kernel
theorem dX5_mixBlock_143 : decode cX5_mixBlock 143 = .ok (.iload_n 1, 1) := by decide +kernel
theorem dX5_mixBlock_144 : decode cX5_mixBlock 144 = .ok (.bipush 13, 2) := by decide +kernel
theorem dX5_mixBlock_146 : decode cX5_mixBlock 146 = .ok (.invokestatic 53, 3) := by decide +kernel
theorem dX5_mixBlock_149 : decode cX5_mixBlock 149 = .ok (.ixor, 1) := by decide +kernel
theorem dX5_mixBlock_150 : decode cX5_mixBlock 150 = .ok (.iload_n 1, 1) := by decide +kernel
theorem dX5_mixBlock_151 : decode cX5_mixBlock 151 = .ok (.bipush 22, 2) := by decide +kernel
theorem dX5_mixBlock_153 : decode cX5_mixBlock 153 = .ok (.invokestatic 53, 3) := by decide +kernel
theorem dX5_mixBlock_156 : decode cX5_mixBlock 156 = .ok (.ixor, 1) := by decide +kernel
theorem dX5_mixBlock_157 : decode cX5_mixBlock 157 = .ok (.istore 13, 2) := by decide +kernel
theorem dX5_mixBlock_159 : decode cX5_mixBlock 159 = .ok (.iload_n 1, 1) := by decide +kernel
theorem dX5_mixBlock_160 : decode cX5_mixBlock 160 = .ok (.iload_n 2, 1) := by decide +kernel
theorem dX5_mixBlock_161 : decode cX5_mixBlock 161 = .ok (.iand, 1) := by decide +kernel
theorem dX5_mixBlock_162 : decode cX5_mixBlock 162 = .ok (.iload_n 1, 1) := by decide +kernel
theorem dX5_mixBlock_163 : decode cX5_mixBlock 163 = .ok (.iload_n 3, 1) := by decide +kernel
theorem dX5_mixBlock_164 : decode cX5_mixBlock 164 = .ok (.iand, 1) := by decide +kernel
theorem dX5_mixBlock_165 : decode cX5_mixBlock 165 = .ok (.ixor, 1) := by decide +kernel
theorem dX5_mixBlock_166 : decode cX5_mixBlock 166 = .ok (.iload_n 2, 1) := by decide +kernel
theorem dX5_mixBlock_167 : decode cX5_mixBlock 167 = .ok (.iload_n 3, 1) := by decide +kernel
theorem dX5_mixBlock_168 : decode cX5_mixBlock 168 = .ok (.iand, 1) := by decide +kernel
theorem dX5_mixBlock_169 : decode cX5_mixBlock 169 = .ok (.ixor, 1) := by decide +kernel
theorem dX5_mixBlock_170 : decode cX5_mixBlock 170 = .ok (.istore 14, 2) := by decide +kernel
theorem dX5_mixBlock_172 : decode cX5_mixBlock 172 = .ok (.iload 7, 2) := by decide +kernel
theorem dX5_mixBlock_174 : decode cX5_mixBlock 174 = .ok (.istore 8, 2) := by decide +kernel
theorem dX5_mixBlock_176 : decode cX5_mixBlock 176 = .ok (.iload 6, 2) := by decide +kernel
theorem dX5_mixBlock_178 : decode cX5_mixBlock 178 = .ok (.istore 7, 2) := by decide +kernel
theorem dX5_mixBlock_180 : decode cX5_mixBlock 180 = .ok (.iload 5, 2) := by decide +kernel
theorem dX5_mixBlock_182 : decode cX5_mixBlock 182 = .ok (.istore 6, 2) := by decide +kernel
theorem dX5_mixBlock_184 : decode cX5_mixBlock 184 = .ok (.iload 4, 2) := by decide +kernel
theorem dX5_mixBlock_186 : decode cX5_mixBlock 186 = .ok (.iload 12, 2) := by decide +kernel
theorem dX5_mixBlock_188 : decode cX5_mixBlock 188 = .ok (.iadd, 1) := by decide +kernel
theorem dX5_mixBlock_189 : decode cX5_mixBlock 189 = .ok (.istore 5, 2) := by decide +kernel
theorem dX5_mixBlock_191 : decode cX5_mixBlock 191 = .ok (.iload_n 3, 1) := by decide +kernel
theorem dX5_mixBlock_192 : decode cX5_mixBlock 192 = .ok (.istore 4, 2) := by decide +kernel
theorem dX5_mixBlock_194 : decode cX5_mixBlock 194 = .ok (.iload_n 2, 1) := by decide +kernel
theorem dX5_mixBlock_195 : decode cX5_mixBlock 195 = .ok (.istore_n 3, 1) := by decide +kernel
theorem dX5_mixBlock_196 : decode cX5_mixBlock 196 = .ok (.iload_n 1, 1) := by decide +kernel
theorem dX5_mixBlock_197 : decode cX5_mixBlock 197 = .ok (.istore_n 2, 1) := by decide +kernel
theorem dX5_mixBlock_198 : decode cX5_mixBlock 198 = .ok (.iload 12, 2) := by decide +kernel
theorem dX5_mixBlock_200 : decode cX5_mixBlock 200 = .ok (.iload 13, 2) := by decide +kernel
theorem dX5_mixBlock_202 : decode cX5_mixBlock 202 = .ok (.iadd, 1) := by decide +kernel
theorem dX5_mixBlock_203 : decode cX5_mixBlock 203 = .ok (.iload 14, 2) := by decide +kernel
theorem dX5_mixBlock_205 : decode cX5_mixBlock 205 = .ok (.iadd, 1) := by decide +kernel
theorem dX5_mixBlock_206 : decode cX5_mixBlock 206 = .ok (.istore_n 1, 1) := by decide +kernel
theorem dX5_mixBlock_207 : decode cX5_mixBlock 207 = .ok (.iinc 9 1, 3) := by decide +kernel
theorem dX5_mixBlock_210 : decode cX5_mixBlock 210 = .ok (.goto (-144), 3) := by decide +kernel
theorem dX5_mixBlock_213 : decode cX5_mixBlock 213 = .ok (.aload_n 0, 1) := by decide +kernel
theorem dX5_mixBlock_214 : decode cX5_mixBlock 214 = .ok (.getfield 19, 3) := by decide +kernel
theorem dX5_mixBlock_217 : decode cX5_mixBlock 217 = .ok (.iconst 0, 1) := by decide +kernel
theorem dX5_mixBlock_218 : decode cX5_mixBlock 218 = .ok (.dup2, 1) := by decide +kernel
theorem dX5_mixBlock_219 : decode cX5_mixBlock 219 = .ok (.iaload, 1) := by decide +kernel
theorem dX5_mixBlock_220 : decode cX5_mixBlock 220 = .ok (.iload_n 1, 1) := by decide +kernel
theorem dX5_mixBlock_221 : decode cX5_mixBlock 221 = .ok (.iadd, 1) := by decide +kernel
theorem dX5_mixBlock_222 : decode cX5_mixBlock 222 = .ok (.iastore, 1) := by decide +kernel
theorem dX5_mixBlock_223 : decode cX5_mixBlock 223 = .ok (.aload_n 0, 1) := by decide +kernel
theorem dX5_mixBlock_224 : decode cX5_mixBlock 224 = .ok (.getfield 19, 3) := by decide +kernel
theorem dX5_mixBlock_227 : decode cX5_mixBlock 227 = .ok (.iconst 1, 1) := by decide +kernel
theorem dX5_mixBlock_228 : decode cX5_mixBlock 228 = .ok (.dup2, 1) := by decide +kernel
theorem dX5_mixBlock_229 : decode cX5_mixBlock 229 = .ok (.iaload, 1) := by decide +kernel
theorem dX5_mixBlock_230 : decode cX5_mixBlock 230 = .ok (.iload_n 2, 1) := by decide +kernel
theorem dX5_mixBlock_231 : decode cX5_mixBlock 231 = .ok (.iadd, 1) := by decide +kernel
theorem dX5_mixBlock_232 : decode cX5_mixBlock 232 = .ok (.iastore, 1) := by decide +kernel
theorem dX5_mixBlock_233 : decode cX5_mixBlock 233 = .ok (.aload_n 0, 1) := by decide +kernel
theorem dX5_mixBlock_234 : decode cX5_mixBlock 234 = .ok (.getfield 19, 3) := by decide +kernel
theorem dX5_mixBlock_237 : decode cX5_mixBlock 237 = .ok (.iconst 2, 1) := by decide +kernel
theorem dX5_mixBlock_238 : decode cX5_mixBlock 238 = .ok (.dup2, 1) := by decide +kernel
theorem dX5_mixBlock_239 : decode cX5_mixBlock 239 = .ok (.iaload, 1) := by decide +kernel
theorem dX5_mixBlock_240 : decode cX5_mixBlock 240 = .ok (.iload_n 3, 1) := by decide +kernel
theorem dX5_mixBlock_241 : decode cX5_mixBlock 241 = .ok (.iadd, 1) := by decide +kernel
theorem dX5_mixBlock_242 : decode cX5_mixBlock 242 = .ok (.iastore, 1) := by decide +kernel
theorem dX5_mixBlock_243 : decode cX5_mixBlock 243 = .ok (.aload_n 0, 1) := by decide +kernel
theorem dX5_mixBlock_244 : decode cX5_mixBlock 244 = .ok (.getfield 19, 3) := by decide +kernel
theorem dX5_mixBlock_247 : decode cX5_mixBlock 247 = .ok (.iconst 3, 1) := by decide +kernel
theorem dX5_mixBlock_248 : decode cX5_mixBlock 248 = .ok (.dup2, 1) := by decide +kernel
theorem dX5_mixBlock_249 : decode cX5_mixBlock 249 = .ok (.iaload, 1) := by decide +kernel
theorem dX5_mixBlock_250 : decode cX5_mixBlock 250 = .ok (.iload 4, 2) := by decide +kernel
theorem dX5_mixBlock_252 : decode cX5_mixBlock 252 = .ok (.iadd, 1) := by decide +kernel
theorem dX5_mixBlock_253 : decode cX5_mixBlock 253 = .ok (.iastore, 1) := by decide +kernel
theorem dX5_mixBlock_254 : decode cX5_mixBlock 254 = .ok (.aload_n 0, 1) := by decide +kernel
theorem dX5_mixBlock_255 : decode cX5_mixBlock 255 = .ok (.getfield 19, 3) := by decide +kernel
theorem dX5_mixBlock_258 : decode cX5_mixBlock 258 = .ok (.iconst 4, 1) := by decide +kernel
theorem dX5_mixBlock_259 : decode cX5_mixBlock 259 = .ok (.dup2, 1) := by decide +kernel
theorem dX5_mixBlock_260 : decode cX5_mixBlock 260 = .ok (.iaload, 1) := by decide +kernel
theorem dX5_mixBlock_261 : decode cX5_mixBlock 261 = .ok (.iload 5, 2) := by decide +kernel
theorem dX5_mixBlock_263 : decode cX5_mixBlock 263 = .ok (.iadd, 1) := by decide +kernel
theorem dX5_mixBlock_264 : decode cX5_mixBlock 264 = .ok (.iastore, 1) := by decide +kernel
theorem dX5_mixBlock_265 : decode cX5_mixBlock 265 = .ok (.aload_n 0, 1) := by decide +kernel
theorem dX5_mixBlock_266 : decode cX5_mixBlock 266 = .ok (.getfield 19, 3) := by decide +kernel
theorem dX5_mixBlock_269 : decode cX5_mixBlock 269 = .ok (.iconst 5, 1) := by decide +kernel
theorem dX5_mixBlock_270 : decode cX5_mixBlock 270 = .ok (.dup2, 1) := by decide +kernel
theorem dX5_mixBlock_271 : decode cX5_mixBlock 271 = .ok (.iaload, 1) := by decide +kernel
theorem dX5_mixBlock_272 : decode cX5_mixBlock 272 = .ok (.iload 6, 2) := by decide +kernel
theorem dX5_mixBlock_274 : decode cX5_mixBlock 274 = .ok (.iadd, 1) := by decide +kernel
theorem dX5_mixBlock_275 : decode cX5_mixBlock 275 = .ok (.iastore, 1) := by decide +kernel
theorem dX5_mixBlock_276 : decode cX5_mixBlock 276 = .ok (.aload_n 0, 1) := by decide +kernel
theorem dX5_mixBlock_277 : decode cX5_mixBlock 277 = .ok (.getfield 19, 3) := by decide +kernel
theorem dX5_mixBlock_280 : decode cX5_mixBlock 280 = .ok (.bipush 6, 2) := by decide +kernel
theorem dX5_mixBlock_282 : decode cX5_mixBlock 282 = .ok (.dup2, 1) := by decide +kernel
theorem dX5_mixBlock_283 : decode cX5_mixBlock 283 = .ok (.iaload, 1) := by decide +kernel
theorem dX5_mixBlock_284 : decode cX5_mixBlock 284 = .ok (.iload 7, 2) := by decide +kernel
theorem dX5_mixBlock_286 : decode cX5_mixBlock 286 = .ok (.iadd, 1) := by decide +kernel
theorem dX5_mixBlock_287 : decode cX5_mixBlock 287 = .ok (.iastore, 1) := by decide +kernel
theorem dX5_mixBlock_288 : decode cX5_mixBlock 288 = .ok (.aload_n 0, 1) := by decide +kernel
theorem dX5_mixBlock_289 : decode cX5_mixBlock 289 = .ok (.getfield 19, 3) := by decide +kernel
theorem dX5_mixBlock_292 : decode cX5_mixBlock 292 = .ok (.bipush 7, 2) := by decide +kernel
theorem dX5_mixBlock_294 : decode cX5_mixBlock 294 = .ok (.dup2, 1) := by decide +kernel
theorem dX5_mixBlock_295 : decode cX5_mixBlock 295 = .ok (.iaload, 1) := by decide +kernel
theorem dX5_mixBlock_296 : decode cX5_mixBlock 296 = .ok (.iload 8, 2) := by decide +kernel
theorem dX5_mixBlock_298 : decode cX5_mixBlock 298 = .ok (.iadd, 1) := by decide +kernel
theorem dX5_mixBlock_299 : decode cX5_mixBlock 299 = .ok (.iastore, 1) := by decide +kernel
theorem dX5_mixBlock_300 : decode cX5_mixBlock 300 = .ok (.return_, 1) := by decide +kernel
theorem dX6_init_0 : decode cX6_init 0 = .ok (.aload_n 0, 1) := by decide +kernel
theorem dX6_init_1 : decode cX6_init 1 = .ok (.invokespecial 3, 3) := by decide +kernel
theorem dX6_init_4 : decode cX6_init 4 = .ok (.aload_n 0, 1) := by decide +kernel
theorem dX6_init_5 : decode cX6_init 5 = .ok (.bipush 7, 2) := by decide +kernel
theorem dX6_init_7 : decode cX6_init 7 = .ok (.newarray .int, 2) := by decide +kernel
theorem dX6_init_9 : decode cX6_init 9 = .ok (.putfield 9, 3) := by decide +kernel
theorem dX6_init_12 : decode cX6_init 12 = .ok (.aload_n 0, 1) := by decide +kernel
theorem dX6_init_13 : decode cX6_init 13 = .ok (.bipush 7, 2) := by decide +kernel
theorem dX6_init_15 : decode cX6_init 15 = .ok (.newarray .int, 2) := by decide +kernel
theorem dX6_init_17 : decode cX6_init 17 = .ok (.putfield 15, 3) := by decide +kernel
theorem dX6_init_20 : decode cX6_init 20 = .ok (.aload_n 0, 1) := by decide +kernel
theorem dX6_init_21 : decode cX6_init 21 = .ok (.iconst 0, 1) := by decide +kernel
theorem dX6_init_22 : decode cX6_init 22 = .ok (.putfield 18, 3) := by decide +kernel
theorem dX6_init_25 : decode cX6_init 25 = .ok (.return_, 1) := by decide +kernel
set_option maxRecDepth 20000 in
theorem ggX6_put_X6_placeOf : GoodIn wsX6_put wsX6_placeOf := goodIn_r _ [12, 3, 1, 13, 14, 15] (by decide +kernel) (by decide +kernel)
set_option maxRecDepth 20000 in
theorem gX6_put_X6_placeOf : GoodIn wsX6_put (wsV RX6 22 RX6 yX6_placeOf wsX6_placeOf) := goodIn_app (goodIn_of _ (by decide +kernel)) ggX6_put_X6_placeOf
theorem dX6_put_0 : decode cX6_put 0 = .ok (.aload_n 0, 1) := by decide +kernel
theorem dX6_put_1 : decode cX6_put 1 = .ok (.iload_n 1, 1) := by decide +kernel
theorem dX6_put_2 : decode cX6_put 2 = .ok (.invokevirtual 22, 3) := by decide +kernel
theorem dX6_put_5 : decode cX6_put 5 = .ok (.istore_n 3, 1) := by decide +kernel
theorem dX6_put_6 : decode cX6_put 6 = .ok (.iload_n 3, 1) := by decide +kernel
theorem dX6_put_7 : decode cX6_put 7 = .ok (.bipush 7, 2) := by decide +kernel
theorem dX6_put_9 : decode cX6_put 9 = .ok (.if_icmp .lt 5, 3) := by decide +kernel
theorem dX6_put_12 : decode cX6_put 12 = .ok (.iconst 0, 1) := by decide +kernel
theorem dX6_put_13 : decode cX6_put 13 = .ok (.ireturn, 1) := by decide +kernel
theorem dX6_put_14 : decode cX6_put 14 = .ok (.aload_n 0, 1) := by decide +kernel
theorem dX6_put_15 : decode cX6_put 15 = .ok (.getfield 9, 3) := by decide +kernel
theorem dX6_put_18 : decode cX6_put 18 = .ok (.iload_n 3, 1) := by decide +kernel
theorem dX6_put_19 : decode cX6_put 19 = .ok (.iload_n 1, 1) := by decide +kernel
theorem dX6_put_20 : decode cX6_put 20 = .ok (.iastore, 1) := by decide +kernel
theorem dX6_put_21 : decode cX6_put 21 = .ok (.aload_n 0, 1) := by decide +kernel
theorem dX6_put_22 : decode cX6_put 22 = .ok (.getfield 15, 3) := by decide +kernel
theorem dX6_put_25 : decode cX6_put 25 = .ok (.iload_n 3, 1) := by decide +kernel
theorem dX6_put_26 : decode cX6_put 26 = .ok (.iload_n 2, 1) := by decide +kernel
theorem dX6_put_27 : decode cX6_put 27 = .ok (.iastore, 1) := by decide +kernel
theorem dX6_put_28 : decode cX6_put 28 = .ok (.aload_n 0, 1) := by decide +kernel
theorem dX6_put_29 : decode cX6_put 29 = .ok (.aload_n 0, 1) := by decide +kernel
theorem dX6_put_30 : decode cX6_put 30 = .ok (.getfield 18, 3) := by decide +kernel
theorem dX6_put_33 : decode cX6_put 33 = .ok (.iload_n 3, 1) := by decide +kernel
theorem dX6_put_34 : decode cX6_put 34 = .ok (.iconst 1, 1) := by decide +kernel
theorem dX6_put_35 : decode cX6_put 35 = .ok (.iadd, 1) := by decide +kernel
theorem dX6_put_36 : decode cX6_put 36 = .ok (.invokestatic 26, 3) := by decide +kernel
theorem dX6_put_39 : decode cX6_put 39 = .ok (.putfield 18, 3) := by decide +kernel
theorem dX6_put_42 : decode cX6_put 42 = .ok (.iconst 1, 1) := by decide +kernel
theorem dX6_put_43 : decode cX6_put 43 = .ok (.ireturn, 1) := by decide +kernel
set_option maxRecDepth 20000 in
theorem ggX6_versionOf_X6_placeOf : GoodIn wsX6_versionOf wsX6_placeOf := goodIn_r _ [7, 1, 8, 9, 10, 11] (by decide +kernel) (by decide +kernel)
set_option maxRecDepth 20000 in
theorem gX6_versionOf_X6_placeOf : GoodIn wsX6_versionOf (wsV RX6 22 RX6 yX6_placeOf wsX6_placeOf) := goodIn_app (goodIn_of _ (by decide +kernel)) ggX6_versionOf_X6_placeOf
theorem dX6_versionOf_0 : decode cX6_versionOf 0 = .ok (.aload_n 0, 1) := by decide +kernel
theorem dX6_versionOf_1 : decode cX6_versionOf 1 = .ok (.iload_n 1, 1) := by decide +kernel
theorem dX6_versionOf_2 : decode cX6_versionOf 2 = .ok (.invokevirtual 22, 3) := by decide +kernel
theorem dX6_versionOf_5 : decode cX6_versionOf 5 = .ok (.istore_n 2, 1) := by decide +kernel
theorem dX6_versionOf_6 : decode cX6_versionOf 6 = .ok (.iload_n 2, 1) := by decide +kernel
theorem dX6_versionOf_7 : decode cX6_versionOf 7 = .ok (.aload_n 0, 1) := by decide +kernel
theorem dX6_versionOf_8 : decode cX6_versionOf 8 = .ok (.getfield 18, 3) := by decide +kernel
theorem dX6_versionOf_11 : decode cX6_versionOf 11 = .ok (.if_icmp .ge 12, 3) := by decide +kernel
theorem dX6_versionOf_14 : decode cX6_versionOf 14 = .ok (.aload_n 0, 1) := by decide +kernel
theorem dX6_versionOf_15 : decode cX6_versionOf 15 = .ok (.getfield 15, 3) := by decide +kernel
theorem dX6_versionOf_18 : decode cX6_versionOf 18 = .ok (.iload_n 2, 1) := by decide +kernel
theorem dX6_versionOf_19 : decode cX6_versionOf 19 = .ok (.iaload, 1) := by decide +kernel
theorem dX6_versionOf_20 : decode cX6_versionOf 20 = .ok (.goto 4, 3) := by decide +kernel
theorem dX6_versionOf_23 : decode cX6_versionOf 23 = .ok (.iconst 0, 1) := by decide +kernel
theorem dX6_versionOf_24 : decode cX6_versionOf 24 = .ok (.ireturn, 1) := by decide +kernel
set_option maxRecDepth 20000 in
theorem ggX6_keepsAllOf_X6_versionOf : GoodIn wsX6_keepsAllOf wsX6_versionOf := goodIn_r _ [8, 1, 3, 9, 10, 11, 7, 12, 2, 13, 14, 15] (by decide +kernel) (by decide +kernel)
set_option maxRecDepth 20000 in
theorem gX6_keepsAllOf_X6_versionOf : GoodIn wsX6_keepsAllOf (wsV RX6 32 RX6 yX6_versionOf wsX6_versionOf) := goodIn_app (goodIn_of _ (by decide +kernel)) ggX6_keepsAllOf_X6_versionOf
theorem dX6_keepsAllOf_0 : decode cX6_keepsAllOf 0 = .ok (.iconst 0, 1) := by decide +kernel
theorem dX6_keepsAllOf_1 : decode cX6_keepsAllOf 1 = .ok (.istore_n 2, 1) := by decide +kernel
theorem dX6_keepsAllOf_2 : decode cX6_keepsAllOf 2 = .ok (.iload_n 2, 1) := by decide +kernel
theorem dX6_keepsAllOf_3 : decode cX6_keepsAllOf 3 = .ok (.aload_n 1, 1) := by decide +kernel
theorem dX6_keepsAllOf_4 : decode cX6_keepsAllOf 4 = .ok (.getfield 18, 3) := by decide +kernel
theorem dX6_keepsAllOf_7 : decode cX6_keepsAllOf 7 = .ok (.if_icmp .ge 30, 3) := by decide +kernel
theorem dX6_keepsAllOf_10 : decode cX6_keepsAllOf 10 = .ok (.aload_n 0, 1) := by decide +kernel
theorem dX6_keepsAllOf_11 : decode cX6_keepsAllOf 11 = .ok (.aload_n 1, 1) := by decide +kernel
theorem dX6_keepsAllOf_12 : decode cX6_keepsAllOf 12 = .ok (.getfield 9, 3) := by decide +kernel
theorem dX6_keepsAllOf_15 : decode cX6_keepsAllOf 15 = .ok (.iload_n 2, 1) := by decide +kernel
theorem dX6_keepsAllOf_16 : decode cX6_keepsAllOf 16 = .ok (.iaload, 1) := by decide +kernel
theorem dX6_keepsAllOf_17 : decode cX6_keepsAllOf 17 = .ok (.invokevirtual 32, 3) := by decide +kernel
theorem dX6_keepsAllOf_20 : decode cX6_keepsAllOf 20 = .ok (.aload_n 1, 1) := by decide +kernel
theorem dX6_keepsAllOf_21 : decode cX6_keepsAllOf 21 = .ok (.getfield 15, 3) := by decide +kernel
theorem dX6_keepsAllOf_24 : decode cX6_keepsAllOf 24 = .ok (.iload_n 2, 1) := by decide +kernel
theorem dX6_keepsAllOf_25 : decode cX6_keepsAllOf 25 = .ok (.iaload, 1) := by decide +kernel
theorem dX6_keepsAllOf_26 : decode cX6_keepsAllOf 26 = .ok (.if_icmp .ge 5, 3) := by decide +kernel
theorem dX6_keepsAllOf_29 : decode cX6_keepsAllOf 29 = .ok (.iconst 0, 1) := by decide +kernel
theorem dX6_keepsAllOf_30 : decode cX6_keepsAllOf 30 = .ok (.ireturn, 1) := by decide +kernel
theorem dX6_keepsAllOf_31 : decode cX6_keepsAllOf 31 = .ok (.iinc 2 1, 3) := by decide +kernel
theorem dX6_keepsAllOf_34 : decode cX6_keepsAllOf 34 = .ok (.goto (-32), 3) := by decide +kernel
theorem dX6_keepsAllOf_37 : decode cX6_keepsAllOf 37 = .ok (.iconst 1, 1) := by decide +kernel
theorem dX6_keepsAllOf_38 : decode cX6_keepsAllOf 38 = .ok (.ireturn, 1) := by decide +kernel
set_option maxRecDepth 20000 in
theorem ggX6_writeTo_X5_putByte : GoodIn wsX6_writeTo wsX5_putByte := goodIn_r _ [8, 9, 10, 19, 20, 21, 22] (by decide +kernel) (by decide +kernel)
set_option maxRecDepth 20000 in
theorem gX6_writeTo_X5_putByte : GoodIn wsX6_writeTo (wsV RX6 35 RX5 yX5_putByte wsX5_putByte) := goodIn_app (goodIn_of _ (by decide +kernel)) ggX6_writeTo_X5_putByte
set_option maxRecDepth 20000 in
theorem ggX6_writeTo_X5_putInt : GoodIn wsX6_writeTo wsX5_putInt := goodIn_r _ [14, 15, 5, 6, 7, 8, 9, 10, 19, 20, 21, 22] (by decide +kernel) (by decide +kernel)
set_option maxRecDepth 20000 in
theorem gX6_writeTo_X5_putInt : GoodIn wsX6_writeTo (wsV RX6 41 RX5 yX5_putInt wsX5_putInt) := goodIn_app (goodIn_of _ (by decide +kernel)) ggX6_writeTo_X5_putInt
theorem dX6_writeTo_0 : decode cX6_writeTo 0 = .ok (.aload_n 1, 1) := by decide +kernel
theorem dX6_writeTo_1 : decode cX6_writeTo 1 = .ok (.aload_n 0, 1) := by decide +kernel
theorem dX6_writeTo_2 : decode cX6_writeTo 2 = .ok (.getfield 18, 3) := by decide +kernel
theorem dX6_writeTo_5 : decode cX6_writeTo 5 = .ok (.invokevirtual 35, 3) := by decide +kernel
theorem dX6_writeTo_8 : decode cX6_writeTo 8 = .ok (.iconst 0, 1) := by decide +kernel
theorem dX6_writeTo_9 : decode cX6_writeTo 9 = .ok (.istore_n 2, 1) := by decide +kernel
theorem dX6_writeTo_10 : decode cX6_writeTo 10 = .ok (.iload_n 2, 1) := by decide +kernel
theorem dX6_writeTo_11 : decode cX6_writeTo 11 = .ok (.aload_n 0, 1) := by decide +kernel
theorem dX6_writeTo_12 : decode cX6_writeTo 12 = .ok (.getfield 18, 3) := by decide +kernel
theorem dX6_writeTo_15 : decode cX6_writeTo 15 = .ok (.if_icmp .ge 29, 3) := by decide +kernel
theorem dX6_writeTo_18 : decode cX6_writeTo 18 = .ok (.aload_n 1, 1) := by decide +kernel
theorem dX6_writeTo_19 : decode cX6_writeTo 19 = .ok (.aload_n 0, 1) := by decide +kernel
theorem dX6_writeTo_20 : decode cX6_writeTo 20 = .ok (.getfield 9, 3) := by decide +kernel
theorem dX6_writeTo_23 : decode cX6_writeTo 23 = .ok (.iload_n 2, 1) := by decide +kernel
theorem dX6_writeTo_24 : decode cX6_writeTo 24 = .ok (.iaload, 1) := by decide +kernel
theorem dX6_writeTo_25 : decode cX6_writeTo 25 = .ok (.invokevirtual 35, 3) := by decide +kernel
theorem dX6_writeTo_28 : decode cX6_writeTo 28 = .ok (.aload_n 1, 1) := by decide +kernel
theorem dX6_writeTo_29 : decode cX6_writeTo 29 = .ok (.aload_n 0, 1) := by decide +kernel
theorem dX6_writeTo_30 : decode cX6_writeTo 30 = .ok (.getfield 15, 3) := by decide +kernel
theorem dX6_writeTo_33 : decode cX6_writeTo 33 = .ok (.iload_n 2, 1) := by decide +kernel
theorem dX6_writeTo_34 : decode cX6_writeTo 34 = .ok (.iaload, 1) := by decide +kernel
theorem dX6_writeTo_35 : decode cX6_writeTo 35 = .ok (.invokevirtual 41, 3) := by decide +kernel
theorem dX6_writeTo_38 : decode cX6_writeTo 38 = .ok (.iinc 2 1, 3) := by decide +kernel
theorem dX6_writeTo_41 : decode cX6_writeTo 41 = .ok (.goto (-31), 3) := by decide +kernel
theorem dX6_writeTo_44 : decode cX6_writeTo 44 = .ok (.return_, 1) := by decide +kernel
theorem dX6_placeOf_0 : decode cX6_placeOf 0 = .ok (.iconst 0, 1) := by decide +kernel
theorem dX6_placeOf_1 : decode cX6_placeOf 1 = .ok (.istore_n 2, 1) := by decide +kernel
theorem dX6_placeOf_2 : decode cX6_placeOf 2 = .ok (.iload_n 2, 1) := by decide +kernel
theorem dX6_placeOf_3 : decode cX6_placeOf 3 = .ok (.aload_n 0, 1) := by decide +kernel
theorem dX6_placeOf_4 : decode cX6_placeOf 4 = .ok (.getfield 18, 3) := by decide +kernel
theorem dX6_placeOf_7 : decode cX6_placeOf 7 = .ok (.if_icmp .ge 21, 3) := by decide +kernel
theorem dX6_placeOf_10 : decode cX6_placeOf 10 = .ok (.aload_n 0, 1) := by decide +kernel
theorem dX6_placeOf_11 : decode cX6_placeOf 11 = .ok (.getfield 9, 3) := by decide +kernel
theorem dX6_placeOf_14 : decode cX6_placeOf 14 = .ok (.iload_n 2, 1) := by decide +kernel
theorem dX6_placeOf_15 : decode cX6_placeOf 15 = .ok (.iaload, 1) := by decide +kernel
theorem dX6_placeOf_16 : decode cX6_placeOf 16 = .ok (.iload_n 1, 1) := by decide +kernel
theorem dX6_placeOf_17 : decode cX6_placeOf 17 = .ok (.if_icmp .ne 5, 3) := by decide +kernel
theorem dX6_placeOf_20 : decode cX6_placeOf 20 = .ok (.iload_n 2, 1) := by decide +kernel
theorem dX6_placeOf_21 : decode cX6_placeOf 21 = .ok (.ireturn, 1) := by decide +kernel
theorem dX6_placeOf_22 : decode cX6_placeOf 22 = .ok (.iinc 2 1, 3) := by decide +kernel
theorem dX6_placeOf_25 : decode cX6_placeOf 25 = .ok (.goto (-23), 3) := by decide +kernel
theorem dX6_placeOf_28 : decode cX6_placeOf 28 = .ok (.aload_n 0, 1) := by decide +kernel
theorem dX6_placeOf_29 : decode cX6_placeOf 29 = .ok (.getfield 18, 3) := by decide +kernel
theorem dX6_placeOf_32 : decode cX6_placeOf 32 = .ok (.ireturn, 1) := by decide +kernel
set_option maxRecDepth 20000 in
theorem ggX7_init_X2_init : GoodIn wsX7_init wsX2_init := goodIn_r _ [26, 27, 2, 3, 28, 29, 30, 31, 53, 54, 55] (by decide +kernel) (by decide +kernel)
set_option maxRecDepth 20000 in
theorem gX7_init_X2_init_n11 : GoodIn wsX7_init (wsX2_init) := ggX7_init_X2_init
set_option maxRecDepth 20000 in
theorem ggX7_init_X3_init : GoodIn wsX7_init wsX3_init := goodIn_r _ [34, 35, 2, 3, 23, 36, 37, 63, 64] (by decide +kernel) (by decide +kernel)
set_option maxRecDepth 20000 in
theorem gX7_init_X3_init : GoodIn wsX7_init (wsX3_init) := ggX7_init_X3_init
set_option maxRecDepth 20000 in
theorem ggX7_init_X0_init : GoodIn wsX7_init wsX0_init := goodIn_r _ [39, 40, 2, 3, 41, 42, 43, 44, 65, 66, 67] (by decide +kernel) (by decide +kernel)
set_option maxRecDepth 20000 in
theorem gX7_init_X0_init_n35 : GoodIn wsX7_init (wsX0_init) := ggX7_init_X0_init
set_option maxRecDepth 20000 in
theorem ggX7_init_X5_init : GoodIn wsX7_init wsX5_init := goodIn_r _ [46, 47, 2, 3, 48, 49, 23, 50, 51, 52, 68, 69, 70, 71] (by decide +kernel) (by decide +kernel)
set_option maxRecDepth 20000 in
theorem gX7_init_X5_init_n42 : GoodIn wsX7_init (wsX5_init) := ggX7_init_X5_init
theorem dX7_init_0 : decode cX7_init 0 = .ok (.aload_n 0, 1) := by decide +kernel
theorem dX7_init_1 : decode cX7_init 1 = .ok (.invokespecial 3, 3) := by decide +kernel
theorem dX7_init_4 : decode cX7_init 4 = .ok (.aload_n 0, 1) := by decide +kernel
theorem dX7_init_5 : decode cX7_init 5 = .ok (.new 9, 3) := by decide +kernel
theorem dX7_init_8 : decode cX7_init 8 = .ok (.dup, 1) := by decide +kernel
theorem dX7_init_9 : decode cX7_init 9 = .ok (.invokespecial 11, 3) := by decide +kernel
theorem dX7_init_12 : decode cX7_init 12 = .ok (.putfield 12, 3) := by decide +kernel
theorem dX7_init_15 : decode cX7_init 15 = .ok (.aload_n 0, 1) := by decide +kernel
theorem dX7_init_16 : decode cX7_init 16 = .ok (.new 16, 3) := by decide +kernel
theorem dX7_init_19 : decode cX7_init 19 = .ok (.dup, 1) := by decide +kernel
theorem dX7_init_20 : decode cX7_init 20 = .ok (.invokespecial 18, 3) := by decide +kernel
theorem dX7_init_23 : decode cX7_init 23 = .ok (.putfield 19, 3) := by decide +kernel
theorem dX7_init_26 : decode cX7_init 26 = .ok (.aload_n 0, 1) := by decide +kernel
theorem dX7_init_27 : decode cX7_init 27 = .ok (.bipush 24, 2) := by decide +kernel
theorem dX7_init_29 : decode cX7_init 29 = .ok (.anewarray 23, 3) := by decide +kernel
theorem dX7_init_32 : decode cX7_init 32 = .ok (.putfield 25, 3) := by decide +kernel
theorem dX7_init_35 : decode cX7_init 35 = .ok (.aload_n 0, 1) := by decide +kernel
theorem dX7_init_36 : decode cX7_init 36 = .ok (.iconst 0, 1) := by decide +kernel
theorem dX7_init_37 : decode cX7_init 37 = .ok (.putfield 29, 3) := by decide +kernel
theorem dX7_init_40 : decode cX7_init 40 = .ok (.aload_n 0, 1) := by decide +kernel
theorem dX7_init_41 : decode cX7_init 41 = .ok (.new 33, 3) := by decide +kernel
theorem dX7_init_44 : decode cX7_init 44 = .ok (.dup, 1) := by decide +kernel
theorem dX7_init_45 : decode cX7_init 45 = .ok (.invokespecial 35, 3) := by decide +kernel
theorem dX7_init_48 : decode cX7_init 48 = .ok (.putfield 36, 3) := by decide +kernel
theorem dX7_init_51 : decode cX7_init 51 = .ok (.aload_n 0, 1) := by decide +kernel
theorem dX7_init_52 : decode cX7_init 52 = .ok (.new 40, 3) := by decide +kernel
theorem dX7_init_55 : decode cX7_init 55 = .ok (.dup, 1) := by decide +kernel
theorem dX7_init_56 : decode cX7_init 56 = .ok (.invokespecial 42, 3) := by decide +kernel
theorem dX7_init_59 : decode cX7_init 59 = .ok (.putfield 43, 3) := by decide +kernel
theorem dX7_init_62 : decode cX7_init 62 = .ok (.aload_n 0, 1) := by decide +kernel
theorem dX7_init_63 : decode cX7_init 63 = .ok (.bipush 8, 2) := by decide +kernel
theorem dX7_init_65 : decode cX7_init 65 = .ok (.newarray .int, 2) := by decide +kernel
theorem dX7_init_67 : decode cX7_init 67 = .ok (.putfield 47, 3) := by decide +kernel
theorem dX7_init_70 : decode cX7_init 70 = .ok (.return_, 1) := by decide +kernel
set_option maxRecDepth 20000 in
theorem ggX7_key_X2_add : GoodIn wsX7_key wsX2_add := goodIn_r _ [6, 7, 8, 9, 17, 18, 19] (by decide +kernel) (by decide +kernel)
set_option maxRecDepth 20000 in
theorem gX7_key_X2_add : GoodIn wsX7_key (wsV RX7 51 RX2 yX2_add wsX2_add) := goodIn_app (goodIn_of _ (by decide +kernel)) ggX7_key_X2_add
theorem dX7_key_0 : decode cX7_key 0 = .ok (.aload_n 0, 1) := by decide +kernel
theorem dX7_key_1 : decode cX7_key 1 = .ok (.getfield 12, 3) := by decide +kernel
theorem dX7_key_4 : decode cX7_key 4 = .ok (.lload_n 1, 1) := by decide +kernel
theorem dX7_key_5 : decode cX7_key 5 = .ok (.lload_n 3, 1) := by decide +kernel
theorem dX7_key_6 : decode cX7_key 6 = .ok (.invokevirtual 51, 3) := by decide +kernel
theorem dX7_key_9 : decode cX7_key 9 = .ok (.ireturn, 1) := by decide +kernel
set_option maxRecDepth 20000 in
theorem ggX7_quorum_X7_isRole : GoodIn wsX7_quorum wsX7_isRole := goodIn_r _ [5] (by decide +kernel) (by decide +kernel)
set_option maxRecDepth 20000 in
theorem gX7_quorum_X7_isRole : GoodIn wsX7_quorum (va_wsS RX7 55 yX7_isRole wsX7_isRole) := goodIn_app (goodIn_of _ (by decide +kernel)) ggX7_quorum_X7_isRole
set_option maxRecDepth 20000 in
theorem ggX7_quorum_X3_setNeeded : GoodIn wsX7_quorum wsX3_setNeeded := goodIn_r _ [10, 11, 3, 4, 5, 19, 20] (by decide +kernel) (by decide +kernel)
set_option maxRecDepth 20000 in
theorem gX7_quorum_X3_setNeeded : GoodIn wsX7_quorum (wsV RX7 59 RX3 yX3_setNeeded wsX3_setNeeded) := goodIn_app (goodIn_of _ (by decide +kernel)) ggX7_quorum_X3_setNeeded
theorem dX7_quorum_0 : decode cX7_quorum 0 = .ok (.iload_n 1, 1) := by decide +kernel
theorem dX7_quorum_1 : decode cX7_quorum 1 = .ok (.invokestatic 55, 3) := by decide +kernel
theorem dX7_quorum_4 : decode cX7_quorum 4 = .ok (.ifCond .eq 14, 3) := by decide +kernel
theorem dX7_quorum_7 : decode cX7_quorum 7 = .ok (.iload_n 2, 1) := by decide +kernel
theorem dX7_quorum_8 : decode cX7_quorum 8 = .ok (.iconst 1, 1) := by decide +kernel
theorem dX7_quorum_9 : decode cX7_quorum 9 = .ok (.if_icmp .lt 9, 3) := by decide +kernel
theorem dX7_quorum_12 : decode cX7_quorum 12 = .ok (.iload_n 2, 1) := by decide +kernel
theorem dX7_quorum_13 : decode cX7_quorum 13 = .ok (.bipush 9, 2) := by decide +kernel
theorem dX7_quorum_15 : decode cX7_quorum 15 = .ok (.if_icmp .le 5, 3) := by decide +kernel
theorem dX7_quorum_18 : decode cX7_quorum 18 = .ok (.iconst 0, 1) := by decide +kernel
theorem dX7_quorum_19 : decode cX7_quorum 19 = .ok (.ireturn, 1) := by decide +kernel
theorem dX7_quorum_20 : decode cX7_quorum 20 = .ok (.aload_n 0, 1) := by decide +kernel
theorem dX7_quorum_21 : decode cX7_quorum 21 = .ok (.getfield 19, 3) := by decide +kernel
theorem dX7_quorum_24 : decode cX7_quorum 24 = .ok (.iload_n 1, 1) := by decide +kernel
theorem dX7_quorum_25 : decode cX7_quorum 25 = .ok (.iload_n 2, 1) := by decide +kernel
theorem dX7_quorum_26 : decode cX7_quorum 26 = .ok (.invokevirtual 59, 3) := by decide +kernel
theorem dX7_quorum_29 : decode cX7_quorum 29 = .ok (.iconst 1, 1) := by decide +kernel
theorem dX7_quorum_30 : decode cX7_quorum 30 = .ok (.ireturn, 1) := by decide +kernel
set_option maxRecDepth 20000 in
theorem ggX7_holds_X7_isRole : GoodIn wsX7_holds wsX7_isRole := goodIn_r _ [6] (by decide +kernel) (by decide +kernel)
set_option maxRecDepth 20000 in
theorem gX7_holds_X7_isRole : GoodIn wsX7_holds (va_wsS RX7 55 yX7_isRole wsX7_isRole) := goodIn_app (goodIn_of _ (by decide +kernel)) ggX7_holds_X7_isRole
set_option maxRecDepth 20000 in
theorem ggX7_holds_X2_has : GoodIn wsX7_holds wsX2_has := goodIn_r _ [11, 12, 26, 27, 28] (by decide +kernel) (by decide +kernel)
set_option maxRecDepth 20000 in
theorem gX7_holds_X2_has : GoodIn wsX7_holds (wsV RX7 63 RX2 yX2_has wsX2_has) := goodIn_app (goodIn_of _ (by decide +kernel)) ggX7_holds_X2_has
set_option maxRecDepth 20000 in
theorem ggX7_holds_X3_setMember : GoodIn wsX7_holds wsX3_setMember := goodIn_r _ [17, 18, 4, 5, 6, 29, 30] (by decide +kernel) (by decide +kernel)
set_option maxRecDepth 20000 in
theorem gX7_holds_X3_setMember : GoodIn wsX7_holds (wsV RX7 66 RX3 yX3_setMember wsX3_setMember) := goodIn_app (goodIn_of _ (by decide +kernel)) ggX7_holds_X3_setMember
theorem dX7_holds_0 : decode cX7_holds 0 = .ok (.iload_n 1, 1) := by decide +kernel
theorem dX7_holds_1 : decode cX7_holds 1 = .ok (.invokestatic 55, 3) := by decide +kernel
theorem dX7_holds_4 : decode cX7_holds 4 = .ok (.ifCond .eq 14, 3) := by decide +kernel
theorem dX7_holds_7 : decode cX7_holds 7 = .ok (.aload_n 0, 1) := by decide +kernel
theorem dX7_holds_8 : decode cX7_holds 8 = .ok (.getfield 12, 3) := by decide +kernel
theorem dX7_holds_11 : decode cX7_holds 11 = .ok (.iload_n 2, 1) := by decide +kernel
theorem dX7_holds_12 : decode cX7_holds 12 = .ok (.invokevirtual 63, 3) := by decide +kernel
theorem dX7_holds_15 : decode cX7_holds 15 = .ok (.ifCond .ne 5, 3) := by decide +kernel
theorem dX7_holds_18 : decode cX7_holds 18 = .ok (.iconst 0, 1) := by decide +kernel
theorem dX7_holds_19 : decode cX7_holds 19 = .ok (.ireturn, 1) := by decide +kernel
theorem dX7_holds_20 : decode cX7_holds 20 = .ok (.aload_n 0, 1) := by decide +kernel
theorem dX7_holds_21 : decode cX7_holds 21 = .ok (.getfield 19, 3) := by decide +kernel
theorem dX7_holds_24 : decode cX7_holds 24 = .ok (.iload_n 1, 1) := by decide +kernel
theorem dX7_holds_25 : decode cX7_holds 25 = .ok (.iload_n 2, 1) := by decide +kernel
theorem dX7_holds_26 : decode cX7_holds 26 = .ok (.iload_n 3, 1) := by decide +kernel
theorem dX7_holds_27 : decode cX7_holds 27 = .ok (.invokevirtual 66, 3) := by decide +kernel
theorem dX7_holds_30 : decode cX7_holds 30 = .ok (.iconst 1, 1) := by decide +kernel
theorem dX7_holds_31 : decode cX7_holds 31 = .ok (.ireturn, 1) := by decide +kernel
set_option maxRecDepth 20000 in
theorem ggX7_row_X7_isRole : GoodIn wsX7_row wsX7_isRole := goodIn_r _ [10] (by decide +kernel) (by decide +kernel)
set_option maxRecDepth 20000 in
theorem gX7_row_X7_isRole : GoodIn wsX7_row (va_wsS RX7 55 yX7_isRole wsX7_isRole) := goodIn_app (goodIn_of _ (by decide +kernel)) ggX7_row_X7_isRole
set_option maxRecDepth 20000 in
theorem ggX7_row_X7_isVersion : GoodIn wsX7_row wsX7_isVersion := goodIn_r _ [13, 14] (by decide +kernel) (by decide +kernel)
set_option maxRecDepth 20000 in
theorem gX7_row_X7_isVersion : GoodIn wsX7_row (va_wsS RX7 70 yX7_isVersion wsX7_isVersion) := goodIn_app (goodIn_of _ (by decide +kernel)) ggX7_row_X7_isVersion
set_option maxRecDepth 20000 in
theorem ggX7_row_X4_init : GoodIn wsX7_row wsX4_init := goodIn_r _ [17, 18, 19, 20, 21, 22, 23, 24, 25, 26, 27, 28, 29, 30, 31, 32, 33, 34, 35, 36, 37, 38, 39, 40, 41, 42, 43, 44, 45, 46, 47, 48, 49, 50, 51, 52, 53, 54, 55, 56, 57, 58, 59, 60, 61, 62, 63, 64, 76, 77, 78, 79, 80, 81, 82, 83, 84, 85, 86, 87, 88, 89, 90, 91, 92, 93, 94, 95, 96, 97] (by decide +kernel) (by decide +kernel)
set_option maxRecDepth 20000 in
theorem gX7_row_X4_init : GoodIn wsX7_row (wsX4_init) := ggX7_row_X4_init
set_option maxRecDepth 20000 in
theorem ggX7_row_X3_copyFrom : GoodIn wsX7_row wsX3_copyFrom := goodIn_r _ [68, 49, 50, 89, 90] (by decide +kernel) (by decide +kernel)
set_option maxRecDepth 20000 in
theorem gX7_row_X3_copyFrom : GoodIn wsX7_row (wsV RX7 79 RX3 yX3_copyFrom wsX3_copyFrom) := goodIn_app (goodIn_of _ (by decide +kernel)) ggX7_row_X3_copyFrom
theorem dX7_row_0 : decode cX7_row 0 = .ok (.iload_n 1, 1) := by decide +kernel
theorem dX7_row_1 : decode cX7_row 1 = .ok (.invokestatic 55, 3) := by decide +kernel
theorem dX7_row_4 : decode cX7_row 4 = .ok (.ifCond .eq 22, 3) := by decide +kernel
theorem dX7_row_7 : decode cX7_row 7 = .ok (.iload_n 2, 1) := by decide +kernel
theorem dX7_row_8 : decode cX7_row 8 = .ok (.invokestatic 70, 3) := by decide +kernel
theorem dX7_row_11 : decode cX7_row 11 = .ok (.ifCond .eq 15, 3) := by decide +kernel
theorem dX7_row_14 : decode cX7_row 14 = .ok (.aload_n 0, 1) := by decide +kernel
theorem dX7_row_15 : decode cX7_row 15 = .ok (.getfield 29, 3) := by decide +kernel
theorem dX7_row_18 : decode cX7_row 18 = .ok (.aload_n 0, 1) := by decide +kernel
theorem dX7_row_19 : decode cX7_row 19 = .ok (.getfield 25, 3) := by decide +kernel
theorem dX7_row_22 : decode cX7_row 22 = .ok (.arraylength, 1) := by decide +kernel
theorem dX7_row_23 : decode cX7_row 23 = .ok (.if_icmp .lt 5, 3) := by decide +kernel
theorem dX7_row_26 : decode cX7_row 26 = .ok (.iconst (-1), 1) := by decide +kernel
theorem dX7_row_27 : decode cX7_row 27 = .ok (.ireturn, 1) := by decide +kernel
theorem dX7_row_28 : decode cX7_row 28 = .ok (.new 23, 3) := by decide +kernel
theorem dX7_row_31 : decode cX7_row 31 = .ok (.dup, 1) := by decide +kernel
theorem dX7_row_32 : decode cX7_row 32 = .ok (.aload_n 0, 1) := by decide +kernel
theorem dX7_row_33 : decode cX7_row 33 = .ok (.getfield 29, 3) := by decide +kernel
theorem dX7_row_36 : decode cX7_row 36 = .ok (.iload_n 1, 1) := by decide +kernel
theorem dX7_row_37 : decode cX7_row 37 = .ok (.iload_n 2, 1) := by decide +kernel
theorem dX7_row_38 : decode cX7_row 38 = .ok (.lload_n 3, 1) := by decide +kernel
theorem dX7_row_39 : decode cX7_row 39 = .ok (.invokespecial 73, 3) := by decide +kernel
theorem dX7_row_42 : decode cX7_row 42 = .ok (.astore 5, 2) := by decide +kernel
theorem dX7_row_44 : decode cX7_row 44 = .ok (.iload_n 1, 1) := by decide +kernel
theorem dX7_row_45 : decode cX7_row 45 = .ok (.ifCond .ne 15, 3) := by decide +kernel
theorem dX7_row_48 : decode cX7_row 48 = .ok (.aload 5, 2) := by decide +kernel
theorem dX7_row_50 : decode cX7_row 50 = .ok (.getfield 76, 3) := by decide +kernel
theorem dX7_row_53 : decode cX7_row 53 = .ok (.aload_n 0, 1) := by decide +kernel
theorem dX7_row_54 : decode cX7_row 54 = .ok (.getfield 19, 3) := by decide +kernel
theorem dX7_row_57 : decode cX7_row 57 = .ok (.invokevirtual 79, 3) := by decide +kernel
theorem dX7_row_60 : decode cX7_row 60 = .ok (.aload_n 0, 1) := by decide +kernel
theorem dX7_row_61 : decode cX7_row 61 = .ok (.getfield 25, 3) := by decide +kernel
theorem dX7_row_64 : decode cX7_row 64 = .ok (.aload_n 0, 1) := by decide +kernel
theorem dX7_row_65 : decode cX7_row 65 = .ok (.getfield 29, 3) := by decide +kernel
theorem dX7_row_68 : decode cX7_row 68 = .ok (.aload 5, 2) := by decide +kernel
theorem dX7_row_70 : decode cX7_row 70 = .ok (.aastore, 1) := by decide +kernel
theorem dX7_row_71 : decode cX7_row 71 = .ok (.aload_n 0, 1) := by decide +kernel
theorem dX7_row_72 : decode cX7_row 72 = .ok (.dup, 1) := by decide +kernel
theorem dX7_row_73 : decode cX7_row 73 = .ok (.getfield 29, 3) := by decide +kernel
theorem dX7_row_76 : decode cX7_row 76 = .ok (.iconst 1, 1) := by decide +kernel
theorem dX7_row_77 : decode cX7_row 77 = .ok (.iadd, 1) := by decide +kernel
theorem dX7_row_78 : decode cX7_row 78 = .ok (.putfield 29, 3) := by decide +kernel
theorem dX7_row_81 : decode cX7_row 81 = .ok (.aload 5, 2) := by decide +kernel
theorem dX7_row_83 : decode cX7_row 83 = .ok (.getfield 83, 3) := by decide +kernel
theorem dX7_row_86 : decode cX7_row 86 = .ok (.ireturn, 1) := by decide +kernel
set_option maxRecDepth 20000 in
theorem ggX7_octet_X7_openRow : GoodIn wsX7_octet wsX7_openRow := goodIn_r _ [5, 6, 7, 8, 4, 9, 10, 11, 12, 13, 14, 15, 16, 23, 24, 25, 26, 27, 28, 29, 30, 31, 32, 33, 34, 35, 36, 37, 38, 39, 40, 41, 42] (by decide +kernel) (by decide +kernel)
set_option maxRecDepth 20000 in
theorem gX7_octet_X7_openRow : GoodIn wsX7_octet (wsV RX7 86 RX7 yX7_openRow wsX7_openRow) := goodIn_app (goodIn_of _ (by decide +kernel)) ggX7_octet_X7_openRow
set_option maxRecDepth 20000 in
theorem ggX7_octet_X4_addOctet : GoodIn wsX7_octet wsX4_addOctet := goodIn_r _ [20, 21, 22, 30, 31, 32, 33, 34, 35, 36, 37, 38, 39, 40, 41, 42] (by decide +kernel) (by decide +kernel)
set_option maxRecDepth 20000 in
theorem gX7_octet_X4_addOctet : GoodIn wsX7_octet (wsV RX7 90 RX4 yX4_addOctet wsX4_addOctet) := goodIn_app (goodIn_of _ (by decide +kernel)) ggX7_octet_X4_addOctet
theorem dX7_octet_0 : decode cX7_octet 0 = .ok (.aload_n 0, 1) := by decide +kernel
theorem dX7_octet_1 : decode cX7_octet 1 = .ok (.iload_n 1, 1) := by decide +kernel
theorem dX7_octet_2 : decode cX7_octet 2 = .ok (.invokevirtual 86, 3) := by decide +kernel
theorem dX7_octet_5 : decode cX7_octet 5 = .ok (.astore_n 3, 1) := by decide +kernel
theorem dX7_octet_6 : decode cX7_octet 6 = .ok (.aload_n 3, 1) := by decide +kernel
theorem dX7_octet_7 : decode cX7_octet 7 = .ok (.ifnonnull 7, 3) := by decide +kernel
theorem dX7_octet_10 : decode cX7_octet 10 = .ok (.iconst (-1), 1) := by decide +kernel
theorem dX7_octet_11 : decode cX7_octet 11 = .ok (.goto 8, 3) := by decide +kernel
theorem dX7_octet_14 : decode cX7_octet 14 = .ok (.aload_n 3, 1) := by decide +kernel
theorem dX7_octet_15 : decode cX7_octet 15 = .ok (.iload_n 2, 1) := by decide +kernel
theorem dX7_octet_16 : decode cX7_octet 16 = .ok (.invokevirtual 90, 3) := by decide +kernel
theorem dX7_octet_19 : decode cX7_octet 19 = .ok (.ireturn, 1) := by decide +kernel
set_option maxRecDepth 20000 in
theorem ggX7_tells_X7_openRow : GoodIn wsX7_tells wsX7_openRow := goodIn_r _ [5, 6, 7, 8, 4, 9, 10, 11, 12, 13, 14, 15, 16, 55, 56, 57, 58, 59, 60, 61, 42, 43, 44, 45, 46, 47, 48, 49, 50, 51, 52, 53, 54] (by decide +kernel) (by decide +kernel)
set_option maxRecDepth 20000 in
theorem gX7_tells_X7_openRow : GoodIn wsX7_tells (wsV RX7 86 RX7 yX7_openRow wsX7_openRow) := goodIn_app (goodIn_of _ (by decide +kernel)) ggX7_tells_X7_openRow
set_option maxRecDepth 20000 in
theorem ggX7_tells_X4_mayTellOf : GoodIn wsX7_tells wsX4_mayTellOf := goodIn_r _ [20, 21, 42, 43, 44, 45, 46, 47, 48, 49, 50, 51, 52, 53, 54] (by decide +kernel) (by decide +kernel)
set_option maxRecDepth 20000 in
theorem gX7_tells_X4_mayTellOf : GoodIn wsX7_tells (wsV RX7 94 RX4 yX4_mayTellOf wsX4_mayTellOf) := goodIn_app (goodIn_of _ (by decide +kernel)) ggX7_tells_X4_mayTellOf
set_option maxRecDepth 20000 in
theorem ggX7_tells_X7_isVersion : GoodIn wsX7_tells wsX7_isVersion := goodIn_r _ [24, 25] (by decide +kernel) (by decide +kernel)
set_option maxRecDepth 20000 in
theorem gX7_tells_X7_isVersion : GoodIn wsX7_tells (va_wsS RX7 70 yX7_isVersion wsX7_isVersion) := goodIn_app (goodIn_of _ (by decide +kernel)) ggX7_tells_X7_isVersion
set_option maxRecDepth 20000 in
theorem ggX7_tells_X6_put : GoodIn wsX7_tells wsX6_put := goodIn_r _ [30, 31, 32, 33, 34, 35, 36, 37, 38, 39, 40, 29, 41, 62, 63, 64] (by decide +kernel) (by decide +kernel)
set_option maxRecDepth 20000 in
theorem gX7_tells_X6_put : GoodIn wsX7_tells (wsV RX7 101 RX6 yX6_put wsX6_put) := goodIn_app (goodIn_of _ (by decide +kernel)) ggX7_tells_X6_put
theorem dX7_tells_0 : decode cX7_tells 0 = .ok (.aload_n 0, 1) := by decide +kernel
theorem dX7_tells_1 : decode cX7_tells 1 = .ok (.iload_n 1, 1) := by decide +kernel
theorem dX7_tells_2 : decode cX7_tells 2 = .ok (.invokevirtual 86, 3) := by decide +kernel
theorem dX7_tells_5 : decode cX7_tells 5 = .ok (.astore 4, 2) := by decide +kernel
theorem dX7_tells_7 : decode cX7_tells 7 = .ok (.aload 4, 2) := by decide +kernel
theorem dX7_tells_9 : decode cX7_tells 9 = .ok (.ifnull 19, 3) := by decide +kernel
theorem dX7_tells_12 : decode cX7_tells 12 = .ok (.aload 4, 2) := by decide +kernel
theorem dX7_tells_14 : decode cX7_tells 14 = .ok (.iload_n 2, 1) := by decide +kernel
theorem dX7_tells_15 : decode cX7_tells 15 = .ok (.invokevirtual 94, 3) := by decide +kernel
theorem dX7_tells_18 : decode cX7_tells 18 = .ok (.ifCond .eq 10, 3) := by decide +kernel
theorem dX7_tells_21 : decode cX7_tells 21 = .ok (.iload_n 3, 1) := by decide +kernel
theorem dX7_tells_22 : decode cX7_tells 22 = .ok (.invokestatic 70, 3) := by decide +kernel
theorem dX7_tells_25 : decode cX7_tells 25 = .ok (.ifCond .ne 5, 3) := by decide +kernel
theorem dX7_tells_28 : decode cX7_tells 28 = .ok (.iconst 0, 1) := by decide +kernel
theorem dX7_tells_29 : decode cX7_tells 29 = .ok (.ireturn, 1) := by decide +kernel
theorem dX7_tells_30 : decode cX7_tells 30 = .ok (.aload 4, 2) := by decide +kernel
theorem dX7_tells_32 : decode cX7_tells 32 = .ok (.getfield 97, 3) := by decide +kernel
theorem dX7_tells_35 : decode cX7_tells 35 = .ok (.iload_n 2, 1) := by decide +kernel
theorem dX7_tells_36 : decode cX7_tells 36 = .ok (.iload_n 3, 1) := by decide +kernel
theorem dX7_tells_37 : decode cX7_tells 37 = .ok (.invokevirtual 101, 3) := by decide +kernel
theorem dX7_tells_40 : decode cX7_tells 40 = .ok (.ireturn, 1) := by decide +kernel
set_option maxRecDepth 20000 in
theorem ggX7_delegate_X7_openRow : GoodIn wsX7_delegate wsX7_openRow := goodIn_r _ [5, 6, 7, 8, 4, 9, 10, 11, 12, 13, 14, 15, 16, 50, 51, 52, 53, 54, 55, 56, 37, 38, 39, 40, 41, 42, 43, 44, 45, 46, 47, 48, 49] (by decide +kernel) (by decide +kernel)
set_option maxRecDepth 20000 in
theorem gX7_delegate_X7_openRow : GoodIn wsX7_delegate (wsV RX7 86 RX7 yX7_openRow wsX7_openRow) := goodIn_app (goodIn_of _ (by decide +kernel)) ggX7_delegate_X7_openRow
set_option maxRecDepth 20000 in
theorem ggX7_delegate_X4_tellsOfPaths : GoodIn wsX7_delegate wsX4_tellsOfPaths := goodIn_r _ [20, 21, 37, 38, 39, 40, 41, 42, 43, 44, 45, 46, 47, 48, 49] (by decide +kernel) (by decide +kernel)
set_option maxRecDepth 20000 in
theorem gX7_delegate_X4_tellsOfPaths : GoodIn wsX7_delegate (wsV RX7 107 RX4 yX4_tellsOfPaths wsX4_tellsOfPaths) := goodIn_app (goodIn_of _ (by decide +kernel)) ggX7_delegate_X4_tellsOfPaths
set_option maxRecDepth 20000 in
theorem ggX7_delegate_X7_partsOfPattern : GoodIn wsX7_delegate wsX7_partsOfPattern := goodIn_r _ [24, 25, 26, 4, 27] (by decide +kernel) (by decide +kernel)
set_option maxRecDepth 20000 in
theorem gX7_delegate_X7_partsOfPattern : GoodIn wsX7_delegate (va_wsS RX7 111 yX7_partsOfPattern wsX7_partsOfPattern) := goodIn_app (goodIn_of _ (by decide +kernel)) ggX7_delegate_X7_partsOfPattern
set_option maxRecDepth 20000 in
theorem ggX7_delegate_X1_add : GoodIn wsX7_delegate wsX1_add := goodIn_r _ [32, 33, 34, 35, 36, 57, 58, 59, 60] (by decide +kernel) (by decide +kernel)
set_option maxRecDepth 20000 in
theorem gX7_delegate_X1_add : GoodIn wsX7_delegate (wsV RX7 118 RX1 yX1_add wsX1_add) := goodIn_app (goodIn_of _ (by decide +kernel)) ggX7_delegate_X1_add
theorem dX7_delegate_0 : decode cX7_delegate 0 = .ok (.aload_n 0, 1) := by decide +kernel
theorem dX7_delegate_1 : decode cX7_delegate 1 = .ok (.iload_n 1, 1) := by decide +kernel
theorem dX7_delegate_2 : decode cX7_delegate 2 = .ok (.invokevirtual 86, 3) := by decide +kernel
theorem dX7_delegate_5 : decode cX7_delegate 5 = .ok (.astore 5, 2) := by decide +kernel
theorem dX7_delegate_7 : decode cX7_delegate 7 = .ok (.aload 5, 2) := by decide +kernel
theorem dX7_delegate_9 : decode cX7_delegate 9 = .ok (.ifnull 18, 3) := by decide +kernel
theorem dX7_delegate_12 : decode cX7_delegate 12 = .ok (.aload 5, 2) := by decide +kernel
theorem dX7_delegate_14 : decode cX7_delegate 14 = .ok (.invokevirtual 107, 3) := by decide +kernel
theorem dX7_delegate_17 : decode cX7_delegate 17 = .ok (.ifCond .eq 10, 3) := by decide +kernel
theorem dX7_delegate_20 : decode cX7_delegate 20 = .ok (.iload_n 2, 1) := by decide +kernel
theorem dX7_delegate_21 : decode cX7_delegate 21 = .ok (.invokestatic 111, 3) := by decide +kernel
theorem dX7_delegate_24 : decode cX7_delegate 24 = .ok (.ifCond .ne 5, 3) := by decide +kernel
theorem dX7_delegate_27 : decode cX7_delegate 27 = .ok (.iconst (-1), 1) := by decide +kernel
theorem dX7_delegate_28 : decode cX7_delegate 28 = .ok (.ireturn, 1) := by decide +kernel
theorem dX7_delegate_29 : decode cX7_delegate 29 = .ok (.iload_n 3, 1) := by decide +kernel
theorem dX7_delegate_30 : decode cX7_delegate 30 = .ok (.iconst 4, 1) := by decide +kernel
theorem dX7_delegate_31 : decode cX7_delegate 31 = .ok (.if_icmp .lt 9, 3) := by decide +kernel
theorem dX7_delegate_34 : decode cX7_delegate 34 = .ok (.iload_n 3, 1) := by decide +kernel
theorem dX7_delegate_35 : decode cX7_delegate 35 = .ok (.bipush 10, 2) := by decide +kernel
theorem dX7_delegate_37 : decode cX7_delegate 37 = .ok (.if_icmp .lt 5, 3) := by decide +kernel
theorem dX7_delegate_40 : decode cX7_delegate 40 = .ok (.iconst (-1), 1) := by decide +kernel
theorem dX7_delegate_41 : decode cX7_delegate 41 = .ok (.ireturn, 1) := by decide +kernel
theorem dX7_delegate_42 : decode cX7_delegate 42 = .ok (.aload 5, 2) := by decide +kernel
theorem dX7_delegate_44 : decode cX7_delegate 44 = .ok (.getfield 114, 3) := by decide +kernel
theorem dX7_delegate_47 : decode cX7_delegate 47 = .ok (.iload_n 2, 1) := by decide +kernel
theorem dX7_delegate_48 : decode cX7_delegate 48 = .ok (.iload_n 3, 1) := by decide +kernel
theorem dX7_delegate_49 : decode cX7_delegate 49 = .ok (.iload 4, 2) := by decide +kernel
theorem dX7_delegate_51 : decode cX7_delegate 51 = .ok (.invokevirtual 118, 3) := by decide +kernel
theorem dX7_delegate_54 : decode cX7_delegate 54 = .ok (.ireturn, 1) := by decide +kernel
set_option maxRecDepth 20000 in
theorem ggX7_lists_X7_openRow : GoodIn wsX7_lists wsX7_openRow := goodIn_r _ [5, 6, 7, 8, 4, 9, 10, 11, 12, 13, 14, 15, 16, 34, 35, 36, 37, 38, 39, 40, 41, 42, 43, 44, 45, 46, 47, 48, 49, 50, 51, 52, 53] (by decide +kernel) (by decide +kernel)
set_option maxRecDepth 20000 in
theorem gX7_lists_X7_openRow : GoodIn wsX7_lists (wsV RX7 86 RX7 yX7_openRow wsX7_openRow) := goodIn_app (goodIn_of _ (by decide +kernel)) ggX7_lists_X7_openRow
set_option maxRecDepth 20000 in
theorem ggX7_lists_X4_tellsOfPaths : GoodIn wsX7_lists wsX4_tellsOfPaths := goodIn_r _ [20, 21, 41, 42, 43, 44, 45, 46, 47, 48, 49, 50, 51, 52, 53] (by decide +kernel) (by decide +kernel)
set_option maxRecDepth 20000 in
theorem gX7_lists_X4_tellsOfPaths : GoodIn wsX7_lists (wsV RX7 107 RX4 yX4_tellsOfPaths wsX4_tellsOfPaths) := goodIn_app (goodIn_of _ (by decide +kernel)) ggX7_lists_X4_tellsOfPaths
set_option maxRecDepth 20000 in
theorem ggX7_lists_X7_partsOfPath : GoodIn wsX7_lists wsX7_partsOfPath := goodIn_r _ [24, 25, 26, 4, 27] (by decide +kernel) (by decide +kernel)
set_option maxRecDepth 20000 in
theorem gX7_lists_X7_partsOfPath : GoodIn wsX7_lists (va_wsS RX7 123 yX7_partsOfPath wsX7_partsOfPath) := goodIn_app (goodIn_of _ (by decide +kernel)) ggX7_lists_X7_partsOfPath
set_option maxRecDepth 20000 in
theorem ggX7_lists_X4_addPath : GoodIn wsX7_lists wsX4_addPath := goodIn_r _ [31, 32, 33, 41, 42, 43, 44, 45, 46, 47, 48, 49, 50, 51, 52, 53] (by decide +kernel) (by decide +kernel)
set_option maxRecDepth 20000 in
theorem gX7_lists_X4_addPath : GoodIn wsX7_lists (wsV RX7 126 RX4 yX4_addPath wsX4_addPath) := goodIn_app (goodIn_of _ (by decide +kernel)) ggX7_lists_X4_addPath
theorem dX7_lists_0 : decode cX7_lists 0 = .ok (.aload_n 0, 1) := by decide +kernel
theorem dX7_lists_1 : decode cX7_lists 1 = .ok (.iload_n 1, 1) := by decide +kernel
theorem dX7_lists_2 : decode cX7_lists 2 = .ok (.invokevirtual 86, 3) := by decide +kernel
theorem dX7_lists_5 : decode cX7_lists 5 = .ok (.astore_n 3, 1) := by decide +kernel
theorem dX7_lists_6 : decode cX7_lists 6 = .ok (.aload_n 3, 1) := by decide +kernel
theorem dX7_lists_7 : decode cX7_lists 7 = .ok (.ifnull 17, 3) := by decide +kernel
theorem dX7_lists_10 : decode cX7_lists 10 = .ok (.aload_n 3, 1) := by decide +kernel
theorem dX7_lists_11 : decode cX7_lists 11 = .ok (.invokevirtual 107, 3) := by decide +kernel
theorem dX7_lists_14 : decode cX7_lists 14 = .ok (.ifCond .eq 10, 3) := by decide +kernel
theorem dX7_lists_17 : decode cX7_lists 17 = .ok (.iload_n 2, 1) := by decide +kernel
theorem dX7_lists_18 : decode cX7_lists 18 = .ok (.invokestatic 123, 3) := by decide +kernel
theorem dX7_lists_21 : decode cX7_lists 21 = .ok (.ifCond .ne 5, 3) := by decide +kernel
theorem dX7_lists_24 : decode cX7_lists 24 = .ok (.iconst (-1), 1) := by decide +kernel
theorem dX7_lists_25 : decode cX7_lists 25 = .ok (.ireturn, 1) := by decide +kernel
theorem dX7_lists_26 : decode cX7_lists 26 = .ok (.aload_n 3, 1) := by decide +kernel
theorem dX7_lists_27 : decode cX7_lists 27 = .ok (.iload_n 2, 1) := by decide +kernel
theorem dX7_lists_28 : decode cX7_lists 28 = .ok (.invokevirtual 126, 3) := by decide +kernel
theorem dX7_lists_31 : decode cX7_lists 31 = .ok (.ireturn, 1) := by decide +kernel
set_option maxRecDepth 20000 in
theorem ggX7_sign_X7_rowAt : GoodIn wsX7_sign wsX7_rowAt := goodIn_r _ [6, 7, 143, 144, 145, 146, 147, 148, 149] (by decide +kernel) (by decide +kernel)
set_option maxRecDepth 20000 in
theorem gX7_sign_X7_rowAt : GoodIn wsX7_sign (wsV RX7 129 RX7 yX7_rowAt wsX7_rowAt) := goodIn_app (goodIn_of _ (by decide +kernel)) ggX7_sign_X7_rowAt
set_option maxRecDepth 20000 in
theorem ggX7_sign_X2_has : GoodIn wsX7_sign wsX2_has := goodIn_r _ [12, 13, 150, 151, 152] (by decide +kernel) (by decide +kernel)
set_option maxRecDepth 20000 in
theorem gX7_sign_X2_has : GoodIn wsX7_sign (wsV RX7 63 RX2 yX2_has wsX2_has) := goodIn_app (goodIn_of _ (by decide +kernel)) ggX7_sign_X2_has
set_option maxRecDepth 20000 in
theorem ggX7_sign_X4_isFullySigned : GoodIn wsX7_sign wsX4_isFullySigned := goodIn_r _ [18, 19, 153, 154, 155, 156, 157, 158, 159, 160, 161, 162, 163, 164, 165] (by decide +kernel) (by decide +kernel)
set_option maxRecDepth 20000 in
theorem gX7_sign_X4_isFullySigned : GoodIn wsX7_sign (wsV RX7 132 RX4 yX4_isFullySigned wsX4_isFullySigned) := goodIn_app (goodIn_of _ (by decide +kernel)) ggX7_sign_X4_isFullySigned
set_option maxRecDepth 20000 in
theorem ggX7_sign_X7_rightSignature : GoodIn wsX7_sign wsX7_rightSignature := goodIn_r _ [23, 24, 1, 25, 26, 27, 28, 29, 30, 31, 32, 33, 11, 34, 35, 36, 9, 10, 12, 13, 37, 38, 39, 40, 41, 42, 43, 44, 45, 46, 47, 48, 49, 50, 51, 52, 17, 53, 54, 55, 56, 57, 58, 59, 60, 61, 62, 63, 64, 65, 66, 67, 68, 69, 70, 71, 72, 73, 74, 75, 76, 77, 78, 79, 80, 81, 82, 83, 84, 85, 86, 87, 88, 89, 90, 91, 92, 93, 94, 95, 96, 97, 98, 99, 100, 101, 102, 103, 104, 105, 106, 107, 108, 109, 110, 111, 112, 113, 114, 115, 116, 117, 118, 119, 120, 121, 122, 123, 124, 125, 126, 127, 128, 129, 130, 131, 132, 133, 134, 135, 136, 137, 143, 144, 145, 146, 147, 148, 149, 166, 167, 168, 169, 150, 151, 152, 153, 154, 155, 156, 157, 158, 159, 160, 161, 162, 163, 164, 165, 170, 171, 172, 173, 174, 175, 176, 177, 178] (by decide +kernel) (by decide +kernel)
set_option maxRecDepth 20000 in
theorem gX7_sign_X7_rightSignature : GoodIn wsX7_sign (wsV RX7 135 RX7 yX7_rightSignature wsX7_rightSignature) := goodIn_app (goodIn_of _ (by decide +kernel)) ggX7_sign_X7_rightSignature
set_option maxRecDepth 20000 in
theorem ggX7_sign_X4_addSignature : GoodIn wsX7_sign wsX4_addSignature := goodIn_r _ [141, 19, 142, 153, 154, 155, 156, 157, 158, 159, 160, 161, 162, 163, 164, 165] (by decide +kernel) (by decide +kernel)
set_option maxRecDepth 20000 in
theorem gX7_sign_X4_addSignature : GoodIn wsX7_sign (wsV RX7 139 RX4 yX4_addSignature wsX4_addSignature) := goodIn_app (goodIn_of _ (by decide +kernel)) ggX7_sign_X4_addSignature
theorem dX7_sign_0 : decode cX7_sign 0 = .ok (.aload_n 0, 1) := by decide +kernel
theorem dX7_sign_1 : decode cX7_sign 1 = .ok (.iload_n 1, 1) := by decide +kernel
theorem dX7_sign_2 : decode cX7_sign 2 = .ok (.invokevirtual 129, 3) := by decide +kernel
theorem dX7_sign_5 : decode cX7_sign 5 = .ok (.astore_n 3, 1) := by decide +kernel
theorem dX7_sign_6 : decode cX7_sign 6 = .ok (.aload_n 3, 1) := by decide +kernel
theorem dX7_sign_7 : decode cX7_sign 7 = .ok (.ifnull 21, 3) := by decide +kernel
theorem dX7_sign_10 : decode cX7_sign 10 = .ok (.aload_n 0, 1) := by decide +kernel
theorem dX7_sign_11 : decode cX7_sign 11 = .ok (.getfield 12, 3) := by decide +kernel
theorem dX7_sign_14 : decode cX7_sign 14 = .ok (.iload_n 2, 1) := by decide +kernel
theorem dX7_sign_15 : decode cX7_sign 15 = .ok (.invokevirtual 63, 3) := by decide +kernel
theorem dX7_sign_18 : decode cX7_sign 18 = .ok (.ifCond .eq 10, 3) := by decide +kernel
theorem dX7_sign_21 : decode cX7_sign 21 = .ok (.aload_n 3, 1) := by decide +kernel
theorem dX7_sign_22 : decode cX7_sign 22 = .ok (.invokevirtual 132, 3) := by decide +kernel
theorem dX7_sign_25 : decode cX7_sign 25 = .ok (.ifCond .eq 5, 3) := by decide +kernel
theorem dX7_sign_28 : decode cX7_sign 28 = .ok (.lconst 0, 1) := by decide +kernel
theorem dX7_sign_29 : decode cX7_sign 29 = .ok (.lreturn, 1) := by decide +kernel
theorem dX7_sign_30 : decode cX7_sign 30 = .ok (.aload_n 0, 1) := by decide +kernel
theorem dX7_sign_31 : decode cX7_sign 31 = .ok (.aload_n 3, 1) := by decide +kernel
theorem dX7_sign_32 : decode cX7_sign 32 = .ok (.iload_n 2, 1) := by decide +kernel
theorem dX7_sign_33 : decode cX7_sign 33 = .ok (.invokevirtual 135, 3) := by decide +kernel
theorem dX7_sign_36 : decode cX7_sign 36 = .ok (.lstore 4, 2) := by decide +kernel
theorem dX7_sign_38 : decode cX7_sign 38 = .ok (.aload_n 3, 1) := by decide +kernel
theorem dX7_sign_39 : decode cX7_sign 39 = .ok (.iload_n 2, 1) := by decide +kernel
theorem dX7_sign_40 : decode cX7_sign 40 = .ok (.iconst 1, 1) := by decide +kernel
theorem dX7_sign_41 : decode cX7_sign 41 = .ok (.invokevirtual 139, 3) := by decide +kernel
theorem dX7_sign_44 : decode cX7_sign 44 = .ok (.lload 4, 2) := by decide +kernel
theorem dX7_sign_46 : decode cX7_sign 46 = .ok (.lreturn, 1) := by decide +kernel
set_option maxRecDepth 20000 in
theorem ggX7_forge_X7_rowAt : GoodIn wsX7_forge wsX7_rowAt := goodIn_r _ [6, 7, 143, 144, 145, 146, 147, 148, 149] (by decide +kernel) (by decide +kernel)
set_option maxRecDepth 20000 in
theorem gX7_forge_X7_rowAt : GoodIn wsX7_forge (wsV RX7 129 RX7 yX7_rowAt wsX7_rowAt) := goodIn_app (goodIn_of _ (by decide +kernel)) ggX7_forge_X7_rowAt
set_option maxRecDepth 20000 in
theorem ggX7_forge_X2_has : GoodIn wsX7_forge wsX2_has := goodIn_r _ [12, 13, 150, 151, 152] (by decide +kernel) (by decide +kernel)
set_option maxRecDepth 20000 in
theorem gX7_forge_X2_has : GoodIn wsX7_forge (wsV RX7 63 RX2 yX2_has wsX2_has) := goodIn_app (goodIn_of _ (by decide +kernel)) ggX7_forge_X2_has
set_option maxRecDepth 20000 in
theorem ggX7_forge_X4_isFullySigned : GoodIn wsX7_forge wsX4_isFullySigned := goodIn_r _ [18, 19, 153, 154, 155, 156, 157, 158, 159, 160, 161, 162, 163, 164, 165] (by decide +kernel) (by decide +kernel)
set_option maxRecDepth 20000 in
theorem gX7_forge_X4_isFullySigned : GoodIn wsX7_forge (wsV RX7 132 RX4 yX4_isFullySigned wsX4_isFullySigned) := goodIn_app (goodIn_of _ (by decide +kernel)) ggX7_forge_X4_isFullySigned
set_option maxRecDepth 20000 in
theorem ggX7_forge_X7_rightSignature : GoodIn wsX7_forge wsX7_rightSignature := goodIn_r _ [23, 24, 1, 25, 26, 27, 28, 29, 30, 31, 32, 33, 11, 34, 35, 36, 9, 10, 12, 13, 37, 38, 39, 40, 41, 42, 43, 44, 45, 46, 47, 48, 49, 50, 51, 52, 17, 53, 54, 55, 56, 57, 58, 59, 60, 61, 62, 63, 64, 65, 66, 67, 68, 69, 70, 71, 72, 73, 74, 75, 76, 77, 78, 79, 80, 81, 82, 83, 84, 85, 86, 87, 88, 89, 90, 91, 92, 93, 94, 95, 96, 97, 98, 99, 100, 101, 102, 103, 104, 105, 106, 107, 108, 109, 110, 111, 112, 113, 114, 115, 116, 117, 118, 119, 120, 121, 122, 123, 124, 125, 126, 127, 128, 129, 130, 131, 132, 133, 134, 135, 136, 137, 143, 144, 145, 146, 147, 148, 149, 166, 167, 168, 169, 150, 151, 152, 153, 154, 155, 156, 157, 158, 159, 160, 161, 162, 163, 164, 165, 170, 171, 172, 173, 174, 175, 176, 177, 178] (by decide +kernel) (by decide +kernel)
set_option maxRecDepth 20000 in
theorem gX7_forge_X7_rightSignature : GoodIn wsX7_forge (wsV RX7 135 RX7 yX7_rightSignature wsX7_rightSignature) := goodIn_app (goodIn_of _ (by decide +kernel)) ggX7_forge_X7_rightSignature
set_option maxRecDepth 20000 in
theorem ggX7_forge_X4_addSignature : GoodIn wsX7_forge wsX4_addSignature := goodIn_r _ [141, 19, 142, 153, 154, 155, 156, 157, 158, 159, 160, 161, 162, 163, 164, 165] (by decide +kernel) (by decide +kernel)
set_option maxRecDepth 20000 in
theorem gX7_forge_X4_addSignature : GoodIn wsX7_forge (wsV RX7 139 RX4 yX4_addSignature wsX4_addSignature) := goodIn_app (goodIn_of _ (by decide +kernel)) ggX7_forge_X4_addSignature
theorem dX7_forge_0 : decode cX7_forge 0 = .ok (.aload_n 0, 1) := by decide +kernel
theorem dX7_forge_1 : decode cX7_forge 1 = .ok (.iload_n 1, 1) := by decide +kernel
theorem dX7_forge_2 : decode cX7_forge 2 = .ok (.invokevirtual 129, 3) := by decide +kernel
theorem dX7_forge_5 : decode cX7_forge 5 = .ok (.astore 5, 2) := by decide +kernel
theorem dX7_forge_7 : decode cX7_forge 7 = .ok (.aload 5, 2) := by decide +kernel
theorem dX7_forge_9 : decode cX7_forge 9 = .ok (.ifnull 22, 3) := by decide +kernel
theorem dX7_forge_12 : decode cX7_forge 12 = .ok (.aload_n 0, 1) := by decide +kernel
theorem dX7_forge_13 : decode cX7_forge 13 = .ok (.getfield 12, 3) := by decide +kernel
theorem dX7_forge_16 : decode cX7_forge 16 = .ok (.iload_n 2, 1) := by decide +kernel
theorem dX7_forge_17 : decode cX7_forge 17 = .ok (.invokevirtual 63, 3) := by decide +kernel
theorem dX7_forge_20 : decode cX7_forge 20 = .ok (.ifCond .eq 11, 3) := by decide +kernel
theorem dX7_forge_23 : decode cX7_forge 23 = .ok (.aload 5, 2) := by decide +kernel
theorem dX7_forge_25 : decode cX7_forge 25 = .ok (.invokevirtual 132, 3) := by decide +kernel
theorem dX7_forge_28 : decode cX7_forge 28 = .ok (.ifCond .eq 5, 3) := by decide +kernel
theorem dX7_forge_31 : decode cX7_forge 31 = .ok (.iconst 0, 1) := by decide +kernel
theorem dX7_forge_32 : decode cX7_forge 32 = .ok (.ireturn, 1) := by decide +kernel
theorem dX7_forge_33 : decode cX7_forge 33 = .ok (.aload 5, 2) := by decide +kernel
theorem dX7_forge_35 : decode cX7_forge 35 = .ok (.iload_n 2, 1) := by decide +kernel
theorem dX7_forge_36 : decode cX7_forge 36 = .ok (.lload_n 3, 1) := by decide +kernel
theorem dX7_forge_37 : decode cX7_forge 37 = .ok (.aload_n 0, 1) := by decide +kernel
theorem dX7_forge_38 : decode cX7_forge 38 = .ok (.aload 5, 2) := by decide +kernel
theorem dX7_forge_40 : decode cX7_forge 40 = .ok (.iload_n 2, 1) := by decide +kernel
theorem dX7_forge_41 : decode cX7_forge 41 = .ok (.invokevirtual 135, 3) := by decide +kernel
theorem dX7_forge_44 : decode cX7_forge 44 = .ok (.lcmp, 1) := by decide +kernel
theorem dX7_forge_45 : decode cX7_forge 45 = .ok (.ifCond .ne 7, 3) := by decide +kernel
theorem dX7_forge_48 : decode cX7_forge 48 = .ok (.iconst 1, 1) := by decide +kernel
theorem dX7_forge_49 : decode cX7_forge 49 = .ok (.goto 4, 3) := by decide +kernel
theorem dX7_forge_52 : decode cX7_forge 52 = .ok (.iconst 0, 1) := by decide +kernel
theorem dX7_forge_53 : decode cX7_forge 53 = .ok (.invokevirtual 139, 3) := by decide +kernel
theorem dX7_forge_56 : decode cX7_forge 56 = .ok (.iconst 1, 1) := by decide +kernel
theorem dX7_forge_57 : decode cX7_forge 57 = .ok (.ireturn, 1) := by decide +kernel
set_option maxRecDepth 20000 in
theorem ggX7_verify_X7_rowAt : GoodIn wsX7_verify wsX7_rowAt := goodIn_r _ [5, 6, 85, 86, 87, 88, 89, 90, 91] (by decide +kernel) (by decide +kernel)
set_option maxRecDepth 20000 in
theorem gX7_verify_X7_rowAt : GoodIn wsX7_verify (wsV RX7 129 RX7 yX7_rowAt wsX7_rowAt) := goodIn_app (goodIn_of _ (by decide +kernel)) ggX7_verify_X7_rowAt
set_option maxRecDepth 20000 in
theorem ggX7_verify_X7_brokenRule : GoodIn wsX7_verify wsX7_brokenRule := goodIn_r _ [10, 11, 12, 13, 14, 15, 16, 17, 18, 19, 20, 21, 22, 23, 24, 25, 26, 27, 28, 29, 30, 31, 4, 32, 33, 34, 35, 36, 37, 38, 39, 40, 41, 42, 43, 44, 45, 46, 47, 48, 49, 50, 51, 52, 53, 54, 55, 56, 57, 58, 59, 60, 61, 62, 63, 64, 65, 66, 67, 68, 69, 70, 71, 72, 73, 74, 75, 76, 77, 78, 79, 80, 81, 82, 83, 84, 85, 86, 87, 88, 89, 90, 91, 92, 93, 94, 95, 96, 97, 98, 99, 100, 101, 102, 103, 104, 105, 106, 107, 108, 109, 110, 111, 112, 113, 114, 115] (by decide +kernel) (by decide +kernel)
set_option maxRecDepth 20000 in
theorem gX7_verify_X7_brokenRule : GoodIn wsX7_verify (wsV RX7 143 RX7 yX7_brokenRule wsX7_brokenRule) := goodIn_app (goodIn_of _ (by decide +kernel)) ggX7_verify_X7_brokenRule
theorem dX7_verify_0 : decode cX7_verify 0 = .ok (.aload_n 0, 1) := by decide +kernel
theorem dX7_verify_1 : decode cX7_verify 1 = .ok (.aload_n 0, 1) := by decide +kernel
theorem dX7_verify_2 : decode cX7_verify 2 = .ok (.iload_n 1, 1) := by decide +kernel
theorem dX7_verify_3 : decode cX7_verify 3 = .ok (.invokevirtual 129, 3) := by decide +kernel
theorem dX7_verify_6 : decode cX7_verify 6 = .ok (.lload_n 2, 1) := by decide +kernel
theorem dX7_verify_7 : decode cX7_verify 7 = .ok (.invokevirtual 143, 3) := by decide +kernel
theorem dX7_verify_10 : decode cX7_verify 10 = .ok (.istore 4, 2) := by decide +kernel
theorem dX7_verify_12 : decode cX7_verify 12 = .ok (.iload 4, 2) := by decide +kernel
theorem dX7_verify_14 : decode cX7_verify 14 = .ok (.ifCond .ne 7, 3) := by decide +kernel
theorem dX7_verify_17 : decode cX7_verify 17 = .ok (.iconst 1, 1) := by decide +kernel
theorem dX7_verify_18 : decode cX7_verify 18 = .ok (.goto 6, 3) := by decide +kernel
theorem dX7_verify_21 : decode cX7_verify 21 = .ok (.iload 4, 2) := by decide +kernel
theorem dX7_verify_23 : decode cX7_verify 23 = .ok (.ineg, 1) := by decide +kernel
theorem dX7_verify_24 : decode cX7_verify 24 = .ok (.ireturn, 1) := by decide +kernel
set_option maxRecDepth 20000 in
theorem ggX7_update_X7_rowAt : GoodIn wsX7_update wsX7_rowAt := goodIn_r _ [6, 7, 89, 90, 91, 92, 93, 94, 95] (by decide +kernel) (by decide +kernel)
set_option maxRecDepth 20000 in
theorem gX7_update_X7_rowAt : GoodIn wsX7_update (wsV RX7 129 RX7 yX7_rowAt wsX7_rowAt) := goodIn_app (goodIn_of _ (by decide +kernel)) ggX7_update_X7_rowAt
set_option maxRecDepth 20000 in
theorem ggX7_update_X7_brokenRule : GoodIn wsX7_update wsX7_brokenRule := goodIn_r _ [11, 1, 12, 13, 14, 15, 16, 17, 18, 19, 20, 21, 22, 23, 24, 25, 26, 27, 28, 29, 30, 31, 5, 32, 33, 34, 35, 36, 37, 38, 39, 40, 41, 42, 43, 44, 45, 46, 47, 48, 49, 50, 51, 52, 53, 54, 55, 56, 57, 58, 59, 60, 61, 62, 63, 64, 65, 66, 67, 68, 69, 70, 71, 72, 73, 74, 75, 76, 77, 78, 79, 80, 81, 82, 83, 84, 89, 90, 91, 92, 93, 94, 95, 96, 97, 98, 99, 100, 101, 102, 103, 104, 105, 106, 107, 108, 109, 110, 111, 112, 113, 114, 115, 116, 117, 118, 119] (by decide +kernel) (by decide +kernel)
set_option maxRecDepth 20000 in
theorem gX7_update_X7_brokenRule : GoodIn wsX7_update (wsV RX7 143 RX7 yX7_brokenRule wsX7_brokenRule) := goodIn_app (goodIn_of _ (by decide +kernel)) ggX7_update_X7_brokenRule
set_option maxRecDepth 20000 in
theorem ggX7_update_X0_take : GoodIn wsX7_update wsX0_take := goodIn_r _ [88, 30, 31, 5, 32, 102, 103, 104, 105, 106, 107, 108, 109, 110, 111, 112, 113, 114, 99, 100, 101] (by decide +kernel) (by decide +kernel)
set_option maxRecDepth 20000 in
theorem gX7_update_X0_take : GoodIn wsX7_update (wsV RX7 147 RX0 yX0_take wsX0_take) := goodIn_app (goodIn_of _ (by decide +kernel)) ggX7_update_X0_take
theorem dX7_update_0 : decode cX7_update 0 = .ok (.aload_n 0, 1) := by decide +kernel
theorem dX7_update_1 : decode cX7_update 1 = .ok (.iload_n 1, 1) := by decide +kernel
theorem dX7_update_2 : decode cX7_update 2 = .ok (.invokevirtual 129, 3) := by decide +kernel
theorem dX7_update_5 : decode cX7_update 5 = .ok (.astore 4, 2) := by decide +kernel
theorem dX7_update_7 : decode cX7_update 7 = .ok (.aload_n 0, 1) := by decide +kernel
theorem dX7_update_8 : decode cX7_update 8 = .ok (.aload 4, 2) := by decide +kernel
theorem dX7_update_10 : decode cX7_update 10 = .ok (.lload_n 2, 1) := by decide +kernel
