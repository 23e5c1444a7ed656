theorem dX5_readPair_23 : decode cX5_readPair 23 = .ok (.invokevirtual 49, 3) := by decide +kernel
theorem dX5_readPair_26 : decode cX5_readPair 26 = .ok (.istore_n 3, 1) := by decide +kernel
theorem dX5_readPair_27 : decode cX5_readPair 27 = .ok (.aload_n 1, 1) := by decide +kernel
theorem dX5_readPair_28 : decode cX5_readPair 28 = .ok (.getfield 53, 3) := by decide +kernel
theorem dX5_readPair_31 : decode cX5_readPair 31 = .ok (.iload_n 2, 1) := by decide +kernel
theorem dX5_readPair_32 : decode cX5_readPair 32 = .ok (.iload_n 3, 1) := by decide +kernel
theorem dX5_readPair_33 : decode cX5_readPair 33 = .ok (.iastore, 1) := by decide +kernel
theorem dX5_readPair_34 : decode cX5_readPair 34 = .ok (.iload_n 3, 1) := by decide +kernel
theorem dX5_readPair_35 : decode cX5_readPair 35 = .ok (.iconst (-1), 1) := by decide +kernel
theorem dX5_readPair_36 : decode cX5_readPair 36 = .ok (.if_icmp .eq 7, 3) := by decide +kernel
theorem dX5_readPair_39 : decode cX5_readPair 39 = .ok (.iconst 1, 1) := by decide +kernel
theorem dX5_readPair_40 : decode cX5_readPair 40 = .ok (.goto 4, 3) := by decide +kernel
theorem dX5_readPair_43 : decode cX5_readPair 43 = .ok (.iconst 0, 1) := by decide +kernel
theorem dX5_readPair_44 : decode cX5_readPair 44 = .ok (.ireturn, 1) := by decide +kernel
set_option maxRecDepth 20000 in
theorem ggX5_readFirst_X5_readNumber : GoodIn wsX5_readFirst wsX5_readNumber := goodIn_r _ [6, 7, 8, 9, 10, 11, 5, 12, 13, 19, 20, 21] (by decide +kernel) (by decide +kernel)
set_option maxRecDepth 20000 in
theorem gX5_readFirst_X5_readNumber : GoodIn wsX5_readFirst (wsV RX5 49 RX5 yX5_readNumber wsX5_readNumber) := goodIn_app (goodIn_of _ (by decide +kernel)) ggX5_readFirst_X5_readNumber
theorem dX5_readFirst_0 : decode cX5_readFirst 0 = .ok (.aload_n 0, 1) := by decide +kernel
theorem dX5_readFirst_1 : decode cX5_readFirst 1 = .ok (.bipush 48, 2) := by decide +kernel
theorem dX5_readFirst_3 : decode cX5_readFirst 3 = .ok (.invokevirtual 49, 3) := by decide +kernel
theorem dX5_readFirst_6 : decode cX5_readFirst 6 = .ok (.istore_n 3, 1) := by decide +kernel
theorem dX5_readFirst_7 : decode cX5_readFirst 7 = .ok (.aload_n 1, 1) := by decide +kernel
theorem dX5_readFirst_8 : decode cX5_readFirst 8 = .ok (.getfield 57, 3) := by decide +kernel
theorem dX5_readFirst_11 : decode cX5_readFirst 11 = .ok (.iload_n 2, 1) := by decide +kernel
theorem dX5_readFirst_12 : decode cX5_readFirst 12 = .ok (.iload_n 3, 1) := by decide +kernel
theorem dX5_readFirst_13 : decode cX5_readFirst 13 = .ok (.iastore, 1) := by decide +kernel
theorem dX5_readFirst_14 : decode cX5_readFirst 14 = .ok (.iload_n 3, 1) := by decide +kernel
theorem dX5_readFirst_15 : decode cX5_readFirst 15 = .ok (.iconst (-1), 1) := by decide +kernel
theorem dX5_readFirst_16 : decode cX5_readFirst 16 = .ok (.if_icmp .eq 7, 3) := by decide +kernel
theorem dX5_readFirst_19 : decode cX5_readFirst 19 = .ok (.iconst 1, 1) := by decide +kernel
theorem dX5_readFirst_20 : decode cX5_readFirst 20 = .ok (.goto 4, 3) := by decide +kernel
theorem dX5_readFirst_23 : decode cX5_readFirst 23 = .ok (.iconst 0, 1) := by decide +kernel
theorem dX5_readFirst_24 : decode cX5_readFirst 24 = .ok (.ireturn, 1) := by decide +kernel
set_option maxRecDepth 20000 in
theorem ggX5_readTimer_X5_accepts : GoodIn wsX5_readTimer wsX5_accepts := goodIn_r _ [6, 7, 8, 9, 23, 24, 25] (by decide +kernel) (by decide +kernel)
set_option maxRecDepth 20000 in
theorem gX5_readTimer_X5_accepts : GoodIn wsX5_readTimer (wsV RX5 31 RX5 yX5_accepts wsX5_accepts) := goodIn_app (goodIn_of _ (by decide +kernel)) ggX5_readTimer_X5_accepts
set_option maxRecDepth 20000 in
theorem ggX5_readTimer_X5_readNumber : GoodIn wsX5_readTimer wsX5_readNumber := goodIn_r _ [13, 9, 7, 14, 15, 16, 5, 17, 8, 23, 24, 25] (by decide +kernel) (by decide +kernel)
set_option maxRecDepth 20000 in
theorem gX5_readTimer_X5_readNumber : GoodIn wsX5_readTimer (wsV RX5 49 RX5 yX5_readNumber wsX5_readNumber) := goodIn_app (goodIn_of _ (by decide +kernel)) ggX5_readTimer_X5_readNumber
theorem dX5_readTimer_0 : decode cX5_readTimer 0 = .ok (.aload_n 0, 1) := by decide +kernel
theorem dX5_readTimer_1 : decode cX5_readTimer 1 = .ok (.bipush 47, 2) := by decide +kernel
theorem dX5_readTimer_3 : decode cX5_readTimer 3 = .ok (.invokevirtual 31, 3) := by decide +kernel
theorem dX5_readTimer_6 : decode cX5_readTimer 6 = .ok (.ifCond .ne 5, 3) := by decide +kernel
theorem dX5_readTimer_9 : decode cX5_readTimer 9 = .ok (.iconst 1, 1) := by decide +kernel
theorem dX5_readTimer_10 : decode cX5_readTimer 10 = .ok (.ireturn, 1) := by decide +kernel
theorem dX5_readTimer_11 : decode cX5_readTimer 11 = .ok (.aload_n 0, 1) := by decide +kernel
theorem dX5_readTimer_12 : decode cX5_readTimer 12 = .ok (.bipush 49, 2) := by decide +kernel
theorem dX5_readTimer_14 : decode cX5_readTimer 14 = .ok (.invokevirtual 49, 3) := by decide +kernel
theorem dX5_readTimer_17 : decode cX5_readTimer 17 = .ok (.istore_n 3, 1) := by decide +kernel
theorem dX5_readTimer_18 : decode cX5_readTimer 18 = .ok (.aload_n 1, 1) := by decide +kernel
theorem dX5_readTimer_19 : decode cX5_readTimer 19 = .ok (.getfield 60, 3) := by decide +kernel
theorem dX5_readTimer_22 : decode cX5_readTimer 22 = .ok (.iload_n 2, 1) := by decide +kernel
theorem dX5_readTimer_23 : decode cX5_readTimer 23 = .ok (.iload_n 3, 1) := by decide +kernel
theorem dX5_readTimer_24 : decode cX5_readTimer 24 = .ok (.iastore, 1) := by decide +kernel
theorem dX5_readTimer_25 : decode cX5_readTimer 25 = .ok (.iload_n 3, 1) := by decide +kernel
theorem dX5_readTimer_26 : decode cX5_readTimer 26 = .ok (.iconst (-1), 1) := by decide +kernel
theorem dX5_readTimer_27 : decode cX5_readTimer 27 = .ok (.if_icmp .eq 7, 3) := by decide +kernel
theorem dX5_readTimer_30 : decode cX5_readTimer 30 = .ok (.iconst 1, 1) := by decide +kernel
theorem dX5_readTimer_31 : decode cX5_readTimer 31 = .ok (.goto 4, 3) := by decide +kernel
theorem dX5_readTimer_34 : decode cX5_readTimer 34 = .ok (.iconst 0, 1) := by decide +kernel
theorem dX5_readTimer_35 : decode cX5_readTimer 35 = .ok (.ireturn, 1) := by decide +kernel
theorem dX5_accepts_0 : decode cX5_accepts 0 = .ok (.aload_n 0, 1) := by decide +kernel
theorem dX5_accepts_1 : decode cX5_accepts 1 = .ok (.getfield 15, 3) := by decide +kernel
theorem dX5_accepts_4 : decode cX5_accepts 4 = .ok (.aload_n 0, 1) := by decide +kernel
theorem dX5_accepts_5 : decode cX5_accepts 5 = .ok (.getfield 9, 3) := by decide +kernel
theorem dX5_accepts_8 : decode cX5_accepts 8 = .ok (.if_icmp .ge 16, 3) := by decide +kernel
theorem dX5_accepts_11 : decode cX5_accepts 11 = .ok (.aload_n 0, 1) := by decide +kernel
theorem dX5_accepts_12 : decode cX5_accepts 12 = .ok (.getfield 18, 3) := by decide +kernel
theorem dX5_accepts_15 : decode cX5_accepts 15 = .ok (.aload_n 0, 1) := by decide +kernel
theorem dX5_accepts_16 : decode cX5_accepts 16 = .ok (.getfield 15, 3) := by decide +kernel
theorem dX5_accepts_19 : decode cX5_accepts 19 = .ok (.caload, 1) := by decide +kernel
theorem dX5_accepts_20 : decode cX5_accepts 20 = .ok (.iload_n 1, 1) := by decide +kernel
theorem dX5_accepts_21 : decode cX5_accepts 21 = .ok (.if_icmp .eq 5, 3) := by decide +kernel
theorem dX5_accepts_24 : decode cX5_accepts 24 = .ok (.iconst 0, 1) := by decide +kernel
theorem dX5_accepts_25 : decode cX5_accepts 25 = .ok (.ireturn, 1) := by decide +kernel
theorem dX5_accepts_26 : decode cX5_accepts 26 = .ok (.aload_n 0, 1) := by decide +kernel
theorem dX5_accepts_27 : decode cX5_accepts 27 = .ok (.dup, 1) := by decide +kernel
theorem dX5_accepts_28 : decode cX5_accepts 28 = .ok (.getfield 15, 3) := by decide +kernel
theorem dX5_accepts_31 : decode cX5_accepts 31 = .ok (.iconst 1, 1) := by decide +kernel
theorem dX5_accepts_32 : decode cX5_accepts 32 = .ok (.iadd, 1) := by decide +kernel
theorem dX5_accepts_33 : decode cX5_accepts 33 = .ok (.putfield 15, 3) := by decide +kernel
theorem dX5_accepts_36 : decode cX5_accepts 36 = .ok (.iconst 1, 1) := by decide +kernel
theorem dX5_accepts_37 : decode cX5_accepts 37 = .ok (.ireturn, 1) := by decide +kernel
theorem dX5_isDigitAhead_0 : decode cX5_isDigitAhead 0 = .ok (.aload_n 0, 1) := by decide +kernel
theorem dX5_isDigitAhead_1 : decode cX5_isDigitAhead 1 = .ok (.getfield 15, 3) := by decide +kernel
theorem dX5_isDigitAhead_4 : decode cX5_isDigitAhead 4 = .ok (.aload_n 0, 1) := by decide +kernel
theorem dX5_isDigitAhead_5 : decode cX5_isDigitAhead 5 = .ok (.getfield 9, 3) := by decide +kernel
theorem dX5_isDigitAhead_8 : decode cX5_isDigitAhead 8 = .ok (.if_icmp .ge 34, 3) := by decide +kernel
theorem dX5_isDigitAhead_11 : decode cX5_isDigitAhead 11 = .ok (.aload_n 0, 1) := by decide +kernel
theorem dX5_isDigitAhead_12 : decode cX5_isDigitAhead 12 = .ok (.getfield 18, 3) := by decide +kernel
theorem dX5_isDigitAhead_15 : decode cX5_isDigitAhead 15 = .ok (.aload_n 0, 1) := by decide +kernel
theorem dX5_isDigitAhead_16 : decode cX5_isDigitAhead 16 = .ok (.getfield 15, 3) := by decide +kernel
theorem dX5_isDigitAhead_19 : decode cX5_isDigitAhead 19 = .ok (.caload, 1) := by decide +kernel
theorem dX5_isDigitAhead_20 : decode cX5_isDigitAhead 20 = .ok (.iload_n 1, 1) := by decide +kernel
theorem dX5_isDigitAhead_21 : decode cX5_isDigitAhead 21 = .ok (.if_icmp .lt 21, 3) := by decide +kernel
theorem dX5_isDigitAhead_24 : decode cX5_isDigitAhead 24 = .ok (.aload_n 0, 1) := by decide +kernel
theorem dX5_isDigitAhead_25 : decode cX5_isDigitAhead 25 = .ok (.getfield 18, 3) := by decide +kernel
theorem dX5_isDigitAhead_28 : decode cX5_isDigitAhead 28 = .ok (.aload_n 0, 1) := by decide +kernel
theorem dX5_isDigitAhead_29 : decode cX5_isDigitAhead 29 = .ok (.getfield 15, 3) := by decide +kernel
theorem dX5_isDigitAhead_32 : decode cX5_isDigitAhead 32 = .ok (.caload, 1) := by decide +kernel
theorem dX5_isDigitAhead_33 : decode cX5_isDigitAhead 33 = .ok (.bipush 57, 2) := by decide +kernel
theorem dX5_isDigitAhead_35 : decode cX5_isDigitAhead 35 = .ok (.if_icmp .gt 7, 3) := by decide +kernel
theorem dX5_isDigitAhead_38 : decode cX5_isDigitAhead 38 = .ok (.iconst 1, 1) := by decide +kernel
theorem dX5_isDigitAhead_39 : decode cX5_isDigitAhead 39 = .ok (.goto 4, 3) := by decide +kernel
theorem dX5_isDigitAhead_42 : decode cX5_isDigitAhead 42 = .ok (.iconst 0, 1) := by decide +kernel
theorem dX5_isDigitAhead_43 : decode cX5_isDigitAhead 43 = .ok (.ireturn, 1) := by decide +kernel
set_option maxRecDepth 20000 in
theorem ggX5_readNumber_X5_isDigitAhead : GoodIn wsX5_readNumber wsX5_isDigitAhead := goodIn_r _ [7, 2, 8, 1, 9, 10, 11] (by decide +kernel) (by decide +kernel)
set_option maxRecDepth 20000 in
theorem gX5_readNumber_X5_isDigitAhead : GoodIn wsX5_readNumber (wsV RX5 63 RX5 yX5_isDigitAhead wsX5_isDigitAhead) := goodIn_app (goodIn_of _ (by decide +kernel)) ggX5_readNumber_X5_isDigitAhead
theorem dX5_readNumber_0 : decode cX5_readNumber 0 = .ok (.aload_n 0, 1) := by decide +kernel
theorem dX5_readNumber_1 : decode cX5_readNumber 1 = .ok (.iload_n 1, 1) := by decide +kernel
theorem dX5_readNumber_2 : decode cX5_readNumber 2 = .ok (.invokevirtual 63, 3) := by decide +kernel
theorem dX5_readNumber_5 : decode cX5_readNumber 5 = .ok (.ifCond .ne 5, 3) := by decide +kernel
theorem dX5_readNumber_8 : decode cX5_readNumber 8 = .ok (.iconst (-1), 1) := by decide +kernel
theorem dX5_readNumber_9 : decode cX5_readNumber 9 = .ok (.ireturn, 1) := by decide +kernel
theorem dX5_readNumber_10 : decode cX5_readNumber 10 = .ok (.aload_n 0, 1) := by decide +kernel
theorem dX5_readNumber_11 : decode cX5_readNumber 11 = .ok (.getfield 18, 3) := by decide +kernel
theorem dX5_readNumber_14 : decode cX5_readNumber 14 = .ok (.aload_n 0, 1) := by decide +kernel
theorem dX5_readNumber_15 : decode cX5_readNumber 15 = .ok (.getfield 15, 3) := by decide +kernel
theorem dX5_readNumber_18 : decode cX5_readNumber 18 = .ok (.caload, 1) := by decide +kernel
theorem dX5_readNumber_19 : decode cX5_readNumber 19 = .ok (.bipush 48, 2) := by decide +kernel
theorem dX5_readNumber_21 : decode cX5_readNumber 21 = .ok (.isub, 1) := by decide +kernel
theorem dX5_readNumber_22 : decode cX5_readNumber 22 = .ok (.istore_n 2, 1) := by decide +kernel
theorem dX5_readNumber_23 : decode cX5_readNumber 23 = .ok (.aload_n 0, 1) := by decide +kernel
theorem dX5_readNumber_24 : decode cX5_readNumber 24 = .ok (.dup, 1) := by decide +kernel
theorem dX5_readNumber_25 : decode cX5_readNumber 25 = .ok (.getfield 15, 3) := by decide +kernel
theorem dX5_readNumber_28 : decode cX5_readNumber 28 = .ok (.iconst 1, 1) := by decide +kernel
theorem dX5_readNumber_29 : decode cX5_readNumber 29 = .ok (.iadd, 1) := by decide +kernel
theorem dX5_readNumber_30 : decode cX5_readNumber 30 = .ok (.putfield 15, 3) := by decide +kernel
theorem dX5_readNumber_33 : decode cX5_readNumber 33 = .ok (.iconst 1, 1) := by decide +kernel
theorem dX5_readNumber_34 : decode cX5_readNumber 34 = .ok (.istore_n 3, 1) := by decide +kernel
theorem dX5_readNumber_35 : decode cX5_readNumber 35 = .ok (.iload_n 3, 1) := by decide +kernel
theorem dX5_readNumber_36 : decode cX5_readNumber 36 = .ok (.iconst 4, 1) := by decide +kernel
theorem dX5_readNumber_37 : decode cX5_readNumber 37 = .ok (.if_icmp .ge 50, 3) := by decide +kernel
theorem dX5_readNumber_40 : decode cX5_readNumber 40 = .ok (.iload_n 2, 1) := by decide +kernel
theorem dX5_readNumber_41 : decode cX5_readNumber 41 = .ok (.ifCond .le 46, 3) := by decide +kernel
theorem dX5_readNumber_44 : decode cX5_readNumber 44 = .ok (.aload_n 0, 1) := by decide +kernel
theorem dX5_readNumber_45 : decode cX5_readNumber 45 = .ok (.bipush 48, 2) := by decide +kernel
theorem dX5_readNumber_47 : decode cX5_readNumber 47 = .ok (.invokevirtual 63, 3) := by decide +kernel
theorem dX5_readNumber_50 : decode cX5_readNumber 50 = .ok (.ifCond .eq 37, 3) := by decide +kernel
theorem dX5_readNumber_53 : decode cX5_readNumber 53 = .ok (.iload_n 2, 1) := by decide +kernel
theorem dX5_readNumber_54 : decode cX5_readNumber 54 = .ok (.bipush 10, 2) := by decide +kernel
theorem dX5_readNumber_56 : decode cX5_readNumber 56 = .ok (.imul, 1) := by decide +kernel
theorem dX5_readNumber_57 : decode cX5_readNumber 57 = .ok (.aload_n 0, 1) := by decide +kernel
theorem dX5_readNumber_58 : decode cX5_readNumber 58 = .ok (.getfield 18, 3) := by decide +kernel
theorem dX5_readNumber_61 : decode cX5_readNumber 61 = .ok (.aload_n 0, 1) := by decide +kernel
theorem dX5_readNumber_62 : decode cX5_readNumber 62 = .ok (.getfield 15, 3) := by decide +kernel
theorem dX5_readNumber_65 : decode cX5_readNumber 65 = .ok (.caload, 1) := by decide +kernel
theorem dX5_readNumber_66 : decode cX5_readNumber 66 = .ok (.iadd, 1) := by decide +kernel
theorem dX5_readNumber_67 : decode cX5_readNumber 67 = .ok (.bipush 48, 2) := by decide +kernel
theorem dX5_readNumber_69 : decode cX5_readNumber 69 = .ok (.isub, 1) := by decide +kernel
theorem dX5_readNumber_70 : decode cX5_readNumber 70 = .ok (.istore_n 2, 1) := by decide +kernel
theorem dX5_readNumber_71 : decode cX5_readNumber 71 = .ok (.aload_n 0, 1) := by decide +kernel
theorem dX5_readNumber_72 : decode cX5_readNumber 72 = .ok (.dup, 1) := by decide +kernel
theorem dX5_readNumber_73 : decode cX5_readNumber 73 = .ok (.getfield 15, 3) := by decide +kernel
theorem dX5_readNumber_76 : decode cX5_readNumber 76 = .ok (.iconst 1, 1) := by decide +kernel
theorem dX5_readNumber_77 : decode cX5_readNumber 77 = .ok (.iadd, 1) := by decide +kernel
theorem dX5_readNumber_78 : decode cX5_readNumber 78 = .ok (.putfield 15, 3) := by decide +kernel
theorem dX5_readNumber_81 : decode cX5_readNumber 81 = .ok (.iinc 3 1, 3) := by decide +kernel
theorem dX5_readNumber_84 : decode cX5_readNumber 84 = .ok (.goto (-49), 3) := by decide +kernel
theorem dX5_readNumber_87 : decode cX5_readNumber 87 = .ok (.iload_n 2, 1) := by decide +kernel
theorem dX5_readNumber_88 : decode cX5_readNumber 88 = .ok (.ireturn, 1) := by decide +kernel
set_option maxRecDepth 20000 in
theorem ggX6_init_X4_init : GoodIn wsX6_init wsX4_init := goodIn_r _ [24, 25, 2, 3, 26, 27, 28, 29, 30, 31, 32, 20, 21, 33, 34, 35, 36, 37, 38, 39, 40, 41, 42, 43, 44, 45, 46, 47, 48, 49, 50, 51, 52, 53, 54, 55, 56, 57, 58, 59, 60, 61, 62, 63, 64, 65, 66, 67, 68, 69, 70, 71, 72, 95, 96, 97, 98, 99, 100, 101, 102, 103, 104, 105, 106, 124, 125, 126, 127, 128, 129, 130, 131, 119, 120, 121, 122, 123, 132, 133, 134, 135, 136] (by decide +kernel) (by decide +kernel)
set_option maxRecDepth 20000 in
theorem gX6_init_X4_init_n9 : GoodIn wsX6_init (wsX4_init) := ggX6_init_X4_init
set_option maxRecDepth 20000 in
theorem ggX6_init_X1_init : GoodIn wsX6_init wsX1_init := goodIn_r _ [75, 76, 2, 3, 77, 78, 79, 5, 6, 23, 24, 25, 26, 27, 28, 29, 30, 31, 32, 20, 21, 33, 34, 35, 36, 37, 38, 39, 40, 41, 42, 43, 44, 45, 46, 47, 48, 49, 50, 51, 52, 53, 54, 55, 56, 57, 58, 59, 60, 61, 62, 63, 64, 65, 66, 67, 68, 69, 70, 71, 72, 114, 115, 95, 96, 97, 98, 99, 100, 101, 102, 103, 104, 105, 106, 124, 125, 126, 127, 128, 129, 130, 131, 119, 120, 121, 122, 123, 132, 133, 134, 135, 136] (by decide +kernel) (by decide +kernel)
set_option maxRecDepth 20000 in
theorem gX6_init_X1_init : GoodIn wsX6_init (wsX1_init) := ggX6_init_X1_init
set_option maxRecDepth 20000 in
theorem ggX6_init_X5_init : GoodIn wsX6_init wsX5_init := goodIn_r _ [81, 82, 2, 3, 83, 84, 85, 86, 116, 117, 118] (by decide +kernel) (by decide +kernel)
set_option maxRecDepth 20000 in
theorem gX6_init_X5_init_n35 : GoodIn wsX6_init (wsX5_init) := ggX6_init_X5_init
set_option maxRecDepth 20000 in
theorem ggX6_init_X3_init : GoodIn wsX6_init wsX3_init := goodIn_r _ [58, 59, 2, 3, 60, 26, 61, 62, 63, 64, 119, 120, 121, 122, 123] (by decide +kernel) (by decide +kernel)
set_option maxRecDepth 20000 in
theorem gX6_init_X3_init_n42 : GoodIn wsX6_init (wsX3_init) := ggX6_init_X3_init
set_option maxRecDepth 20000 in
theorem ggX6_init_X4_setUp : GoodIn wsX6_init wsX4_setUp := goodIn_r _ [90, 27, 91, 92, 93, 94, 95, 96, 97, 98, 99, 100, 101, 102, 103, 104, 105, 106] (by decide +kernel) (by decide +kernel)
set_option maxRecDepth 20000 in
theorem gX6_init_X4_setUp : GoodIn wsX6_init (wsV RX6 47 RX4 yX4_setUp wsX4_setUp) := goodIn_app (goodIn_of _ (by decide +kernel)) ggX6_init_X4_setUp
theorem dX6_init_0 : decode cX6_init 0 = .ok (.aload_n 0, 1) := by decide +kernel
theorem dX6_init_1 : decode cX6_init 1 = .ok (.invokespecial 1, 3) := by decide +kernel
theorem dX6_init_4 : decode cX6_init 4 = .ok (.aload_n 0, 1) := by decide +kernel
theorem dX6_init_5 : decode cX6_init 5 = .ok (.new 7, 3) := by decide +kernel
theorem dX6_init_8 : decode cX6_init 8 = .ok (.dup, 1) := by decide +kernel
theorem dX6_init_9 : decode cX6_init 9 = .ok (.invokespecial 9, 3) := by decide +kernel
theorem dX6_init_12 : decode cX6_init 12 = .ok (.putfield 10, 3) := by decide +kernel
theorem dX6_init_15 : decode cX6_init 15 = .ok (.aload_n 0, 1) := by decide +kernel
theorem dX6_init_16 : decode cX6_init 16 = .ok (.new 7, 3) := by decide +kernel
theorem dX6_init_19 : decode cX6_init 19 = .ok (.dup, 1) := by decide +kernel
theorem dX6_init_20 : decode cX6_init 20 = .ok (.invokespecial 9, 3) := by decide +kernel
theorem dX6_init_23 : decode cX6_init 23 = .ok (.putfield 16, 3) := by decide +kernel
theorem dX6_init_26 : decode cX6_init 26 = .ok (.aload_n 0, 1) := by decide +kernel
theorem dX6_init_27 : decode cX6_init 27 = .ok (.new 7, 3) := by decide +kernel
theorem dX6_init_30 : decode cX6_init 30 = .ok (.dup, 1) := by decide +kernel
theorem dX6_init_31 : decode cX6_init 31 = .ok (.invokespecial 9, 3) := by decide +kernel
theorem dX6_init_34 : decode cX6_init 34 = .ok (.putfield 19, 3) := by decide +kernel
theorem dX6_init_37 : decode cX6_init 37 = .ok (.aload_n 0, 1) := by decide +kernel
theorem dX6_init_38 : decode cX6_init 38 = .ok (.iconst 0, 1) := by decide +kernel
theorem dX6_init_39 : decode cX6_init 39 = .ok (.putfield 22, 3) := by decide +kernel
theorem dX6_init_42 : decode cX6_init 42 = .ok (.aload_n 0, 1) := by decide +kernel
theorem dX6_init_43 : decode cX6_init 43 = .ok (.new 26, 3) := by decide +kernel
theorem dX6_init_46 : decode cX6_init 46 = .ok (.dup, 1) := by decide +kernel
theorem dX6_init_47 : decode cX6_init 47 = .ok (.invokespecial 28, 3) := by decide +kernel
theorem dX6_init_50 : decode cX6_init 50 = .ok (.putfield 29, 3) := by decide +kernel
theorem dX6_init_53 : decode cX6_init 53 = .ok (.aload_n 0, 1) := by decide +kernel
theorem dX6_init_54 : decode cX6_init 54 = .ok (.new 33, 3) := by decide +kernel
theorem dX6_init_57 : decode cX6_init 57 = .ok (.dup, 1) := by decide +kernel
theorem dX6_init_58 : decode cX6_init 58 = .ok (.invokespecial 35, 3) := by decide +kernel
theorem dX6_init_61 : decode cX6_init 61 = .ok (.putfield 36, 3) := by decide +kernel
theorem dX6_init_64 : decode cX6_init 64 = .ok (.aload_n 0, 1) := by decide +kernel
theorem dX6_init_65 : decode cX6_init 65 = .ok (.new 40, 3) := by decide +kernel
theorem dX6_init_68 : decode cX6_init 68 = .ok (.dup, 1) := by decide +kernel
theorem dX6_init_69 : decode cX6_init 69 = .ok (.invokespecial 42, 3) := by decide +kernel
theorem dX6_init_72 : decode cX6_init 72 = .ok (.putfield 43, 3) := by decide +kernel
theorem dX6_init_75 : decode cX6_init 75 = .ok (.aload_n 0, 1) := by decide +kernel
theorem dX6_init_76 : decode cX6_init 76 = .ok (.getfield 10, 3) := by decide +kernel
theorem dX6_init_79 : decode cX6_init 79 = .ok (.invokevirtual 47, 3) := by decide +kernel
theorem dX6_init_82 : decode cX6_init 82 = .ok (.return_, 1) := by decide +kernel
set_option maxRecDepth 20000 in
theorem ggX6_battery_X1_add : GoodIn wsX6_battery wsX1_add := goodIn_r _ [10, 11, 12, 13, 14, 15, 9, 16, 17, 18, 19, 20, 21, 22, 23, 24, 25, 26, 27, 28, 29, 30, 31, 32, 33, 34, 35, 36, 37, 38, 39, 40, 41, 42, 43, 44, 45, 46, 47, 48, 49, 50, 51, 52, 53, 54, 55, 56, 57, 58, 59, 60, 61, 62, 63, 64, 65, 66, 67, 68, 69, 70, 71, 72, 73, 112, 113, 92, 93, 94, 95, 96, 97, 98, 99, 100, 101, 102, 103, 104, 105, 106, 107, 108, 109, 110, 111, 114, 115, 116, 117, 118, 119, 120, 121, 122, 123] (by decide +kernel) (by decide +kernel)
set_option maxRecDepth 20000 in
theorem gX6_battery_X1_add : GoodIn wsX6_battery (wsV RX6 60 RX1 yX1_add wsX1_add) := goodIn_app (goodIn_of _ (by decide +kernel)) ggX6_battery_X1_add
set_option maxRecDepth 20000 in
theorem ggX6_battery_X0_putEmpty : GoodIn wsX6_battery wsX0_putEmpty := goodIn_r _ [77, 78, 79, 80, 81, 82, 83, 84, 43, 44, 46, 47, 48, 49, 50, 51, 104, 105, 106, 107, 108, 109, 110, 111] (by decide +kernel) (by decide +kernel)
set_option maxRecDepth 20000 in
theorem gX6_battery_X0_putEmpty : GoodIn wsX6_battery (wsV RX6 64 RX0 yX0_putEmpty wsX0_putEmpty) := goodIn_app (goodIn_of _ (by decide +kernel)) ggX6_battery_X0_putEmpty
theorem dX6_battery_0 : decode cX6_battery 0 = .ok (.iload_n 1, 1) := by decide +kernel
theorem dX6_battery_1 : decode cX6_battery 1 = .ok (.iconst 1, 1) := by decide +kernel
theorem dX6_battery_2 : decode cX6_battery 2 = .ok (.if_icmp .lt 9, 3) := by decide +kernel
theorem dX6_battery_5 : decode cX6_battery 5 = .ok (.iload_n 1, 1) := by decide +kernel
theorem dX6_battery_6 : decode cX6_battery 6 = .ok (.bipush 6, 2) := by decide +kernel
theorem dX6_battery_8 : decode cX6_battery 8 = .ok (.if_icmp .le 6, 3) := by decide +kernel
theorem dX6_battery_11 : decode cX6_battery 11 = .ok (.bipush (-2), 2) := by decide +kernel
theorem dX6_battery_13 : decode cX6_battery 13 = .ok (.ireturn, 1) := by decide +kernel
theorem dX6_battery_14 : decode cX6_battery 14 = .ok (.aload_n 0, 1) := by decide +kernel
theorem dX6_battery_15 : decode cX6_battery 15 = .ok (.getfield 10, 3) := by decide +kernel
theorem dX6_battery_18 : decode cX6_battery 18 = .ok (.getfield 50, 3) := by decide +kernel
theorem dX6_battery_21 : decode cX6_battery 21 = .ok (.getfield 54, 3) := by decide +kernel
theorem dX6_battery_24 : decode cX6_battery 24 = .ok (.istore_n 2, 1) := by decide +kernel
theorem dX6_battery_25 : decode cX6_battery 25 = .ok (.aload_n 0, 1) := by decide +kernel
theorem dX6_battery_26 : decode cX6_battery 26 = .ok (.getfield 29, 3) := by decide +kernel
theorem dX6_battery_29 : decode cX6_battery 29 = .ok (.aload_n 0, 1) := by decide +kernel
theorem dX6_battery_30 : decode cX6_battery 30 = .ok (.getfield 10, 3) := by decide +kernel
theorem dX6_battery_33 : decode cX6_battery 33 = .ok (.invokevirtual 60, 3) := by decide +kernel
theorem dX6_battery_36 : decode cX6_battery 36 = .ok (.aload_n 0, 1) := by decide +kernel
theorem dX6_battery_37 : decode cX6_battery 37 = .ok (.getfield 10, 3) := by decide +kernel
theorem dX6_battery_40 : decode cX6_battery 40 = .ok (.getfield 50, 3) := by decide +kernel
theorem dX6_battery_43 : decode cX6_battery 43 = .ok (.iload_n 1, 1) := by decide +kernel
theorem dX6_battery_44 : decode cX6_battery 44 = .ok (.invokevirtual 64, 3) := by decide +kernel
theorem dX6_battery_47 : decode cX6_battery 47 = .ok (.aload_n 0, 1) := by decide +kernel
theorem dX6_battery_48 : decode cX6_battery 48 = .ok (.getfield 10, 3) := by decide +kernel
theorem dX6_battery_51 : decode cX6_battery 51 = .ok (.iconst 0, 1) := by decide +kernel
theorem dX6_battery_52 : decode cX6_battery 52 = .ok (.putfield 68, 3) := by decide +kernel
theorem dX6_battery_55 : decode cX6_battery 55 = .ok (.iload_n 2, 1) := by decide +kernel
theorem dX6_battery_56 : decode cX6_battery 56 = .ok (.ireturn, 1) := by decide +kernel
set_option maxRecDepth 20000 in
theorem ggX6_setCharge_X0_has : GoodIn wsX6_setCharge wsX0_has := goodIn_r _ [11, 12, 98, 99, 100, 101, 102, 103, 104, 105] (by decide +kernel) (by decide +kernel)
set_option maxRecDepth 20000 in
theorem gX6_setCharge_X0_has : GoodIn wsX6_setCharge (wsV RX6 71 RX0 yX0_has wsX0_has) := goodIn_app (goodIn_of _ (by decide +kernel)) ggX6_setCharge_X0_has
set_option maxRecDepth 20000 in
theorem ggX6_setCharge_X1_add : GoodIn wsX6_setCharge wsX1_add := goodIn_r _ [17, 18, 19, 20, 21, 22, 16, 23, 24, 25, 26, 27, 28, 29, 30, 31, 32, 33, 34, 35, 36, 37, 38, 39, 40, 41, 42, 43, 44, 45, 46, 47, 10, 48, 12, 49, 50, 51, 52, 53, 54, 55, 56, 57, 58, 59, 60, 61, 62, 63, 64, 65, 66, 67, 68, 69, 70, 71, 72, 73, 74, 75, 76, 77, 78, 106, 107, 86, 87, 88, 89, 90, 91, 92, 93, 94, 95, 96, 97, 98, 99, 100, 101, 102, 103, 104, 105, 108, 109, 110, 111, 112, 113, 114, 115, 116, 117] (by decide +kernel) (by decide +kernel)
set_option maxRecDepth 20000 in
theorem gX6_setCharge_X1_add : GoodIn wsX6_setCharge (wsV RX6 60 RX1 yX1_add wsX1_add) := goodIn_app (goodIn_of _ (by decide +kernel)) ggX6_setCharge_X1_add
theorem dX6_setCharge_0 : decode cX6_setCharge 0 = .ok (.aload_n 0, 1) := by decide +kernel
theorem dX6_setCharge_1 : decode cX6_setCharge 1 = .ok (.getfield 10, 3) := by decide +kernel
theorem dX6_setCharge_4 : decode cX6_setCharge 4 = .ok (.getfield 50, 3) := by decide +kernel
theorem dX6_setCharge_7 : decode cX6_setCharge 7 = .ok (.iload_n 1, 1) := by decide +kernel
theorem dX6_setCharge_8 : decode cX6_setCharge 8 = .ok (.invokevirtual 71, 3) := by decide +kernel
theorem dX6_setCharge_11 : decode cX6_setCharge 11 = .ok (.ifCond .ne 5, 3) := by decide +kernel
theorem dX6_setCharge_14 : decode cX6_setCharge 14 = .ok (.iconst (-1), 1) := by decide +kernel
theorem dX6_setCharge_15 : decode cX6_setCharge 15 = .ok (.ireturn, 1) := by decide +kernel
theorem dX6_setCharge_16 : decode cX6_setCharge 16 = .ok (.iload_n 2, 1) := by decide +kernel
theorem dX6_setCharge_17 : decode cX6_setCharge 17 = .ok (.ifCond .lt 16, 3) := by decide +kernel
theorem dX6_setCharge_20 : decode cX6_setCharge 20 = .ok (.iload_n 2, 1) := by decide +kernel
theorem dX6_setCharge_21 : decode cX6_setCharge 21 = .ok (.aload_n 0, 1) := by decide +kernel
theorem dX6_setCharge_22 : decode cX6_setCharge 22 = .ok (.getfield 10, 3) := by decide +kernel
theorem dX6_setCharge_25 : decode cX6_setCharge 25 = .ok (.getfield 75, 3) := by decide +kernel
theorem dX6_setCharge_28 : decode cX6_setCharge 28 = .ok (.iconst 0, 1) := by decide +kernel
theorem dX6_setCharge_29 : decode cX6_setCharge 29 = .ok (.iaload, 1) := by decide +kernel
theorem dX6_setCharge_30 : decode cX6_setCharge 30 = .ok (.if_icmp .le 6, 3) := by decide +kernel
theorem dX6_setCharge_33 : decode cX6_setCharge 33 = .ok (.bipush (-2), 2) := by decide +kernel
theorem dX6_setCharge_35 : decode cX6_setCharge 35 = .ok (.ireturn, 1) := by decide +kernel
theorem dX6_setCharge_36 : decode cX6_setCharge 36 = .ok (.aload_n 0, 1) := by decide +kernel
theorem dX6_setCharge_37 : decode cX6_setCharge 37 = .ok (.getfield 10, 3) := by decide +kernel
theorem dX6_setCharge_40 : decode cX6_setCharge 40 = .ok (.getfield 50, 3) := by decide +kernel
theorem dX6_setCharge_43 : decode cX6_setCharge 43 = .ok (.getfield 79, 3) := by decide +kernel
theorem dX6_setCharge_46 : decode cX6_setCharge 46 = .ok (.iload_n 1, 1) := by decide +kernel
theorem dX6_setCharge_47 : decode cX6_setCharge 47 = .ok (.iaload, 1) := by decide +kernel
theorem dX6_setCharge_48 : decode cX6_setCharge 48 = .ok (.istore_n 3, 1) := by decide +kernel
theorem dX6_setCharge_49 : decode cX6_setCharge 49 = .ok (.iload_n 3, 1) := by decide +kernel
theorem dX6_setCharge_50 : decode cX6_setCharge 50 = .ok (.iload_n 2, 1) := by decide +kernel
theorem dX6_setCharge_51 : decode cX6_setCharge 51 = .ok (.if_icmp .ne 21, 3) := by decide +kernel
theorem dX6_setCharge_54 : decode cX6_setCharge 54 = .ok (.aload_n 0, 1) := by decide +kernel
theorem dX6_setCharge_55 : decode cX6_setCharge 55 = .ok (.getfield 10, 3) := by decide +kernel
theorem dX6_setCharge_58 : decode cX6_setCharge 58 = .ok (.getfield 50, 3) := by decide +kernel
theorem dX6_setCharge_61 : decode cX6_setCharge 61 = .ok (.getfield 82, 3) := by decide +kernel
theorem dX6_setCharge_64 : decode cX6_setCharge 64 = .ok (.iload_n 1, 1) := by decide +kernel
theorem dX6_setCharge_65 : decode cX6_setCharge 65 = .ok (.iaload, 1) := by decide +kernel
theorem dX6_setCharge_66 : decode cX6_setCharge 66 = .ok (.ifCond .ne 6, 3) := by decide +kernel
theorem dX6_setCharge_69 : decode cX6_setCharge 69 = .ok (.bipush (-5), 2) := by decide +kernel
theorem dX6_setCharge_71 : decode cX6_setCharge 71 = .ok (.ireturn, 1) := by decide +kernel
theorem dX6_setCharge_72 : decode cX6_setCharge 72 = .ok (.aload_n 0, 1) := by decide +kernel
theorem dX6_setCharge_73 : decode cX6_setCharge 73 = .ok (.getfield 29, 3) := by decide +kernel
theorem dX6_setCharge_76 : decode cX6_setCharge 76 = .ok (.aload_n 0, 1) := by decide +kernel
theorem dX6_setCharge_77 : decode cX6_setCharge 77 = .ok (.getfield 10, 3) := by decide +kernel
theorem dX6_setCharge_80 : decode cX6_setCharge 80 = .ok (.invokevirtual 60, 3) := by decide +kernel
theorem dX6_setCharge_83 : decode cX6_setCharge 83 = .ok (.aload_n 0, 1) := by decide +kernel
theorem dX6_setCharge_84 : decode cX6_setCharge 84 = .ok (.getfield 10, 3) := by decide +kernel
theorem dX6_setCharge_87 : decode cX6_setCharge 87 = .ok (.getfield 50, 3) := by decide +kernel
theorem dX6_setCharge_90 : decode cX6_setCharge 90 = .ok (.getfield 79, 3) := by decide +kernel
theorem dX6_setCharge_93 : decode cX6_setCharge 93 = .ok (.iload_n 1, 1) := by decide +kernel
theorem dX6_setCharge_94 : decode cX6_setCharge 94 = .ok (.iload_n 2, 1) := by decide +kernel
theorem dX6_setCharge_95 : decode cX6_setCharge 95 = .ok (.iastore, 1) := by decide +kernel
theorem dX6_setCharge_96 : decode cX6_setCharge 96 = .ok (.aload_n 0, 1) := by decide +kernel
theorem dX6_setCharge_97 : decode cX6_setCharge 97 = .ok (.getfield 10, 3) := by decide +kernel
theorem dX6_setCharge_100 : decode cX6_setCharge 100 = .ok (.getfield 50, 3) := by decide +kernel
theorem dX6_setCharge_103 : decode cX6_setCharge 103 = .ok (.getfield 82, 3) := by decide +kernel
theorem dX6_setCharge_106 : decode cX6_setCharge 106 = .ok (.iload_n 1, 1) := by decide +kernel
theorem dX6_setCharge_107 : decode cX6_setCharge 107 = .ok (.iconst 0, 1) := by decide +kernel
theorem dX6_setCharge_108 : decode cX6_setCharge 108 = .ok (.iastore, 1) := by decide +kernel
theorem dX6_setCharge_109 : decode cX6_setCharge 109 = .ok (.iload_n 3, 1) := by decide +kernel
theorem dX6_setCharge_110 : decode cX6_setCharge 110 = .ok (.ireturn, 1) := by decide +kernel
set_option maxRecDepth 20000 in
theorem ggX6_use_X0_leastCharge : GoodIn wsX6_use wsX0_leastCharge := goodIn_r _ [9, 10, 11, 12, 13, 14, 15, 104, 105, 106, 107, 108, 109, 110, 111] (by decide +kernel) (by decide +kernel)
set_option maxRecDepth 20000 in
theorem gX6_use_X0_leastCharge : GoodIn wsX6_use (wsV RX6 85 RX0 yX0_leastCharge wsX0_leastCharge) := goodIn_app (goodIn_of _ (by decide +kernel)) ggX6_use_X0_leastCharge
set_option maxRecDepth 20000 in
theorem ggX6_use_X1_add : GoodIn wsX6_use wsX1_add := goodIn_r _ [20, 21, 22, 23, 24, 25, 19, 26, 27, 28, 29, 30, 31, 32, 33, 34, 35, 36, 37, 38, 39, 40, 41, 42, 43, 44, 45, 46, 47, 48, 49, 50, 8, 51, 11, 10, 52, 53, 54, 55, 56, 57, 58, 59, 60, 61, 62, 63, 64, 65, 66, 67, 68, 69, 70, 71, 72, 73, 74, 75, 76, 77, 78, 79, 80, 112, 113, 92, 93, 94, 95, 96, 97, 98, 99, 100, 101, 102, 103, 104, 105, 106, 107, 108, 109, 110, 111, 114, 115, 116, 117, 118, 119, 120, 121, 122, 123] (by decide +kernel) (by decide +kernel)
set_option maxRecDepth 20000 in
theorem gX6_use_X1_add : GoodIn wsX6_use (wsV RX6 60 RX1 yX1_add wsX1_add) := goodIn_app (goodIn_of _ (by decide +kernel)) ggX6_use_X1_add
set_option maxRecDepth 20000 in
theorem ggX6_use_X0_draw : GoodIn wsX6_use wsX0_draw := goodIn_r _ [84, 11, 10, 58, 104, 105, 106, 107, 108, 109, 110, 111] (by decide +kernel) (by decide +kernel)
set_option maxRecDepth 20000 in
theorem gX6_use_X0_draw : GoodIn wsX6_use (wsV RX6 89 RX0 yX0_draw wsX0_draw) := goodIn_app (goodIn_of _ (by decide +kernel)) ggX6_use_X0_draw
theorem dX6_use_0 : decode cX6_use 0 = .ok (.iload_n 1, 1) := by decide +kernel
theorem dX6_use_1 : decode cX6_use 1 = .ok (.iconst 1, 1) := by decide +kernel
theorem dX6_use_2 : decode cX6_use 2 = .ok (.if_icmp .lt 10, 3) := by decide +kernel
theorem dX6_use_5 : decode cX6_use 5 = .ok (.iload_n 1, 1) := by decide +kernel
theorem dX6_use_6 : decode cX6_use 6 = .ok (.sipush 5000, 3) := by decide +kernel
theorem dX6_use_9 : decode cX6_use 9 = .ok (.if_icmp .le 6, 3) := by decide +kernel
theorem dX6_use_12 : decode cX6_use 12 = .ok (.bipush (-2), 2) := by decide +kernel
theorem dX6_use_14 : decode cX6_use 14 = .ok (.ireturn, 1) := by decide +kernel
theorem dX6_use_15 : decode cX6_use 15 = .ok (.aload_n 0, 1) := by decide +kernel
theorem dX6_use_16 : decode cX6_use 16 = .ok (.getfield 10, 3) := by decide +kernel
theorem dX6_use_19 : decode cX6_use 19 = .ok (.getfield 68, 3) := by decide +kernel
theorem dX6_use_22 : decode cX6_use 22 = .ok (.iconst 1, 1) := by decide +kernel
theorem dX6_use_23 : decode cX6_use 23 = .ok (.if_icmp .eq 17, 3) := by decide +kernel
theorem dX6_use_26 : decode cX6_use 26 = .ok (.aload_n 0, 1) := by decide +kernel
theorem dX6_use_27 : decode cX6_use 27 = .ok (.getfield 10, 3) := by decide +kernel
theorem dX6_use_30 : decode cX6_use 30 = .ok (.getfield 50, 3) := by decide +kernel
theorem dX6_use_33 : decode cX6_use 33 = .ok (.invokevirtual 85, 3) := by decide +kernel
theorem dX6_use_36 : decode cX6_use 36 = .ok (.iload_n 1, 1) := by decide +kernel
theorem dX6_use_37 : decode cX6_use 37 = .ok (.if_icmp .ge 6, 3) := by decide +kernel
theorem dX6_use_40 : decode cX6_use 40 = .ok (.bipush (-4), 2) := by decide +kernel
theorem dX6_use_42 : decode cX6_use 42 = .ok (.ireturn, 1) := by decide +kernel
theorem dX6_use_43 : decode cX6_use 43 = .ok (.aload_n 0, 1) := by decide +kernel
theorem dX6_use_44 : decode cX6_use 44 = .ok (.getfield 29, 3) := by decide +kernel
theorem dX6_use_47 : decode cX6_use 47 = .ok (.aload_n 0, 1) := by decide +kernel
theorem dX6_use_48 : decode cX6_use 48 = .ok (.getfield 10, 3) := by decide +kernel
theorem dX6_use_51 : decode cX6_use 51 = .ok (.invokevirtual 60, 3) := by decide +kernel
theorem dX6_use_54 : decode cX6_use 54 = .ok (.aload_n 0, 1) := by decide +kernel
theorem dX6_use_55 : decode cX6_use 55 = .ok (.getfield 10, 3) := by decide +kernel
theorem dX6_use_58 : decode cX6_use 58 = .ok (.getfield 50, 3) := by decide +kernel
theorem dX6_use_61 : decode cX6_use 61 = .ok (.iload_n 1, 1) := by decide +kernel
theorem dX6_use_62 : decode cX6_use 62 = .ok (.invokevirtual 89, 3) := by decide +kernel
theorem dX6_use_65 : decode cX6_use 65 = .ok (.aload_n 0, 1) := by decide +kernel
theorem dX6_use_66 : decode cX6_use 66 = .ok (.getfield 10, 3) := by decide +kernel
theorem dX6_use_69 : decode cX6_use 69 = .ok (.getfield 50, 3) := by decide +kernel
theorem dX6_use_72 : decode cX6_use 72 = .ok (.invokevirtual 85, 3) := by decide +kernel
theorem dX6_use_75 : decode cX6_use 75 = .ok (.ireturn, 1) := by decide +kernel
set_option maxRecDepth 20000 in
theorem ggX6_set_X6_isSetting : GoodIn wsX6_set wsX6_isSetting := goodIn_r _ [9] (by decide +kernel) (by decide +kernel)
set_option maxRecDepth 20000 in
theorem gX6_set_X6_isSetting : GoodIn wsX6_set (va_wsS RX6 92 yX6_isSetting wsX6_isSetting) := goodIn_app (goodIn_of _ (by decide +kernel)) ggX6_set_X6_isSetting
set_option maxRecDepth 20000 in
theorem ggX6_set_X4_allows : GoodIn wsX6_set wsX4_allows := goodIn_r _ [14, 15, 16, 17, 18, 19, 20, 21, 22, 23, 24, 25, 26, 27, 97, 98, 99, 100, 101, 102, 103, 104, 105, 106, 107, 108, 109, 110, 111, 112, 113, 114, 115, 116] (by decide +kernel) (by decide +kernel)
set_option maxRecDepth 20000 in
theorem gX6_set_X4_allows : GoodIn wsX6_set (wsV RX6 101 RX4 yX4_allows wsX4_allows) := goodIn_app (goodIn_of _ (by decide +kernel)) ggX6_set_X4_allows
set_option maxRecDepth 20000 in
theorem ggX6_set_X1_add : GoodIn wsX6_set wsX1_add := goodIn_r _ [32, 33, 34, 35, 36, 37, 31, 38, 39, 40, 41, 13, 42, 16, 43, 44, 45, 46, 15, 47, 48, 49, 50, 51, 52, 53, 54, 55, 56, 57, 58, 59, 20, 60, 23, 22, 61, 62, 63, 64, 65, 66, 67, 68, 69, 70, 71, 72, 73, 74, 75, 76, 77, 78, 79, 80, 81, 82, 83, 84, 85, 86, 87, 88, 89, 117, 118, 97, 98, 99, 100, 101, 102, 103, 104, 105, 106, 107, 108, 109, 110, 111, 112, 113, 114, 115, 116, 119, 120, 121, 122, 123, 124, 125, 126, 127, 128] (by decide +kernel) (by decide +kernel)
set_option maxRecDepth 20000 in
theorem gX6_set_X1_add : GoodIn wsX6_set (wsV RX6 60 RX1 yX1_add wsX1_add) := goodIn_app (goodIn_of _ (by decide +kernel)) ggX6_set_X1_add
theorem dX6_set_0 : decode cX6_set 0 = .ok (.iload_n 1, 1) := by decide +kernel
theorem dX6_set_1 : decode cX6_set 1 = .ok (.invokestatic 92, 3) := by decide +kernel
theorem dX6_set_4 : decode cX6_set 4 = .ok (.ifCond .ne 5, 3) := by decide +kernel
theorem dX6_set_7 : decode cX6_set 7 = .ok (.iconst (-1), 1) := by decide +kernel
theorem dX6_set_8 : decode cX6_set 8 = .ok (.ireturn, 1) := by decide +kernel
theorem dX6_set_9 : decode cX6_set 9 = .ok (.iload_n 2, 1) := by decide +kernel
theorem dX6_set_10 : decode cX6_set 10 = .ok (.getstatic 95, 3) := by decide +kernel
theorem dX6_set_13 : decode cX6_set 13 = .ok (.iload_n 1, 1) := by decide +kernel
theorem dX6_set_14 : decode cX6_set 14 = .ok (.iaload, 1) := by decide +kernel
theorem dX6_set_15 : decode cX6_set 15 = .ok (.if_icmp .lt 12, 3) := by decide +kernel
theorem dX6_set_18 : decode cX6_set 18 = .ok (.iload_n 2, 1) := by decide +kernel
theorem dX6_set_19 : decode cX6_set 19 = .ok (.getstatic 98, 3) := by decide +kernel
theorem dX6_set_22 : decode cX6_set 22 = .ok (.iload_n 1, 1) := by decide +kernel
theorem dX6_set_23 : decode cX6_set 23 = .ok (.iaload, 1) := by decide +kernel
theorem dX6_set_24 : decode cX6_set 24 = .ok (.if_icmp .le 6, 3) := by decide +kernel
theorem dX6_set_27 : decode cX6_set 27 = .ok (.bipush (-2), 2) := by decide +kernel
theorem dX6_set_29 : decode cX6_set 29 = .ok (.ireturn, 1) := by decide +kernel
theorem dX6_set_30 : decode cX6_set 30 = .ok (.aload_n 0, 1) := by decide +kernel
theorem dX6_set_31 : decode cX6_set 31 = .ok (.getfield 10, 3) := by decide +kernel
theorem dX6_set_34 : decode cX6_set 34 = .ok (.iload_n 1, 1) := by decide +kernel
theorem dX6_set_35 : decode cX6_set 35 = .ok (.iload_n 2, 1) := by decide +kernel
theorem dX6_set_36 : decode cX6_set 36 = .ok (.invokevirtual 101, 3) := by decide +kernel
theorem dX6_set_39 : decode cX6_set 39 = .ok (.ifCond .ne 6, 3) := by decide +kernel
theorem dX6_set_42 : decode cX6_set 42 = .ok (.bipush (-4), 2) := by decide +kernel
theorem dX6_set_44 : decode cX6_set 44 = .ok (.ireturn, 1) := by decide +kernel
theorem dX6_set_45 : decode cX6_set 45 = .ok (.aload_n 0, 1) := by decide +kernel
theorem dX6_set_46 : decode cX6_set 46 = .ok (.getfield 10, 3) := by decide +kernel
theorem dX6_set_49 : decode cX6_set 49 = .ok (.getfield 75, 3) := by decide +kernel
theorem dX6_set_52 : decode cX6_set 52 = .ok (.iload_n 1, 1) := by decide +kernel
theorem dX6_set_53 : decode cX6_set 53 = .ok (.iaload, 1) := by decide +kernel
theorem dX6_set_54 : decode cX6_set 54 = .ok (.istore_n 3, 1) := by decide +kernel
theorem dX6_set_55 : decode cX6_set 55 = .ok (.iload_n 3, 1) := by decide +kernel
theorem dX6_set_56 : decode cX6_set 56 = .ok (.iload_n 2, 1) := by decide +kernel
theorem dX6_set_57 : decode cX6_set 57 = .ok (.if_icmp .ne 6, 3) := by decide +kernel
theorem dX6_set_60 : decode cX6_set 60 = .ok (.bipush (-5), 2) := by decide +kernel
theorem dX6_set_62 : decode cX6_set 62 = .ok (.ireturn, 1) := by decide +kernel
theorem dX6_set_63 : decode cX6_set 63 = .ok (.aload_n 0, 1) := by decide +kernel
theorem dX6_set_64 : decode cX6_set 64 = .ok (.getfield 29, 3) := by decide +kernel
theorem dX6_set_67 : decode cX6_set 67 = .ok (.aload_n 0, 1) := by decide +kernel
theorem dX6_set_68 : decode cX6_set 68 = .ok (.getfield 10, 3) := by decide +kernel
theorem dX6_set_71 : decode cX6_set 71 = .ok (.invokevirtual 60, 3) := by decide +kernel
theorem dX6_set_74 : decode cX6_set 74 = .ok (.aload_n 0, 1) := by decide +kernel
theorem dX6_set_75 : decode cX6_set 75 = .ok (.getfield 10, 3) := by decide +kernel
theorem dX6_set_78 : decode cX6_set 78 = .ok (.getfield 75, 3) := by decide +kernel
theorem dX6_set_81 : decode cX6_set 81 = .ok (.iload_n 1, 1) := by decide +kernel
theorem dX6_set_82 : decode cX6_set 82 = .ok (.iload_n 2, 1) := by decide +kernel
theorem dX6_set_83 : decode cX6_set 83 = .ok (.iastore, 1) := by decide +kernel
theorem dX6_set_84 : decode cX6_set 84 = .ok (.iload_n 3, 1) := by decide +kernel
theorem dX6_set_85 : decode cX6_set 85 = .ok (.sipush 1000, 3) := by decide +kernel
theorem dX6_set_88 : decode cX6_set 88 = .ok (.iadd, 1) := by decide +kernel
theorem dX6_set_89 : decode cX6_set 89 = .ok (.ireturn, 1) := by decide +kernel
set_option maxRecDepth 20000 in
theorem ggX6_readProfile_X5_readInto : GoodIn wsX6_readProfile wsX5_readInto := goodIn_r _ [13, 14, 15, 16, 17, 18, 19, 12, 20, 21, 22, 23, 24, 25, 26, 27, 28, 29, 30, 31, 32, 33, 34, 35, 36, 37, 38, 39, 40, 41, 42, 43, 44, 45, 46, 47, 48, 49, 50, 51, 52, 53, 54, 55, 56, 57, 58, 140, 141, 142, 155, 156, 157, 158, 159] (by decide +kernel) (by decide +kernel)
set_option maxRecDepth 20000 in
theorem gX6_readProfile_X5_readInto : GoodIn wsX6_readProfile (wsV RX6 105 RX5 yX5_readInto wsX5_readInto) := goodIn_app (goodIn_of _ (by decide +kernel)) ggX6_readProfile_X5_readInto
set_option maxRecDepth 20000 in
theorem ggX6_readProfile_X3_isInRange : GoodIn wsX6_readProfile wsX3_isInRange := goodIn_r _ [62, 31, 35, 63, 64, 65, 29, 66, 32, 33, 34, 67, 68, 69, 155, 156, 157, 158, 159] (by decide +kernel) (by decide +kernel)
set_option maxRecDepth 20000 in
theorem gX6_readProfile_X3_isInRange : GoodIn wsX6_readProfile (wsV RX6 112 RX3 yX3_isInRange wsX3_isInRange) := goodIn_app (goodIn_of _ (by decide +kernel)) ggX6_readProfile_X3_isInRange
set_option maxRecDepth 20000 in
theorem ggX6_readProfile_X1_add : GoodIn wsX6_readProfile wsX1_add := goodIn_r _ [74, 75, 76, 77, 78, 79, 73, 80, 81, 82, 83, 84, 85, 86, 87, 88, 89, 90, 91, 92, 93, 94, 95, 96, 97, 98, 99, 100, 101, 102, 103, 104, 105, 106, 107, 108, 109, 110, 111, 112, 113, 114, 115, 116, 117, 118, 29, 119, 31, 32, 120, 33, 34, 35, 121, 122, 123, 124, 125, 126, 127, 128, 129, 130, 131, 160, 161, 143, 144, 145, 146, 147, 148, 149, 150, 151, 152, 153, 154, 162, 163, 164, 165, 166, 167, 168, 169, 155, 156, 157, 158, 159, 170, 171, 172, 173, 174] (by decide +kernel) (by decide +kernel)
set_option maxRecDepth 20000 in
theorem gX6_readProfile_X1_add : GoodIn wsX6_readProfile (wsV RX6 60 RX1 yX1_add wsX1_add) := goodIn_app (goodIn_of _ (by decide +kernel)) ggX6_readProfile_X1_add
set_option maxRecDepth 20000 in
theorem ggX6_readProfile_X3_copyFrom : GoodIn wsX6_readProfile wsX3_copyFrom := goodIn_r _ [119, 31, 32, 120, 88, 89, 90, 33, 34, 35, 155, 156, 157, 158, 159] (by decide +kernel) (by decide +kernel)
set_option maxRecDepth 20000 in
theorem gX6_readProfile_X3_copyFrom : GoodIn wsX6_readProfile (wsV RX6 119 RX3 yX3_copyFrom wsX3_copyFrom) := goodIn_app (goodIn_of _ (by decide +kernel)) ggX6_readProfile_X3_copyFrom
theorem dX6_readProfile_0 : decode cX6_readProfile 0 = .ok (.aload_n 0, 1) := by decide +kernel
theorem dX6_readProfile_1 : decode cX6_readProfile 1 = .ok (.getfield 36, 3) := by decide +kernel
theorem dX6_readProfile_4 : decode cX6_readProfile 4 = .ok (.aload_n 0, 1) := by decide +kernel
theorem dX6_readProfile_5 : decode cX6_readProfile 5 = .ok (.getfield 43, 3) := by decide +kernel
theorem dX6_readProfile_8 : decode cX6_readProfile 8 = .ok (.invokevirtual 105, 3) := by decide +kernel
theorem dX6_readProfile_11 : decode cX6_readProfile 11 = .ok (.ifCond .ne 14, 3) := by decide +kernel
theorem dX6_readProfile_14 : decode cX6_readProfile 14 = .ok (.bipush (-100), 2) := by decide +kernel
theorem dX6_readProfile_16 : decode cX6_readProfile 16 = .ok (.aload_n 0, 1) := by decide +kernel
theorem dX6_readProfile_17 : decode cX6_readProfile 17 = .ok (.getfield 36, 3) := by decide +kernel
theorem dX6_readProfile_20 : decode cX6_readProfile 20 = .ok (.getfield 109, 3) := by decide +kernel
theorem dX6_readProfile_23 : decode cX6_readProfile 23 = .ok (.isub, 1) := by decide +kernel
theorem dX6_readProfile_24 : decode cX6_readProfile 24 = .ok (.ireturn, 1) := by decide +kernel
theorem dX6_readProfile_25 : decode cX6_readProfile 25 = .ok (.aload_n 0, 1) := by decide +kernel
theorem dX6_readProfile_26 : decode cX6_readProfile 26 = .ok (.getfield 43, 3) := by decide +kernel
theorem dX6_readProfile_29 : decode cX6_readProfile 29 = .ok (.invokevirtual 112, 3) := by decide +kernel
theorem dX6_readProfile_32 : decode cX6_readProfile 32 = .ok (.ifCond .ne 6, 3) := by decide +kernel
theorem dX6_readProfile_35 : decode cX6_readProfile 35 = .ok (.bipush (-2), 2) := by decide +kernel
theorem dX6_readProfile_37 : decode cX6_readProfile 37 = .ok (.ireturn, 1) := by decide +kernel
theorem dX6_readProfile_38 : decode cX6_readProfile 38 = .ok (.aload_n 0, 1) := by decide +kernel
theorem dX6_readProfile_39 : decode cX6_readProfile 39 = .ok (.getfield 10, 3) := by decide +kernel
theorem dX6_readProfile_42 : decode cX6_readProfile 42 = .ok (.getfield 68, 3) := by decide +kernel
theorem dX6_readProfile_45 : decode cX6_readProfile 45 = .ok (.iconst 1, 1) := by decide +kernel
theorem dX6_readProfile_46 : decode cX6_readProfile 46 = .ok (.if_icmp .ne 6, 3) := by decide +kernel
theorem dX6_readProfile_49 : decode cX6_readProfile 49 = .ok (.bipush (-4), 2) := by decide +kernel
theorem dX6_readProfile_51 : decode cX6_readProfile 51 = .ok (.ireturn, 1) := by decide +kernel
theorem dX6_readProfile_52 : decode cX6_readProfile 52 = .ok (.aload_n 0, 1) := by decide +kernel
theorem dX6_readProfile_53 : decode cX6_readProfile 53 = .ok (.getfield 29, 3) := by decide +kernel
theorem dX6_readProfile_56 : decode cX6_readProfile 56 = .ok (.aload_n 0, 1) := by decide +kernel
theorem dX6_readProfile_57 : decode cX6_readProfile 57 = .ok (.getfield 10, 3) := by decide +kernel
theorem dX6_readProfile_60 : decode cX6_readProfile 60 = .ok (.invokevirtual 60, 3) := by decide +kernel
theorem dX6_readProfile_63 : decode cX6_readProfile 63 = .ok (.aload_n 0, 1) := by decide +kernel
theorem dX6_readProfile_64 : decode cX6_readProfile 64 = .ok (.getfield 10, 3) := by decide +kernel
theorem dX6_readProfile_67 : decode cX6_readProfile 67 = .ok (.getfield 116, 3) := by decide +kernel
theorem dX6_readProfile_70 : decode cX6_readProfile 70 = .ok (.aload_n 0, 1) := by decide +kernel
theorem dX6_readProfile_71 : decode cX6_readProfile 71 = .ok (.getfield 43, 3) := by decide +kernel
theorem dX6_readProfile_74 : decode cX6_readProfile 74 = .ok (.invokevirtual 119, 3) := by decide +kernel
theorem dX6_readProfile_77 : decode cX6_readProfile 77 = .ok (.aload_n 0, 1) := by decide +kernel
theorem dX6_readProfile_78 : decode cX6_readProfile 78 = .ok (.getfield 10, 3) := by decide +kernel
theorem dX6_readProfile_81 : decode cX6_readProfile 81 = .ok (.getfield 116, 3) := by decide +kernel
theorem dX6_readProfile_84 : decode cX6_readProfile 84 = .ok (.getfield 123, 3) := by decide +kernel
theorem dX6_readProfile_87 : decode cX6_readProfile 87 = .ok (.ireturn, 1) := by decide +kernel
set_option maxRecDepth 20000 in
theorem ggX6_start_X1_add : GoodIn wsX6_start wsX1_add := goodIn_r _ [10, 11, 12, 13, 14, 15, 9, 16, 17, 18, 19, 20, 21, 22, 23, 24, 25, 26, 27, 28, 29, 30, 31, 32, 33, 34, 35, 36, 37, 38, 39, 40, 41, 42, 43, 44, 45, 46, 47, 48, 49, 50, 51, 52, 53, 54, 55, 56, 57, 58, 59, 60, 61, 62, 63, 64, 65, 66, 67, 68, 69, 70, 71, 72, 73, 110, 111, 93, 94, 95, 96, 97, 98, 99, 100, 101, 102, 103, 104, 112, 113, 114, 115, 116, 117, 118, 119, 105, 106, 107, 108, 109, 120, 121, 122, 123, 124] (by decide +kernel) (by decide +kernel)
set_option maxRecDepth 20000 in
theorem gX6_start_X1_add : GoodIn wsX6_start (wsV RX6 60 RX1 yX1_add wsX1_add) := goodIn_app (goodIn_of _ (by decide +kernel)) ggX6_start_X1_add
set_option maxRecDepth 20000 in
theorem ggX6_start_X4_beginCharging : GoodIn wsX6_start wsX4_beginCharging := goodIn_r _ [77, 30, 35, 78, 79, 80, 20, 81, 31, 32, 29, 33, 82, 83, 84, 66, 85, 70, 69, 72, 73, 68, 93, 94, 95, 96, 97, 98, 99, 100, 101, 102, 103, 104, 120, 121, 122, 123, 124] (by decide +kernel) (by decide +kernel)
set_option maxRecDepth 20000 in
theorem gX6_start_X4_beginCharging : GoodIn wsX6_start (wsV RX6 126 RX4 yX4_beginCharging wsX4_beginCharging) := goodIn_app (goodIn_of _ (by decide +kernel)) ggX6_start_X4_beginCharging
theorem dX6_start_0 : decode cX6_start 0 = .ok (.aload_n 0, 1) := by decide +kernel
theorem dX6_start_1 : decode cX6_start 1 = .ok (.getfield 10, 3) := by decide +kernel
theorem dX6_start_4 : decode cX6_start 4 = .ok (.getfield 68, 3) := by decide +kernel
theorem dX6_start_7 : decode cX6_start 7 = .ok (.iconst 1, 1) := by decide +kernel
theorem dX6_start_8 : decode cX6_start 8 = .ok (.if_icmp .eq 16, 3) := by decide +kernel
theorem dX6_start_11 : decode cX6_start 11 = .ok (.aload_n 0, 1) := by decide +kernel
theorem dX6_start_12 : decode cX6_start 12 = .ok (.getfield 10, 3) := by decide +kernel
theorem dX6_start_15 : decode cX6_start 15 = .ok (.getfield 116, 3) := by decide +kernel
theorem dX6_start_18 : decode cX6_start 18 = .ok (.getfield 123, 3) := by decide +kernel
theorem dX6_start_21 : decode cX6_start 21 = .ok (.ifCond .ne 6, 3) := by decide +kernel
theorem dX6_start_24 : decode cX6_start 24 = .ok (.bipush (-4), 2) := by decide +kernel
theorem dX6_start_26 : decode cX6_start 26 = .ok (.ireturn, 1) := by decide +kernel
theorem dX6_start_27 : decode cX6_start 27 = .ok (.aload_n 0, 1) := by decide +kernel
theorem dX6_start_28 : decode cX6_start 28 = .ok (.getfield 10, 3) := by decide +kernel
theorem dX6_start_31 : decode cX6_start 31 = .ok (.getfield 68, 3) := by decide +kernel
theorem dX6_start_34 : decode cX6_start 34 = .ok (.istore_n 1, 1) := by decide +kernel
theorem dX6_start_35 : decode cX6_start 35 = .ok (.aload_n 0, 1) := by decide +kernel
theorem dX6_start_36 : decode cX6_start 36 = .ok (.getfield 29, 3) := by decide +kernel
theorem dX6_start_39 : decode cX6_start 39 = .ok (.aload_n 0, 1) := by decide +kernel
theorem dX6_start_40 : decode cX6_start 40 = .ok (.getfield 10, 3) := by decide +kernel
theorem dX6_start_43 : decode cX6_start 43 = .ok (.invokevirtual 60, 3) := by decide +kernel
theorem dX6_start_46 : decode cX6_start 46 = .ok (.aload_n 0, 1) := by decide +kernel
theorem dX6_start_47 : decode cX6_start 47 = .ok (.getfield 10, 3) := by decide +kernel
theorem dX6_start_50 : decode cX6_start 50 = .ok (.invokevirtual 126, 3) := by decide +kernel
theorem dX6_start_53 : decode cX6_start 53 = .ok (.iload_n 1, 1) := by decide +kernel
theorem dX6_start_54 : decode cX6_start 54 = .ok (.ireturn, 1) := by decide +kernel
set_option maxRecDepth 20000 in
theorem ggX6_stop_X1_add : GoodIn wsX6_stop wsX1_add := goodIn_r _ [8, 9, 10, 11, 12, 13, 7, 14, 15, 16, 17, 18, 19, 20, 21, 22, 23, 24, 25, 26, 27, 28, 29, 30, 31, 32, 33, 34, 35, 36, 37, 38, 39, 40, 41, 42, 43, 44, 45, 46, 47, 48, 49, 50, 51, 52, 53, 54, 55, 56, 57, 58, 59, 60, 61, 62, 63, 64, 65, 66, 67, 68, 69, 70, 71, 91, 92, 79, 80, 81, 82, 83, 84, 85, 86, 87, 88, 89, 90, 93, 94, 95, 96, 97, 98, 99, 100, 101, 102, 103, 104, 105, 106, 107, 108, 109, 110] (by decide +kernel) (by decide +kernel)
set_option maxRecDepth 20000 in
theorem gX6_stop_X1_add : GoodIn wsX6_stop (wsV RX6 60 RX1 yX1_add wsX1_add) := goodIn_app (goodIn_of _ (by decide +kernel)) ggX6_stop_X1_add
theorem dX6_stop_0 : decode cX6_stop 0 = .ok (.aload_n 0, 1) := by decide +kernel
theorem dX6_stop_1 : decode cX6_stop 1 = .ok (.getfield 10, 3) := by decide +kernel
theorem dX6_stop_4 : decode cX6_stop 4 = .ok (.getfield 68, 3) := by decide +kernel
theorem dX6_stop_7 : decode cX6_stop 7 = .ok (.istore_n 1, 1) := by decide +kernel
theorem dX6_stop_8 : decode cX6_stop 8 = .ok (.iload_n 1, 1) := by decide +kernel
theorem dX6_stop_9 : decode cX6_stop 9 = .ok (.ifCond .ne 6, 3) := by decide +kernel
theorem dX6_stop_12 : decode cX6_stop 12 = .ok (.bipush (-5), 2) := by decide +kernel
theorem dX6_stop_14 : decode cX6_stop 14 = .ok (.ireturn, 1) := by decide +kernel
theorem dX6_stop_15 : decode cX6_stop 15 = .ok (.aload_n 0, 1) := by decide +kernel
theorem dX6_stop_16 : decode cX6_stop 16 = .ok (.getfield 29, 3) := by decide +kernel
theorem dX6_stop_19 : decode cX6_stop 19 = .ok (.aload_n 0, 1) := by decide +kernel
theorem dX6_stop_20 : decode cX6_stop 20 = .ok (.getfield 10, 3) := by decide +kernel
theorem dX6_stop_23 : decode cX6_stop 23 = .ok (.invokevirtual 60, 3) := by decide +kernel
theorem dX6_stop_26 : decode cX6_stop 26 = .ok (.aload_n 0, 1) := by decide +kernel
theorem dX6_stop_27 : decode cX6_stop 27 = .ok (.getfield 10, 3) := by decide +kernel
theorem dX6_stop_30 : decode cX6_stop 30 = .ok (.iconst 0, 1) := by decide +kernel
theorem dX6_stop_31 : decode cX6_stop 31 = .ok (.putfield 68, 3) := by decide +kernel
theorem dX6_stop_34 : decode cX6_stop 34 = .ok (.iload_n 1, 1) := by decide +kernel
theorem dX6_stop_35 : decode cX6_stop 35 = .ok (.ireturn, 1) := by decide +kernel
set_option maxRecDepth 20000 in
theorem ggX6_pass_X1_add : GoodIn wsX6_pass wsX1_add := goodIn_r _ [10, 11, 12, 13, 14, 15, 9, 16, 17, 18, 19, 20, 21, 22, 23, 24, 25, 26, 27, 28, 29, 30, 31, 32, 33, 34, 35, 36, 37, 38, 39, 40, 41, 42, 43, 44, 45, 46, 47, 48, 49, 50, 51, 52, 53, 54, 55, 56, 57, 58, 59, 60, 61, 62, 63, 64, 65, 66, 67, 68, 69, 70, 71, 72, 73, 190, 191, 178, 179, 180, 181, 182, 183, 184, 185, 186, 187, 188, 189, 192, 193, 194, 195, 196, 197, 198, 199, 200, 201, 202, 203, 204, 205, 206, 207, 208, 209] (by decide +kernel) (by decide +kernel)
set_option maxRecDepth 20000 in
theorem gX6_pass_X1_add : GoodIn wsX6_pass (wsV RX6 60 RX1 yX1_add wsX1_add) := goodIn_app (goodIn_of _ (by decide +kernel)) ggX6_pass_X1_add
set_option maxRecDepth 20000 in
theorem ggX6_pass_X4_passTicks : GoodIn wsX6_pass wsX4_passTicks := goodIn_r _ [77, 78, 79, 80, 20, 81, 30, 35, 22, 27, 33, 82, 83, 84, 85, 86, 87, 88, 89, 90, 91, 92, 29, 31, 34, 93, 94, 95, 66, 96, 70, 69, 72, 73, 68, 97, 98, 99, 100, 32, 37, 101, 102, 103, 104, 28, 105, 106, 107, 108, 109, 110, 55, 111, 57, 112, 113, 114, 115, 116, 117, 118, 119, 58, 60, 61, 120, 121, 122, 123, 124, 125, 126, 41, 127, 44, 43, 128, 129, 130, 131, 132, 133, 134, 135, 136, 137, 138, 139, 140, 141, 142, 143, 144, 46, 47, 48, 49, 145, 146, 147, 148, 149, 150, 151, 152, 36, 153, 154, 155, 156, 157, 158, 159, 160, 161, 162, 163, 164, 165, 166, 50, 167, 168, 169, 170, 178, 179, 180, 181, 182, 183, 184, 185, 186, 187, 188, 189, 205, 206, 207, 208, 209, 200, 201, 202, 203, 204, 192, 193, 194, 195, 196, 197, 198, 199] (by decide +kernel) (by decide +kernel)
set_option maxRecDepth 20000 in
theorem gX6_pass_X4_passTicks : GoodIn wsX6_pass (wsV RX6 133 RX4 yX4_passTicks wsX4_passTicks) := goodIn_app (goodIn_of _ (by decide +kernel)) ggX6_pass_X4_passTicks
theorem dX6_pass_0 : decode cX6_pass 0 = .ok (.iload_n 1, 1) := by decide +kernel
theorem dX6_pass_1 : decode cX6_pass 1 = .ok (.iconst 1, 1) := by decide +kernel
theorem dX6_pass_2 : decode cX6_pass 2 = .ok (.if_icmp .lt 10, 3) := by decide +kernel
theorem dX6_pass_5 : decode cX6_pass 5 = .ok (.iload_n 1, 1) := by decide +kernel
theorem dX6_pass_6 : decode cX6_pass 6 = .ok (.sipush 200, 3) := by decide +kernel
theorem dX6_pass_9 : decode cX6_pass 9 = .ok (.if_icmp .le 6, 3) := by decide +kernel
theorem dX6_pass_12 : decode cX6_pass 12 = .ok (.bipush (-2), 2) := by decide +kernel
theorem dX6_pass_14 : decode cX6_pass 14 = .ok (.ireturn, 1) := by decide +kernel
theorem dX6_pass_15 : decode cX6_pass 15 = .ok (.aload_n 0, 1) := by decide +kernel
theorem dX6_pass_16 : decode cX6_pass 16 = .ok (.getfield 10, 3) := by decide +kernel
theorem dX6_pass_19 : decode cX6_pass 19 = .ok (.getfield 129, 3) := by decide +kernel
theorem dX6_pass_22 : decode cX6_pass 22 = .ok (.iload_n 1, 1) := by decide +kernel
theorem dX6_pass_23 : decode cX6_pass 23 = .ok (.iadd, 1) := by decide +kernel
theorem dX6_pass_24 : decode cX6_pass 24 = .ok (.ldc 132, 2) := by decide +kernel
theorem dX6_pass_26 : decode cX6_pass 26 = .ok (.if_icmp .le 6, 3) := by decide +kernel
theorem dX6_pass_29 : decode cX6_pass 29 = .ok (.bipush (-3), 2) := by decide +kernel
theorem dX6_pass_31 : decode cX6_pass 31 = .ok (.ireturn, 1) := by decide +kernel
theorem dX6_pass_32 : decode cX6_pass 32 = .ok (.aload_n 0, 1) := by decide +kernel
theorem dX6_pass_33 : decode cX6_pass 33 = .ok (.getfield 29, 3) := by decide +kernel
theorem dX6_pass_36 : decode cX6_pass 36 = .ok (.aload_n 0, 1) := by decide +kernel
theorem dX6_pass_37 : decode cX6_pass 37 = .ok (.getfield 10, 3) := by decide +kernel
theorem dX6_pass_40 : decode cX6_pass 40 = .ok (.invokevirtual 60, 3) := by decide +kernel
theorem dX6_pass_43 : decode cX6_pass 43 = .ok (.aload_n 0, 1) := by decide +kernel
theorem dX6_pass_44 : decode cX6_pass 44 = .ok (.getfield 10, 3) := by decide +kernel
theorem dX6_pass_47 : decode cX6_pass 47 = .ok (.iload_n 1, 1) := by decide +kernel
theorem dX6_pass_48 : decode cX6_pass 48 = .ok (.invokevirtual 133, 3) := by decide +kernel
theorem dX6_pass_51 : decode cX6_pass 51 = .ok (.aload_n 0, 1) := by decide +kernel
theorem dX6_pass_52 : decode cX6_pass 52 = .ok (.getfield 10, 3) := by decide +kernel
theorem dX6_pass_55 : decode cX6_pass 55 = .ok (.getfield 68, 3) := by decide +kernel
theorem dX6_pass_58 : decode cX6_pass 58 = .ok (.ireturn, 1) := by decide +kernel
set_option maxRecDepth 20000 in
theorem ggX6_type_X5_add : GoodIn wsX6_type wsX5_add := goodIn_r _ [7, 8, 9, 17, 18, 19] (by decide +kernel) (by decide +kernel)
set_option maxRecDepth 20000 in
theorem gX6_type_X5_add : GoodIn wsX6_type (wsV RX6 139 RX5 yX5_add wsX5_add) := goodIn_app (goodIn_of _ (by decide +kernel)) ggX6_type_X5_add
theorem dX6_type_0 : decode cX6_type 0 = .ok (.aload_n 0, 1) := by decide +kernel
theorem dX6_type_1 : decode cX6_type 1 = .ok (.getfield 36, 3) := by decide +kernel
theorem dX6_type_4 : decode cX6_type 4 = .ok (.getfield 136, 3) := by decide +kernel
theorem dX6_type_7 : decode cX6_type 7 = .ok (.bipush 60, 2) := by decide +kernel
theorem dX6_type_9 : decode cX6_type 9 = .ok (.if_icmp .lt 6, 3) := by decide +kernel
theorem dX6_type_12 : decode cX6_type 12 = .ok (.bipush (-3), 2) := by decide +kernel
theorem dX6_type_14 : decode cX6_type 14 = .ok (.ireturn, 1) := by decide +kernel
theorem dX6_type_15 : decode cX6_type 15 = .ok (.aload_n 0, 1) := by decide +kernel
theorem dX6_type_16 : decode cX6_type 16 = .ok (.getfield 36, 3) := by decide +kernel
theorem dX6_type_19 : decode cX6_type 19 = .ok (.iload_n 1, 1) := by decide +kernel
theorem dX6_type_20 : decode cX6_type 20 = .ok (.invokevirtual 139, 3) := by decide +kernel
theorem dX6_type_23 : decode cX6_type 23 = .ok (.aload_n 0, 1) := by decide +kernel
theorem dX6_type_24 : decode cX6_type 24 = .ok (.getfield 36, 3) := by decide +kernel
theorem dX6_type_27 : decode cX6_type 27 = .ok (.getfield 136, 3) := by decide +kernel
theorem dX6_type_30 : decode cX6_type 30 = .ok (.ireturn, 1) := by decide +kernel
theorem dX6_clearText_0 : decode cX6_clearText 0 = .ok (.aload_n 0, 1) := by decide +kernel
theorem dX6_clearText_1 : decode cX6_clearText 1 = .ok (.getfield 36, 3) := by decide +kernel
theorem dX6_clearText_4 : decode cX6_clearText 4 = .ok (.getfield 136, 3) := by decide +kernel
theorem dX6_clearText_7 : decode cX6_clearText 7 = .ok (.istore_n 1, 1) := by decide +kernel
theorem dX6_clearText_8 : decode cX6_clearText 8 = .ok (.aload_n 0, 1) := by decide +kernel
theorem dX6_clearText_9 : decode cX6_clearText 9 = .ok (.getfield 36, 3) := by decide +kernel
theorem dX6_clearText_12 : decode cX6_clearText 12 = .ok (.iconst 0, 1) := by decide +kernel
theorem dX6_clearText_13 : decode cX6_clearText 13 = .ok (.putfield 136, 3) := by decide +kernel
theorem dX6_clearText_16 : decode cX6_clearText 16 = .ok (.iload_n 1, 1) := by decide +kernel
theorem dX6_clearText_17 : decode cX6_clearText 17 = .ok (.ireturn, 1) := by decide +kernel
set_option maxRecDepth 20000 in
theorem ggX6_undo_X1_takeInto : GoodIn wsX6_undo wsX1_takeInto := goodIn_r _ [8, 9, 10, 11, 12, 13, 14, 15, 16, 17, 18, 19, 20, 21, 22, 23, 24, 25, 26, 27, 28, 29, 30, 31, 32, 33, 34, 35, 36, 37, 38, 39, 40, 41, 42, 43, 44, 45, 46, 47, 48, 49, 50, 51, 52, 53, 54, 55, 56, 57, 58, 59, 60, 61, 62, 63, 64, 65, 66, 67, 75, 76, 77, 78, 79, 80, 81, 82, 83, 84, 85, 86, 87, 88, 89, 90, 91, 92, 93, 94, 95, 96, 97, 98, 99, 100, 101, 102, 103, 104, 105, 106] (by decide +kernel) (by decide +kernel)
set_option maxRecDepth 20000 in
theorem gX6_undo_X1_takeInto : GoodIn wsX6_undo (wsV RX6 145 RX1 yX1_takeInto wsX1_takeInto) := goodIn_app (goodIn_of _ (by decide +kernel)) ggX6_undo_X1_takeInto
theorem dX6_undo_0 : decode cX6_undo 0 = .ok (.aload_n 0, 1) := by decide +kernel
theorem dX6_undo_1 : decode cX6_undo 1 = .ok (.getfield 29, 3) := by decide +kernel
theorem dX6_undo_4 : decode cX6_undo 4 = .ok (.getfield 142, 3) := by decide +kernel
theorem dX6_undo_7 : decode cX6_undo 7 = .ok (.ifCond .ne 6, 3) := by decide +kernel
theorem dX6_undo_10 : decode cX6_undo 10 = .ok (.bipush (-5), 2) := by decide +kernel
theorem dX6_undo_12 : decode cX6_undo 12 = .ok (.ireturn, 1) := by decide +kernel
theorem dX6_undo_13 : decode cX6_undo 13 = .ok (.aload_n 0, 1) := by decide +kernel
theorem dX6_undo_14 : decode cX6_undo 14 = .ok (.getfield 29, 3) := by decide +kernel
theorem dX6_undo_17 : decode cX6_undo 17 = .ok (.aload_n 0, 1) := by decide +kernel
theorem dX6_undo_18 : decode cX6_undo 18 = .ok (.getfield 10, 3) := by decide +kernel
theorem dX6_undo_21 : decode cX6_undo 21 = .ok (.invokevirtual 145, 3) := by decide +kernel
theorem dX6_undo_24 : decode cX6_undo 24 = .ok (.aload_n 0, 1) := by decide +kernel
theorem dX6_undo_25 : decode cX6_undo 25 = .ok (.getfield 29, 3) := by decide +kernel
theorem dX6_undo_28 : decode cX6_undo 28 = .ok (.getfield 142, 3) := by decide +kernel
theorem dX6_undo_31 : decode cX6_undo 31 = .ok (.ireturn, 1) := by decide +kernel
set_option maxRecDepth 20000 in
theorem ggX6_keep_X4_copyFrom : GoodIn wsX6_keep wsX4_copyFrom := goodIn_r _ [9, 10, 11, 12, 13, 14, 15, 16, 17, 18, 19, 20, 21, 22, 23, 24, 25, 26, 27, 28, 29, 30, 31, 32, 33, 34, 35, 36, 37, 38, 39, 40, 41, 42, 43, 44, 45, 46, 47, 48, 49, 50, 51, 52, 53, 54, 55, 56, 57, 58, 59, 60, 61, 69, 70, 71, 72, 73, 74, 75, 76, 77, 78, 79, 80, 81, 82, 83, 84, 85, 86, 87, 88, 89, 90, 91, 92, 93, 94, 95, 96, 97, 98] (by decide +kernel) (by decide +kernel)
set_option maxRecDepth 20000 in
theorem gX6_keep_X4_copyFrom : GoodIn wsX6_keep (wsV RX6 148 RX4 yX4_copyFrom wsX4_copyFrom) := goodIn_app (goodIn_of _ (by decide +kernel)) ggX6_keep_X4_copyFrom
theorem dX6_keep_0 : decode cX6_keep 0 = .ok (.aload_n 0, 1) := by decide +kernel
theorem dX6_keep_1 : decode cX6_keep 1 = .ok (.getfield 19, 3) := by decide +kernel
theorem dX6_keep_4 : decode cX6_keep 4 = .ok (.aload_n 0, 1) := by decide +kernel
theorem dX6_keep_5 : decode cX6_keep 5 = .ok (.getfield 10, 3) := by decide +kernel
theorem dX6_keep_8 : decode cX6_keep 8 = .ok (.invokevirtual 148, 3) := by decide +kernel
theorem dX6_keep_11 : decode cX6_keep 11 = .ok (.aload_n 0, 1) := by decide +kernel
theorem dX6_keep_12 : decode cX6_keep 12 = .ok (.iconst 1, 1) := by decide +kernel
theorem dX6_keep_13 : decode cX6_keep 13 = .ok (.putfield 22, 3) := by decide +kernel
theorem dX6_keep_16 : decode cX6_keep 16 = .ok (.aload_n 0, 1) := by decide +kernel
theorem dX6_keep_17 : decode cX6_keep 17 = .ok (.getfield 10, 3) := by decide +kernel
theorem dX6_keep_20 : decode cX6_keep 20 = .ok (.getfield 129, 3) := by decide +kernel
theorem dX6_keep_23 : decode cX6_keep 23 = .ok (.ireturn, 1) := by decide +kernel
set_option maxRecDepth 20000 in
theorem ggX6_restore_X1_add : GoodIn wsX6_restore wsX1_add := goodIn_r _ [10, 11, 12, 13, 14, 15, 9, 16, 17, 18, 19, 20, 21, 22, 23, 24, 25, 26, 27, 28, 29, 30, 31, 32, 33, 34, 35, 36, 37, 38, 39, 40, 41, 42, 43, 44, 45, 46, 47, 48, 49, 50, 51, 52, 53, 54, 55, 56, 57, 58, 59, 60, 61, 62, 63, 64, 65, 66, 67, 68, 69, 70, 71, 72, 73, 94, 95, 82, 83, 84, 85, 86, 87, 88, 89, 90, 91, 92, 93, 96, 97, 98, 99, 100, 101, 102, 103, 104, 105, 106, 107, 108, 109, 110, 111, 112, 113] (by decide +kernel) (by decide +kernel)
set_option maxRecDepth 20000 in
theorem gX6_restore_X1_add : GoodIn wsX6_restore (wsV RX6 60 RX1 yX1_add wsX1_add) := goodIn_app (goodIn_of _ (by decide +kernel)) ggX6_restore_X1_add
set_option maxRecDepth 20000 in
theorem ggX6_restore_X4_copyFrom : GoodIn wsX6_restore wsX4_copyFrom := goodIn_r _ [21, 22, 23, 24, 25, 26, 27, 28, 29, 30, 31, 32, 33, 34, 35, 36, 37, 38, 39, 40, 41, 42, 43, 44, 45, 46, 47, 48, 49, 50, 51, 52, 53, 54, 55, 56, 57, 58, 59, 60, 61, 62, 63, 64, 65, 66, 67, 68, 69, 70, 71, 72, 73, 82, 83, 84, 85, 86, 87, 88, 89, 90, 91, 92, 93, 96, 97, 98, 99, 100, 101, 102, 103, 104, 105, 106, 107, 108, 109, 110, 111, 112, 113] (by decide +kernel) (by decide +kernel)
set_option maxRecDepth 20000 in
theorem gX6_restore_X4_copyFrom : GoodIn wsX6_restore (wsV RX6 148 RX4 yX4_copyFrom wsX4_copyFrom) := goodIn_app (goodIn_of _ (by decide +kernel)) ggX6_restore_X4_copyFrom
theorem dX6_restore_0 : decode cX6_restore 0 = .ok (.aload_n 0, 1) := by decide +kernel
theorem dX6_restore_1 : decode cX6_restore 1 = .ok (.getfield 22, 3) := by decide +kernel
theorem dX6_restore_4 : decode cX6_restore 4 = .ok (.ifCond .ne 6, 3) := by decide +kernel
theorem dX6_restore_7 : decode cX6_restore 7 = .ok (.bipush (-5), 2) := by decide +kernel
theorem dX6_restore_9 : decode cX6_restore 9 = .ok (.ireturn, 1) := by decide +kernel
theorem dX6_restore_10 : decode cX6_restore 10 = .ok (.aload_n 0, 1) := by decide +kernel
theorem dX6_restore_11 : decode cX6_restore 11 = .ok (.getfield 29, 3) := by decide +kernel
theorem dX6_restore_14 : decode cX6_restore 14 = .ok (.aload_n 0, 1) := by decide +kernel
theorem dX6_restore_15 : decode cX6_restore 15 = .ok (.getfield 10, 3) := by decide +kernel
theorem dX6_restore_18 : decode cX6_restore 18 = .ok (.invokevirtual 60, 3) := by decide +kernel
theorem dX6_restore_21 : decode cX6_restore 21 = .ok (.aload_n 0, 1) := by decide +kernel
theorem dX6_restore_22 : decode cX6_restore 22 = .ok (.getfield 10, 3) := by decide +kernel
theorem dX6_restore_25 : decode cX6_restore 25 = .ok (.aload_n 0, 1) := by decide +kernel
theorem dX6_restore_26 : decode cX6_restore 26 = .ok (.getfield 19, 3) := by decide +kernel
theorem dX6_restore_29 : decode cX6_restore 29 = .ok (.invokevirtual 148, 3) := by decide +kernel
theorem dX6_restore_32 : decode cX6_restore 32 = .ok (.aload_n 0, 1) := by decide +kernel
theorem dX6_restore_33 : decode cX6_restore 33 = .ok (.getfield 10, 3) := by decide +kernel
theorem dX6_restore_36 : decode cX6_restore 36 = .ok (.getfield 129, 3) := by decide +kernel
theorem dX6_restore_39 : decode cX6_restore 39 = .ok (.ireturn, 1) := by decide +kernel
set_option maxRecDepth 20000 in
theorem ggX6_cell_X0_has : GoodIn wsX6_cell wsX0_has := goodIn_r _ [15, 16, 40, 41, 42, 43, 44, 45, 46, 47] (by decide +kernel) (by decide +kernel)
set_option maxRecDepth 20000 in
theorem gX6_cell_X0_has : GoodIn wsX6_cell (wsV RX6 71 RX0 yX0_has wsX0_has) := goodIn_app (goodIn_of _ (by decide +kernel)) ggX6_cell_X0_has
set_option maxRecDepth 20000 in
theorem ggX6_cell_X6_baseVoltage : GoodIn wsX6_cell wsX6_baseVoltage := goodIn_r _ [20] (by decide +kernel) (by decide +kernel)
set_option maxRecDepth 20000 in
theorem gX6_cell_X6_baseVoltage : GoodIn wsX6_cell (va_wsS RX6 150 yX6_baseVoltage wsX6_baseVoltage) := goodIn_app (goodIn_of _ (by decide +kernel)) ggX6_cell_X6_baseVoltage
theorem dX6_cell_0 : decode cX6_cell 0 = .ok (.aload_n 0, 1) := by decide +kernel
theorem dX6_cell_1 : decode cX6_cell 1 = .ok (.getfield 10, 3) := by decide +kernel
theorem dX6_cell_4 : decode cX6_cell 4 = .ok (.getfield 50, 3) := by decide +kernel
theorem dX6_cell_7 : decode cX6_cell 7 = .ok (.iload_n 1, 1) := by decide +kernel
theorem dX6_cell_8 : decode cX6_cell 8 = .ok (.invokevirtual 71, 3) := by decide +kernel
theorem dX6_cell_11 : decode cX6_cell 11 = .ok (.ifCond .ne 5, 3) := by decide +kernel
theorem dX6_cell_14 : decode cX6_cell 14 = .ok (.iconst (-1), 1) := by decide +kernel
theorem dX6_cell_15 : decode cX6_cell 15 = .ok (.ireturn, 1) := by decide +kernel
theorem dX6_cell_16 : decode cX6_cell 16 = .ok (.iload_n 2, 1) := by decide +kernel
theorem dX6_cell_17 : decode cX6_cell 17 = .ok (.tableswitch 193 0 8 #[51, 64, 89, 102, 115, 128, 141, 154, 167], 51) := by decide +kernel
theorem dX6_cell_68 : decode cX6_cell 68 = .ok (.aload_n 0, 1) := by decide +kernel
theorem dX6_cell_69 : decode cX6_cell 69 = .ok (.getfield 10, 3) := by decide +kernel
theorem dX6_cell_72 : decode cX6_cell 72 = .ok (.getfield 50, 3) := by decide +kernel
theorem dX6_cell_75 : decode cX6_cell 75 = .ok (.getfield 79, 3) := by decide +kernel
theorem dX6_cell_78 : decode cX6_cell 78 = .ok (.iload_n 1, 1) := by decide +kernel
theorem dX6_cell_79 : decode cX6_cell 79 = .ok (.iaload, 1) := by decide +kernel
theorem dX6_cell_80 : decode cX6_cell 80 = .ok (.ireturn, 1) := by decide +kernel
theorem dX6_cell_81 : decode cX6_cell 81 = .ok (.aload_n 0, 1) := by decide +kernel
theorem dX6_cell_82 : decode cX6_cell 82 = .ok (.getfield 10, 3) := by decide +kernel
theorem dX6_cell_85 : decode cX6_cell 85 = .ok (.getfield 50, 3) := by decide +kernel
theorem dX6_cell_88 : decode cX6_cell 88 = .ok (.getfield 79, 3) := by decide +kernel
theorem dX6_cell_91 : decode cX6_cell 91 = .ok (.iload_n 1, 1) := by decide +kernel
theorem dX6_cell_92 : decode cX6_cell 92 = .ok (.iaload, 1) := by decide +kernel
theorem dX6_cell_93 : decode cX6_cell 93 = .ok (.aload_n 0, 1) := by decide +kernel
theorem dX6_cell_94 : decode cX6_cell 94 = .ok (.getfield 10, 3) := by decide +kernel
theorem dX6_cell_97 : decode cX6_cell 97 = .ok (.getfield 75, 3) := by decide +kernel
theorem dX6_cell_100 : decode cX6_cell 100 = .ok (.iconst 0, 1) := by decide +kernel
theorem dX6_cell_101 : decode cX6_cell 101 = .ok (.iaload, 1) := by decide +kernel
theorem dX6_cell_102 : decode cX6_cell 102 = .ok (.invokestatic 150, 3) := by decide +kernel
theorem dX6_cell_105 : decode cX6_cell 105 = .ok (.ireturn, 1) := by decide +kernel
theorem dX6_cell_106 : decode cX6_cell 106 = .ok (.aload_n 0, 1) := by decide +kernel
theorem dX6_cell_107 : decode cX6_cell 107 = .ok (.getfield 10, 3) := by decide +kernel
theorem dX6_cell_110 : decode cX6_cell 110 = .ok (.getfield 50, 3) := by decide +kernel
theorem dX6_cell_113 : decode cX6_cell 113 = .ok (.getfield 82, 3) := by decide +kernel
theorem dX6_cell_116 : decode cX6_cell 116 = .ok (.iload_n 1, 1) := by decide +kernel
theorem dX6_cell_117 : decode cX6_cell 117 = .ok (.iaload, 1) := by decide +kernel
theorem dX6_cell_118 : decode cX6_cell 118 = .ok (.ireturn, 1) := by decide +kernel
theorem dX6_cell_119 : decode cX6_cell 119 = .ok (.aload_n 0, 1) := by decide +kernel
theorem dX6_cell_120 : decode cX6_cell 120 = .ok (.getfield 10, 3) := by decide +kernel
theorem dX6_cell_123 : decode cX6_cell 123 = .ok (.getfield 50, 3) := by decide +kernel
theorem dX6_cell_126 : decode cX6_cell 126 = .ok (.getfield 154, 3) := by decide +kernel
theorem dX6_cell_129 : decode cX6_cell 129 = .ok (.iload_n 1, 1) := by decide +kernel
theorem dX6_cell_130 : decode cX6_cell 130 = .ok (.iaload, 1) := by decide +kernel
theorem dX6_cell_131 : decode cX6_cell 131 = .ok (.ireturn, 1) := by decide +kernel
theorem dX6_cell_132 : decode cX6_cell 132 = .ok (.aload_n 0, 1) := by decide +kernel
theorem dX6_cell_133 : decode cX6_cell 133 = .ok (.getfield 10, 3) := by decide +kernel
theorem dX6_cell_136 : decode cX6_cell 136 = .ok (.getfield 50, 3) := by decide +kernel
theorem dX6_cell_139 : decode cX6_cell 139 = .ok (.getfield 157, 3) := by decide +kernel
theorem dX6_cell_142 : decode cX6_cell 142 = .ok (.iload_n 1, 1) := by decide +kernel
theorem dX6_cell_143 : decode cX6_cell 143 = .ok (.iaload, 1) := by decide +kernel
theorem dX6_cell_144 : decode cX6_cell 144 = .ok (.ireturn, 1) := by decide +kernel
theorem dX6_cell_145 : decode cX6_cell 145 = .ok (.aload_n 0, 1) := by decide +kernel
theorem dX6_cell_146 : decode cX6_cell 146 = .ok (.getfield 10, 3) := by decide +kernel
theorem dX6_cell_149 : decode cX6_cell 149 = .ok (.getfield 50, 3) := by decide +kernel
theorem dX6_cell_152 : decode cX6_cell 152 = .ok (.getfield 160, 3) := by decide +kernel
theorem dX6_cell_155 : decode cX6_cell 155 = .ok (.iload_n 1, 1) := by decide +kernel
theorem dX6_cell_156 : decode cX6_cell 156 = .ok (.iaload, 1) := by decide +kernel
theorem dX6_cell_157 : decode cX6_cell 157 = .ok (.ireturn, 1) := by decide +kernel
theorem dX6_cell_158 : decode cX6_cell 158 = .ok (.aload_n 0, 1) := by decide +kernel
theorem dX6_cell_159 : decode cX6_cell 159 = .ok (.getfield 10, 3) := by decide +kernel
theorem dX6_cell_162 : decode cX6_cell 162 = .ok (.getfield 50, 3) := by decide +kernel
theorem dX6_cell_165 : decode cX6_cell 165 = .ok (.getfield 163, 3) := by decide +kernel
theorem dX6_cell_168 : decode cX6_cell 168 = .ok (.iload_n 1, 1) := by decide +kernel
theorem dX6_cell_169 : decode cX6_cell 169 = .ok (.iaload, 1) := by decide +kernel
theorem dX6_cell_170 : decode cX6_cell 170 = .ok (.ireturn, 1) := by decide +kernel
theorem dX6_cell_171 : decode cX6_cell 171 = .ok (.aload_n 0, 1) := by decide +kernel
theorem dX6_cell_172 : decode cX6_cell 172 = .ok (.getfield 10, 3) := by decide +kernel
theorem dX6_cell_175 : decode cX6_cell 175 = .ok (.getfield 50, 3) := by decide +kernel
theorem dX6_cell_178 : decode cX6_cell 178 = .ok (.getfield 166, 3) := by decide +kernel
theorem dX6_cell_181 : decode cX6_cell 181 = .ok (.iload_n 1, 1) := by decide +kernel
theorem dX6_cell_182 : decode cX6_cell 182 = .ok (.iaload, 1) := by decide +kernel
theorem dX6_cell_183 : decode cX6_cell 183 = .ok (.ireturn, 1) := by decide +kernel
theorem dX6_cell_184 : decode cX6_cell 184 = .ok (.aload_n 0, 1) := by decide +kernel
theorem dX6_cell_185 : decode cX6_cell 185 = .ok (.getfield 10, 3) := by decide +kernel
theorem dX6_cell_188 : decode cX6_cell 188 = .ok (.getfield 50, 3) := by decide +kernel
theorem dX6_cell_191 : decode cX6_cell 191 = .ok (.getfield 154, 3) := by decide +kernel
theorem dX6_cell_194 : decode cX6_cell 194 = .ok (.iload_n 1, 1) := by decide +kernel
theorem dX6_cell_195 : decode cX6_cell 195 = .ok (.iaload, 1) := by decide +kernel
theorem dX6_cell_196 : decode cX6_cell 196 = .ok (.aload_n 0, 1) := by decide +kernel
theorem dX6_cell_197 : decode cX6_cell 197 = .ok (.getfield 10, 3) := by decide +kernel
theorem dX6_cell_200 : decode cX6_cell 200 = .ok (.getfield 50, 3) := by decide +kernel
theorem dX6_cell_203 : decode cX6_cell 203 = .ok (.getfield 157, 3) := by decide +kernel
theorem dX6_cell_206 : decode cX6_cell 206 = .ok (.iload_n 1, 1) := by decide +kernel
theorem dX6_cell_207 : decode cX6_cell 207 = .ok (.iaload, 1) := by decide +kernel
theorem dX6_cell_208 : decode cX6_cell 208 = .ok (.isub, 1) := by decide +kernel
theorem dX6_cell_209 : decode cX6_cell 209 = .ok (.ireturn, 1) := by decide +kernel
theorem dX6_cell_210 : decode cX6_cell 210 = .ok (.bipush (-2), 2) := by decide +kernel
theorem dX6_cell_212 : decode cX6_cell 212 = .ok (.ireturn, 1) := by decide +kernel
set_option maxRecDepth 20000 in
theorem ggX6_setting_X6_isSetting : GoodIn wsX6_setting wsX6_isSetting := goodIn_r _ [6] (by decide +kernel) (by decide +kernel)
set_option maxRecDepth 20000 in
theorem gX6_setting_X6_isSetting : GoodIn wsX6_setting (va_wsS RX6 92 yX6_isSetting wsX6_isSetting) := goodIn_app (goodIn_of _ (by decide +kernel)) ggX6_setting_X6_isSetting
theorem dX6_setting_0 : decode cX6_setting 0 = .ok (.iload_n 1, 1) := by decide +kernel
theorem dX6_setting_1 : decode cX6_setting 1 = .ok (.invokestatic 92, 3) := by decide +kernel
theorem dX6_setting_4 : decode cX6_setting 4 = .ok (.ifCond .eq 19, 3) := by decide +kernel
theorem dX6_setting_7 : decode cX6_setting 7 = .ok (.aload_n 0, 1) := by decide +kernel
theorem dX6_setting_8 : decode cX6_setting 8 = .ok (.getfield 10, 3) := by decide +kernel
theorem dX6_setting_11 : decode cX6_setting 11 = .ok (.getfield 75, 3) := by decide +kernel
theorem dX6_setting_14 : decode cX6_setting 14 = .ok (.iload_n 1, 1) := by decide +kernel
theorem dX6_setting_15 : decode cX6_setting 15 = .ok (.iaload, 1) := by decide +kernel
theorem dX6_setting_16 : decode cX6_setting 16 = .ok (.sipush 1000, 3) := by decide +kernel
theorem dX6_setting_19 : decode cX6_setting 19 = .ok (.iadd, 1) := by decide +kernel
theorem dX6_setting_20 : decode cX6_setting 20 = .ok (.goto 4, 3) := by decide +kernel
theorem dX6_setting_23 : decode cX6_setting 23 = .ok (.iconst (-1), 1) := by decide +kernel
theorem dX6_setting_24 : decode cX6_setting 24 = .ok (.ireturn, 1) := by decide +kernel
set_option maxRecDepth 20000 in
theorem ggX6_stage_X3_has : GoodIn wsX6_stage wsX3_has := goodIn_r _ [11, 12, 46, 47, 48, 49, 50] (by decide +kernel) (by decide +kernel)
set_option maxRecDepth 20000 in
theorem gX6_stage_X3_has : GoodIn wsX6_stage (wsV RX6 169 RX3 yX3_has wsX3_has) := goodIn_app (goodIn_of _ (by decide +kernel)) ggX6_stage_X3_has
