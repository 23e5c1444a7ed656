set_option maxRecDepth 20000 in
theorem ggX6_battery_X1_add : GoodIn wsX6_battery wsX1_add := goodIn_r _ [10, 11, 12, 13, 14, 15, 9, 16, 17, 18, 19, 20, 21, 22, 23, 24, 25, 26, 27, 28, 29, 30, 31, 32, 33, 34, 35, 36, 37, 38, 39, 40, 41, 42, 43, 44, 45, 46, 47, 48, 49, 50, 51, 52, 53, 54, 55, 56, 57, 58, 59, 60, 61, 62, 63, 64, 65, 66, 67, 68, 69, 70, 71, 72, 73, 112, 113, 92, 93, 94, 95, 96, 97, 98, 99, 100, 101, 102, 103, 104, 105, 106, 107, 108, 109, 110, 111, 114, 115, 116, 117, 118, 119, 120, 121, 122, 123] (by decide +kernel) (by decide +kernel)
set_option maxRecDepth 20000 in
theorem gX6_battery_X1_add : GoodIn wsX6_battery (wsV RX6 60 RX1 yX1_add wsX1_add) := goodIn_app (goodIn_of _ (by decide +kernel)) ggX6_battery_X1_add
set_option maxRecDepth 20000 in
theorem ggX6_battery_X0_putEmpty : GoodIn wsX6_battery wsX0_putEmpty := goodIn_r _ [77, 78, 79, 80, 81, 82, 83, 84, 43, 44, 46, 47, 48, 49, 50, 51, 104, 105, 106, 107, 108, 109, 110, 111] (by decide +kernel) (by decide +kernel)
set_option maxRecDepth 20000 in
theorem gX6_battery_X0_putEmpty : GoodIn wsX6_battery (wsV RX6 64 RX0 yX0_putEmpty wsX0_putEmpty) := goodIn_app (goodIn_of _ (by decide +kernel)) ggX6_battery_X0_putEmpty
theorem dX6_battery_0 : decode cX6_battery 0 = .ok (.iload_n 1, 1) := by decide +kernel
theorem dX6_battery_1 : decode cX6_battery 1 = .ok (.iconst 1, 1) := by decide +kernel
theorem dX6_battery_2 : decode cX6_battery 2 = .ok (.if_icmp .lt 9, 3) := by decide +kernel
theorem dX6_battery_5 : decode cX6_battery 5 = .ok (.iload_n 1, 1) := by decide +kernel
theorem dX6_battery_6 : decode cX6_battery 6 = .ok (.bipush 6, 2) := by decide +kernel
theorem dX6_battery_8 : decode cX6_battery 8 = .ok (.if_icmp .le 6, 3) := by decide +kernel
theorem dX6_battery_11 : decode cX6_battery 11 = .ok (.bipush (-2), 2) := by decide +kernel
theorem dX6_battery_13 : decode cX6_battery 13 = .ok (.ireturn, 1) := by decide +kernel
theorem dX6_battery_14 : decode cX6_battery 14 = .ok (.aload_n 0, 1) := by decide +kernel
theorem dX6_battery_15 : decode cX6_battery 15 = .ok (.getfield 10, 3) := by decide +kernel
theorem dX6_battery_18 : decode cX6_battery 18 = .ok (.getfield 50, 3) := by decide +kernel
theorem dX6_battery_21 : decode cX6_battery 21 = .ok (.getfield 54, 3) := by decide +kernel
theorem dX6_battery_24 : decode cX6_battery 24 = .ok (.istore_n 2, 1) := by decide +kernel
theorem dX6_battery_25 : decode cX6_battery 25 = .ok (.aload_n 0, 1) := by decide +kernel
theorem dX6_battery_26 : decode cX6_battery 26 = .ok (.getfield 29, 3) := by decide +kernel
theorem dX6_battery_29 : decode cX6_battery 29 = .ok (.aload_n 0, 1) := by decide +kernel
theorem dX6_battery_30 : decode cX6_battery 30 = .ok (.getfield 10, 3) := by decide +kernel
theorem dX6_battery_33 : decode cX6_battery 33 = .ok (.invokevirtual 60, 3) := by decide +kernel
theorem dX6_battery_36 : decode cX6_battery 36 = .ok (.aload_n 0, 1) := by decide +kernel
theorem dX6_battery_37 : decode cX6_battery 37 = .ok (.getfield 10, 3) := by decide +kernel
theorem dX6_battery_40 : decode cX6_battery 40 = .ok (.getfield 50, 3) := by decide +kernel
theorem dX6_battery_43 : decode cX6_battery 43 = .ok (.iload_n 1, 1) := by decide +kernel
theorem dX6_battery_44 : decode cX6_battery 44 = .ok (.invokevirtual 64, 3) := by decide +kernel
theorem dX6_battery_47 : decode cX6_battery 47 = .ok (.aload_n 0, 1) := by decide +kernel
theorem dX6_battery_48 : decode cX6_battery 48 = .ok (.getfield 10, 3) := by decide +kernel
theorem dX6_battery_51 : decode cX6_battery 51 = .ok (.iconst 0, 1) := by decide +kernel
theorem dX6_battery_52 : decode cX6_battery 52 = .ok (.putfield 68, 3) := by decide +kernel
theorem dX6_battery_55 : decode cX6_battery 55 = .ok (.iload_n 2, 1) := by decide +kernel
theorem dX6_battery_56 : decode cX6_battery 56 = .ok (.ireturn, 1) := by decide +kernel
set_option maxRecDepth 20000 in
theorem ggX6_setCharge_X0_has : GoodIn wsX6_setCharge wsX0_has := goodIn_r _ [11, 12, 98, 99, 100, 101, 102, 103, 104, 105] (by decide +kernel) (by decide +kernel)
set_option maxRecDepth 20000 in
theorem gX6_setCharge_X0_has : GoodIn wsX6_setCharge (wsV RX6 71 RX0 yX0_has wsX0_has) := goodIn_app (goodIn_of _ (by decide +kernel)) ggX6_setCharge_X0_has
set_option maxRecDepth 20000 in
theorem ggX6_setCharge_X1_add : GoodIn wsX6_setCharge wsX1_add := goodIn_r _ [17, 18, 19, 20, 21, 22, 16, 23, 24, 25, 26, 27, 28, 29, 30, 31, 32, 33, 34, 35, 36, 37, 38, 39, 40, 41, 42, 43, 44, 45, 46, 47, 10, 48, 12, 49, 50, 51, 52, 53, 54, 55, 56, 57, 58, 59, 60, 61, 62, 63, 64, 65, 66, 67, 68, 69, 70, 71, 72, 73, 74, 75, 76, 77, 78, 106, 107, 86, 87, 88, 89, 90, 91, 92, 93, 94, 95, 96, 97, 98, 99, 100, 101, 102, 103, 104, 105, 108, 109, 110, 111, 112, 113, 114, 115, 116, 117] (by decide +kernel) (by decide +kernel)
set_option maxRecDepth 20000 in
theorem gX6_setCharge_X1_add : GoodIn wsX6_setCharge (wsV RX6 60 RX1 yX1_add wsX1_add) := goodIn_app (goodIn_of _ (by decide +kernel)) ggX6_setCharge_X1_add
theorem dX6_setCharge_0 : decode cX6_setCharge 0 = .ok (.aload_n 0, 1) := by decide +kernel
theorem dX6_setCharge_1 : decode cX6_setCharge 1 = .ok (.getfield 10, 3) := by decide +kernel
theorem dX6_setCharge_4 : decode cX6_setCharge 4 = .ok (.getfield 50, 3) := by decide +kernel
theorem dX6_setCharge_7 : decode cX6_setCharge 7 = .ok (.iload_n 1, 1) := by decide +kernel
theorem dX6_setCharge_8 : decode cX6_setCharge 8 = .ok (.invokevirtual 71, 3) := by decide +kernel
theorem dX6_setCharge_11 : decode cX6_setCharge 11 = .ok (.ifCond .ne 5, 3) := by decide +kernel
theorem dX6_setCharge_14 : decode cX6_setCharge 14 = .ok (.iconst (-1), 1) := by decide +kernel
theorem dX6_setCharge_15 : decode cX6_setCharge 15 = .ok (.ireturn, 1) := by decide +kernel
theorem dX6_setCharge_16 : decode cX6_setCharge 16 = .ok (.iload_n 2, 1) := by decide +kernel
theorem dX6_setCharge_17 : decode cX6_setCharge 17 = .ok (.ifCond .lt 16, 3) := by decide +kernel
theorem dX6_setCharge_20 : decode cX6_setCharge 20 = .ok (.iload_n 2, 1) := by decide +kernel
theorem dX6_setCharge_21 : decode cX6_setCharge 21 = .ok (.aload_n 0, 1) := by decide +kernel
theorem dX6_setCharge_22 : decode cX6_setCharge 22 = .ok (.getfield 10, 3) := by decide +kernel
theorem dX6_setCharge_25 : decode cX6_setCharge 25 = .ok (.getfield 75, 3) := by decide +kernel
theorem dX6_setCharge_28 : decode cX6_setCharge 28 = .ok (.iconst 0, 1) := by decide +kernel
theorem dX6_setCharge_29 : decode cX6_setCharge 29 = .ok (.iaload, 1) := by decide +kernel
theorem dX6_setCharge_30 : decode cX6_setCharge 30 = .ok (.if_icmp .le 6, 3) := by decide +kernel
theorem dX6_setCharge_33 : decode cX6_setCharge 33 = .ok (.bipush (-2), 2) := by decide +kernel
theorem dX6_setCharge_35 : decode cX6_setCharge 35 = .ok (.ireturn, 1) := by decide +kernel
theorem dX6_setCharge_36 : decode cX6_setCharge 36 = .ok (.aload_n 0, 1) := by decide +kernel
theorem dX6_setCharge_37 : decode cX6_setCharge 37 = .ok (.getfield 10, 3) := by decide +kernel
theorem dX6_setCharge_40 : decode cX6_setCharge 40 = .ok (.getfield 50, 3) := by decide +kernel
theorem dX6_setCharge_43 : decode cX6_setCharge 43 = .ok (.getfield 79, 3) := by decide +kernel
theorem dX6_setCharge_46 : decode cX6_setCharge 46 = .ok (.iload_n 1, 1) := by decide +kernel
theorem dX6_setCharge_47 : decode cX6_setCharge 47 = .ok (.iaload, 1) := by decide +kernel
theorem dX6_setCharge_48 : decode cX6_setCharge 48 = .ok (.istore_n 3, 1) := by decide +kernel
theorem dX6_setCharge_49 : decode cX6_setCharge 49 = .ok (.iload_n 3, 1) := by decide +kernel
theorem dX6_setCharge_50 : decode cX6_setCharge 50 = .ok (.iload_n 2, 1) := by decide +kernel
theorem dX6_setCharge_51 : decode cX6_setCharge 51 = .ok (.if_icmp .ne 21, 3) := by decide +kernel
theorem dX6_setCharge_54 : decode cX6_setCharge 54 = .ok (.aload_n 0, 1) := by decide +kernel
theorem dX6_setCharge_55 : decode cX6_setCharge 55 = .ok (.getfield 10, 3) := by decide +kernel
theorem dX6_setCharge_58 : decode cX6_setCharge 58 = .ok (.getfield 50, 3) := by decide +kernel
theorem dX6_setCharge_61 : decode cX6_setCharge 61 = .ok (.getfield 82, 3) := by decide +kernel
theorem dX6_setCharge_64 : decode cX6_setCharge 64 = .ok (.iload_n 1, 1) := by decide +kernel
theorem dX6_setCharge_65 : decode cX6_setCharge 65 = .ok (.iaload, 1) := by decide +kernel
theorem dX6_setCharge_66 : decode cX6_setCharge 66 = .ok (.ifCond .ne 6, 3) := by decide +kernel
theorem dX6_setCharge_69 : decode cX6_setCharge 69 = .ok (.bipush (-5), 2) := by decide +kernel
theorem dX6_setCharge_71 : decode cX6_setCharge 71 = .ok (.ireturn, 1) := by decide +kernel
theorem dX6_setCharge_72 : decode cX6_setCharge 72 = .ok (.aload_n 0, 1) := by decide +kernel
theorem dX6_setCharge_73 : decode cX6_setCharge 73 = .ok (.getfield 29, 3) := by decide +kernel
theorem dX6_setCharge_76 : decode cX6_setCharge 76 = .ok (.aload_n 0, 1) := by decide +kernel
theorem dX6_setCharge_77 : decode cX6_setCharge 77 = .ok (.getfield 10, 3) := by decide +kernel
theorem dX6_setCharge_80 : decode cX6_setCharge 80 = .ok (.invokevirtual 60, 3) := by decide +kernel
theorem dX6_setCharge_83 : decode cX6_setCharge 83 = .ok (.aload_n 0, 1) := by decide +kernel
theorem dX6_setCharge_84 : decode cX6_setCharge 84 = .ok (.getfield 10, 3) := by decide +kernel
theorem dX6_setCharge_87 : decode cX6_setCharge 87 = .ok (.getfield 50, 3) := by decide +kernel
theorem dX6_setCharge_90 : decode cX6_setCharge 90 = .ok (.getfield 79, 3) := by decide +kernel
theorem dX6_setCharge_93 : decode cX6_setCharge 93 = .ok (.iload_n 1, 1) := by decide +kernel
theorem dX6_setCharge_94 : decode cX6_setCharge 94 = .ok (.iload_n 2, 1) := by decide +kernel
theorem dX6_setCharge_95 : decode cX6_setCharge 95 = .ok (.iastore, 1) := by decide +kernel
theorem dX6_setCharge_96 : decode cX6_setCharge 96 = .ok (.aload_n 0, 1) := by decide +kernel
theorem dX6_setCharge_97 : decode cX6_setCharge 97 = .ok (.getfield 10, 3) := by decide +kernel
theorem dX6_setCharge_100 : decode cX6_setCharge 100 = .ok (.getfield 50, 3) := by decide +kernel
theorem dX6_setCharge_103 : decode cX6_setCharge 103 = .ok (.getfield 82, 3) := by decide +kernel
theorem dX6_setCharge_106 : decode cX6_setCharge 106 = .ok (.iload_n 1, 1) := by decide +kernel
theorem dX6_setCharge_107 : decode cX6_setCharge 107 = .ok (.iconst 0, 1) := by decide +kernel
theorem dX6_setCharge_108 : decode cX6_setCharge 108 = .ok (.iastore, 1) := by decide +kernel
theorem dX6_setCharge_109 : decode cX6_setCharge 109 = .ok (.iload_n 3, 1) := by decide +kernel
theorem dX6_setCharge_110 : decode cX6_setCharge 110 = .ok (.ireturn, 1) := by decide +kernel
set_option maxRecDepth 20000 in
theorem ggX6_use_X0_leastCharge : GoodIn wsX6_use wsX0_leastCharge := goodIn_r _ [9, 10, 11, 12, 13, 14, 15, 104, 105, 106, 107, 108, 109, 110, 111] (by decide +kernel) (by decide +kernel)
set_option maxRecDepth 20000 in
theorem gX6_use_X0_leastCharge : GoodIn wsX6_use (wsV RX6 85 RX0 yX0_leastCharge wsX0_leastCharge) := goodIn_app (goodIn_of _ (by decide +kernel)) ggX6_use_X0_leastCharge
set_option maxRecDepth 20000 in
theorem ggX6_use_X1_add : GoodIn wsX6_use wsX1_add := goodIn_r _ [20, 21, 22, 23, 24, 25, 19, 26, 27, 28, 29, 30, 31, 32, 33, 34, 35, 36, 37, 38, 39, 40, 41, 42, 43, 44, 45, 46, 47, 48, 49, 50, 8, 51, 11, 10, 52, 53, 54, 55, 56, 57, 58, 59, 60, 61, 62, 63, 64, 65, 66, 67, 68, 69, 70, 71, 72, 73, 74, 75, 76, 77, 78, 79, 80, 112, 113, 92, 93, 94, 95, 96, 97, 98, 99, 100, 101, 102, 103, 104, 105, 106, 107, 108, 109, 110, 111, 114, 115, 116, 117, 118, 119, 120, 121, 122, 123] (by decide +kernel) (by decide +kernel)
set_option maxRecDepth 20000 in
theorem gX6_use_X1_add : GoodIn wsX6_use (wsV RX6 60 RX1 yX1_add wsX1_add) := goodIn_app (goodIn_of _ (by decide +kernel)) ggX6_use_X1_add
set_option maxRecDepth 20000 in
theorem ggX6_use_X0_draw : GoodIn wsX6_use wsX0_draw := goodIn_r _ [84, 11, 10, 58, 104, 105, 106, 107, 108, 109, 110, 111] (by decide +kernel) (by decide +kernel)
set_option maxRecDepth 20000 in
theorem gX6_use_X0_draw : GoodIn wsX6_use (wsV RX6 89 RX0 yX0_draw wsX0_draw) := goodIn_app (goodIn_of _ (by decide +kernel)) ggX6_use_X0_draw
theorem dX6_use_0 : decode cX6_use 0 = .ok (.iload_n 1, 1) := by decide +kernel
theorem dX6_use_1 : decode cX6_use 1 = .ok (.iconst 1, 1) := by decide +kernel
theorem dX6_use_2 : decode cX6_use 2 = .ok (.if_icmp .lt 10, 3) := by decide +kernel
theorem dX6_use_5 : decode cX6_use 5 = .ok (.iload_n 1, 1) := by decide +kernel
theorem dX6_use_6 : decode cX6_use 6 = .ok (.sipush 5000, 3) := by decide +kernel
theorem dX6_use_9 : decode cX6_use 9 = .ok (.if_icmp .le 6, 3) := by decide +kernel
theorem dX6_use_12 : decode cX6_use 12 = .ok (.bipush (-2), 2) := by decide +kernel
theorem dX6_use_14 : decode cX6_use 14 = .ok (.ireturn, 1) := by decide +kernel
theorem dX6_use_15 : decode cX6_use 15 = .ok (.aload_n 0, 1) := by decide +kernel
theorem dX6_use_16 : decode cX6_use 16 = .ok (.getfield 10, 3) := by decide +kernel
theorem dX6_use_19 : decode cX6_use 19 = .ok (.getfield 68, 3) := by decide +kernel
theorem dX6_use_22 : decode cX6_use 22 = .ok (.iconst 1, 1) := by decide +kernel
theorem dX6_use_23 : decode cX6_use 23 = .ok (.if_icmp .eq 17, 3) := by decide +kernel
theorem dX6_use_26 : decode cX6_use 26 = .ok (.aload_n 0, 1) := by decide +kernel
theorem dX6_use_27 : decode cX6_use 27 = .ok (.getfield 10, 3) := by decide +kernel
theorem dX6_use_30 : decode cX6_use 30 = .ok (.getfield 50, 3) := by decide +kernel
theorem dX6_use_33 : decode cX6_use 33 = .ok (.invokevirtual 85, 3) := by decide +kernel
theorem dX6_use_36 : decode cX6_use 36 = .ok (.iload_n 1, 1) := by decide +kernel
theorem dX6_use_37 : decode cX6_use 37 = .ok (.if_icmp .ge 6, 3) := by decide +kernel
theorem dX6_use_40 : decode cX6_use 40 = .ok (.bipush (-4), 2) := by decide +kernel
theorem dX6_use_42 : decode cX6_use 42 = .ok (.ireturn, 1) := by decide +kernel
theorem dX6_use_43 : decode cX6_use 43 = .ok (.aload_n 0, 1) := by decide +kernel
theorem dX6_use_44 : decode cX6_use 44 = .ok (.getfield 29, 3) := by decide +kernel
theorem dX6_use_47 : decode cX6_use 47 = .ok (.aload_n 0, 1) := by decide +kernel
theorem dX6_use_48 : decode cX6_use 48 = .ok (.getfield 10, 3) := by decide +kernel
theorem dX6_use_51 : decode cX6_use 51 = .ok (.invokevirtual 60, 3) := by decide +kernel
theorem dX6_use_54 : decode cX6_use 54 = .ok (.aload_n 0, 1) := by decide +kernel
theorem dX6_use_55 : decode cX6_use 55 = .ok (.getfield 10, 3) := by decide +kernel
theorem dX6_use_58 : decode cX6_use 58 = .ok (.getfield 50, 3) := by decide +kernel
theorem dX6_use_61 : decode cX6_use 61 = .ok (.iload_n 1, 1) := by decide +kernel
theorem dX6_use_62 : decode cX6_use 62 = .ok (.invokevirtual 89, 3) := by decide +kernel
theorem dX6_use_65 : decode cX6_use 65 = .ok (.aload_n 0, 1) := by decide +kernel
theorem dX6_use_66 : decode cX6_use 66 = .ok (.getfield 10, 3) := by decide +kernel
theorem dX6_use_69 : decode cX6_use 69 = .ok (.getfield 50, 3) := by decide +kernel
theorem dX6_use_72 : decode cX6_use 72 = .ok (.invokevirtual 85, 3) := by decide +kernel
theorem dX6_use_75 : decode cX6_use 75 = .ok (.ireturn, 1) := by decide +kernel
set_option maxRecDepth 20000 in
theorem ggX6_set_X6_isSetting : GoodIn wsX6_set wsX6_isSetting := goodIn_r _ [9] (by decide +kernel) (by decide +kernel)
set_option maxRecDepth 20000 in
theorem gX6_set_X6_isSetting : GoodIn wsX6_set (va_wsS RX6 92 yX6_isSetting wsX6_isSetting) := goodIn_app (goodIn_of _ (by decide +kernel)) ggX6_set_X6_isSetting
set_option maxRecDepth 20000 in
theorem ggX6_set_X4_allows : GoodIn wsX6_set wsX4_allows := goodIn_r _ [14, 15, 16, 17, 18, 19, 20, 21, 22, 23, 24, 25, 26, 27, 97, 98, 99, 100, 101, 102, 103, 104, 105, 106, 107, 108, 109, 110, 111, 112, 113, 114, 115, 116] (by decide +kernel) (by decide +kernel)
set_option maxRecDepth 20000 in
theorem gX6_set_X4_allows : GoodIn wsX6_set (wsV RX6 101 RX4 yX4_allows wsX4_allows) := goodIn_app (goodIn_of _ (by decide +kernel)) ggX6_set_X4_allows
set_option maxRecDepth 20000 in
theorem ggX6_set_X1_add : GoodIn wsX6_set wsX1_add := goodIn_r _ [32, 33, 34, 35, 36, 37, 31, 38, 39, 40, 41, 13, 42, 16, 43, 44, 45, 46, 15, 47, 48, 49, 50, 51, 52, 53, 54, 55, 56, 57, 58, 59, 20, 60, 23, 22, 61, 62, 63, 64, 65, 66, 67, 68, 69, 70, 71, 72, 73, 74, 75, 76, 77, 78, 79, 80, 81, 82, 83, 84, 85, 86, 87, 88, 89, 117, 118, 97, 98, 99, 100, 101, 102, 103, 104, 105, 106, 107, 108, 109, 110, 111, 112, 113, 114, 115, 116, 119, 120, 121, 122, 123, 124, 125, 126, 127, 128] (by decide +kernel) (by decide +kernel)
set_option maxRecDepth 20000 in
theorem gX6_set_X1_add : GoodIn wsX6_set (wsV RX6 60 RX1 yX1_add wsX1_add) := goodIn_app (goodIn_of _ (by decide +kernel)) ggX6_set_X1_add
theorem dX6_set_0 : decode cX6_set 0 = .ok (.iload_n 1, 1) := by decide +kernel
theorem dX6_set_1 : decode cX6_set 1 = .ok (.invokestatic 92, 3) := by decide +kernel
theorem dX6_set_4 : decode cX6_set 4 = .ok (.ifCond .ne 5, 3) := by decide +kernel
theorem dX6_set_7 : decode cX6_set 7 = .ok (.iconst (-1), 1) := by decide +kernel
theorem dX6_set_8 : decode cX6_set 8 = .ok (.ireturn, 1) := by decide +kernel
theorem dX6_set_9 : decode cX6_set 9 = .ok (.iload_n 2, 1) := by decide +kernel
theorem dX6_set_10 : decode cX6_set 10 = .ok (.getstatic 95, 3) := by decide +kernel
theorem dX6_set_13 : decode cX6_set 13 = .ok (.iload_n 1, 1) := by decide +kernel
theorem dX6_set_14 : decode cX6_set 14 = .ok (.iaload, 1) := by decide +kernel
theorem dX6_set_15 : decode cX6_set 15 = .ok (.if_icmp .lt 12, 3) := by decide +kernel
theorem dX6_set_18 : decode cX6_set 18 = .ok (.iload_n 2, 1) := by decide +kernel
theorem dX6_set_19 : decode cX6_set 19 = .ok (.getstatic 98, 3) := by decide +kernel
theorem dX6_set_22 : decode cX6_set 22 = .ok (.iload_n 1, 1) := by decide +kernel
theorem dX6_set_23 : decode cX6_set 23 = .ok (.iaload, 1) := by decide +kernel
theorem dX6_set_24 : decode cX6_set 24 = .ok (.if_icmp .le 6, 3) := by decide +kernel
theorem dX6_set_27 : decode cX6_set 27 = .ok (.bipush (-2), 2) := by decide +kernel
theorem dX6_set_29 : decode cX6_set 29 = .ok (.ireturn, 1) := by decide +kernel
theorem dX6_set_30 : decode cX6_set 30 = .ok (.aload_n 0, 1) := by decide +kernel
theorem dX6_set_31 : decode cX6_set 31 = .ok (.getfield 10, 3) := by decide +kernel
theorem dX6_set_34 : decode cX6_set 34 = .ok (.iload_n 1, 1) := by decide +kernel
theorem dX6_set_35 : decode cX6_set 35 = .ok (.iload_n 2, 1) := by decide +kernel
theorem dX6_set_36 : decode cX6_set 36 = .ok (.invokevirtual 101, 3) := by decide +kernel
theorem dX6_set_39 : decode cX6_set 39 = .ok (.ifCond .ne 6, 3) := by decide +kernel
theorem dX6_set_42 : decode cX6_set 42 = .ok (.bipush (-4), 2) := by decide +kernel
theorem dX6_set_44 : decode cX6_set 44 = .ok (.ireturn, 1) := by decide +kernel
theorem dX6_set_45 : decode cX6_set 45 = .ok (.aload_n 0, 1) := by decide +kernel
theorem dX6_set_46 : decode cX6_set 46 = .ok (.getfield 10, 3) := by decide +kernel
theorem dX6_set_49 : decode cX6_set 49 = .ok (.getfield 75, 3) := by decide +kernel
theorem dX6_set_52 : decode cX6_set 52 = .ok (.iload_n 1, 1) := by decide +kernel
theorem dX6_set_53 : decode cX6_set 53 = .ok (.iaload, 1) := by decide +kernel
theorem dX6_set_54 : decode cX6_set 54 = .ok (.istore_n 3, 1) := by decide +kernel
theorem dX6_set_55 : decode cX6_set 55 = .ok (.iload_n 3, 1) := by decide +kernel
theorem dX6_set_56 : decode cX6_set 56 = .ok (.iload_n 2, 1) := by decide +kernel
theorem dX6_set_57 : decode cX6_set 57 = .ok (.if_icmp .ne 6, 3) := by decide +kernel
theorem dX6_set_60 : decode cX6_set 60 = .ok (.bipush (-5), 2) := by decide +kernel
theorem dX6_set_62 : decode cX6_set 62 = .ok (.ireturn, 1) := by decide +kernel
theorem dX6_set_63 : decode cX6_set 63 = .ok (.aload_n 0, 1) := by decide +kernel
theorem dX6_set_64 : decode cX6_set 64 = .ok (.getfield 29, 3) := by decide +kernel
theorem dX6_set_67 : decode cX6_set 67 = .ok (.aload_n 0, 1) := by decide +kernel
theorem dX6_set_68 : decode cX6_set 68 = .ok (.getfield 10, 3) := by decide +kernel
theorem dX6_set_71 : decode cX6_set 71 = .ok (.invokevirtual 60, 3) := by decide +kernel
theorem dX6_set_74 : decode cX6_set 74 = .ok (.aload_n 0, 1) := by decide +kernel
theorem dX6_set_75 : decode cX6_set 75 = .ok (.getfield 10, 3) := by decide +kernel
theorem dX6_set_78 : decode cX6_set 78 = .ok (.getfield 75, 3) := by decide +kernel
theorem dX6_set_81 : decode cX6_set 81 = .ok (.iload_n 1, 1) := by decide +kernel
theorem dX6_set_82 : decode cX6_set 82 = .ok (.iload_n 2, 1) := by decide +kernel
theorem dX6_set_83 : decode cX6_set 83 = .ok (.iastore, 1) := by decide +kernel
theorem dX6_set_84 : decode cX6_set 84 = .ok (.iload_n 3, 1) := by decide +kernel
theorem dX6_set_85 : decode cX6_set 85 = .ok (.sipush 1000, 3) := by decide +kernel
theorem dX6_set_88 : decode cX6_set 88 = .ok (.iadd, 1) := by decide +kernel
theorem dX6_set_89 : decode cX6_set 89 = .ok (.ireturn, 1) := by decide +kernel
set_option maxRecDepth 20000 in
theorem ggX6_readProfile_X5_readInto : GoodIn wsX6_readProfile wsX5_readInto := goodIn_r _ [13, 14, 15, 16, 17, 18, 19, 12, 20, 21, 22, 23, 24, 25, 26, 27, 28, 29, 30, 31, 32, 33, 34, 35, 36, 37, 38, 39, 40, 41, 42, 43, 44, 45, 46, 47, 48, 49, 50, 51, 52, 53, 54, 55, 56, 57, 58, 140, 141, 142, 155, 156, 157, 158, 159] (by decide +kernel) (by decide +kernel)
set_option maxRecDepth 20000 in
theorem gX6_readProfile_X5_readInto : GoodIn wsX6_readProfile (wsV RX6 105 RX5 yX5_readInto wsX5_readInto) := goodIn_app (goodIn_of _ (by decide +kernel)) ggX6_readProfile_X5_readInto
set_option maxRecDepth 20000 in
theorem ggX6_readProfile_X3_isInRange : GoodIn wsX6_readProfile wsX3_isInRange := goodIn_r _ [62, 31, 35, 63, 64, 65, 29, 66, 32, 33, 34, 67, 68, 69, 155, 156, 157, 158, 159] (by decide +kernel) (by decide +kernel)
set_option maxRecDepth 20000 in
theorem gX6_readProfile_X3_isInRange : GoodIn wsX6_readProfile (wsV RX6 112 RX3 yX3_isInRange wsX3_isInRange) := goodIn_app (goodIn_of _ (by decide +kernel)) ggX6_readProfile_X3_isInRange
set_option maxRecDepth 20000 in
theorem ggX6_readProfile_X1_add : GoodIn wsX6_readProfile wsX1_add := goodIn_r _ [74, 75, 76, 77, 78, 79, 73, 80, 81, 82, 83, 84, 85, 86, 87, 88, 89, 90, 91, 92, 93, 94, 95, 96, 97, 98, 99, 100, 101, 102, 103, 104, 105, 106, 107, 108, 109, 110, 111, 112, 113, 114, 115, 116, 117, 118, 29, 119, 31, 32, 120, 33, 34, 35, 121, 122, 123, 124, 125, 126, 127, 128, 129, 130, 131, 160, 161, 143, 144, 145, 146, 147, 148, 149, 150, 151, 152, 153, 154, 162, 163, 164, 165, 166, 167, 168, 169, 155, 156, 157, 158, 159, 170, 171, 172, 173, 174] (by decide +kernel) (by decide +kernel)
set_option maxRecDepth 20000 in
theorem gX6_readProfile_X1_add : GoodIn wsX6_readProfile (wsV RX6 60 RX1 yX1_add wsX1_add) := goodIn_app (goodIn_of _ (by decide +kernel)) ggX6_readProfile_X1_add
set_option maxRecDepth 20000 in
theorem ggX6_readProfile_X3_copyFrom : GoodIn wsX6_readProfile wsX3_copyFrom := goodIn_r _ [119, 31, 32, 120, 88, 89, 90, 33, 34, 35, 155, 156, 157, 158, 159] (by decide +kernel) (by decide +kernel)
set_option maxRecDepth 20000 in
theorem gX6_readProfile_X3_copyFrom : GoodIn wsX6_readProfile (wsV RX6 119 RX3 yX3_copyFrom wsX3_copyFrom) := goodIn_app (goodIn_of _ (by decide +kernel)) ggX6_readProfile_X3_copyFrom
theorem dX6_readProfile_0 : decode cX6_readProfile 0 = .ok (.aload_n 0, 1) := by decide +kernel
theorem dX6_readProfile_1 : decode cX6_readProfile 1 = .ok (.getfield 36, 3) := by decide +kernel
theorem dX6_readProfile_4 : decode cX6_readProfile 4 = .ok (.aload_n 0, 1) := by decide +kernel
theorem dX6_readProfile_5 : decode cX6_readProfile 5 = .ok (.getfield 43, 3) := by decide +kernel
theorem dX6_readProfile_8 : decode cX6_readProfile 8 = .ok (.invokevirtual 105, 3) := by decide +kernel
theorem dX6_readProfile_11 : decode cX6_readProfile 11 = .ok (.ifCond .ne 14, 3) := by decide +kernel
theorem dX6_readProfile_14 : decode cX6_readProfile 14 = .ok (.bipush (-100), 2) := by decide +kernel
theorem dX6_readProfile_16 : decode cX6_readProfile 16 = .ok (.aload_n 0, 1) := by decide +kernel
theorem dX6_readProfile_17 : decode cX6_readProfile 17 = .ok (.getfield 36, 3) := by decide +kernel
theorem dX6_readProfile_20 : decode cX6_readProfile 20 = .ok (.getfield 109, 3) := by decide +kernel
theorem dX6_readProfile_23 : decode cX6_readProfile 23 = .ok (.isub, 1) := by decide +kernel
theorem dX6_readProfile_24 : decode cX6_readProfile 24 = .ok (.ireturn, 1) := by decide +kernel
theorem dX6_readProfile_25 : decode cX6_readProfile 25 = .ok (.aload_n 0, 1) := by decide +kernel
theorem dX6_readProfile_26 : decode cX6_readProfile 26 = .ok (.getfield 43, 3) := by decide +kernel
theorem dX6_readProfile_29 : decode cX6_readProfile 29 = .ok (.invokevirtual 112, 3) := by decide +kernel
theorem dX6_readProfile_32 : decode cX6_readProfile 32 = .ok (.ifCond .ne 6, 3) := by decide +kernel
theorem dX6_readProfile_35 : decode cX6_readProfile 35 = .ok (.bipush (-2), 2) := by decide +kernel
theorem dX6_readProfile_37 : decode cX6_readProfile 37 = .ok (.ireturn, 1) := by decide +kernel
theorem dX6_readProfile_38 : decode cX6_readProfile 38 = .ok (.aload_n 0, 1) := by decide +kernel
theorem dX6_readProfile_39 : decode cX6_readProfile 39 = .ok (.getfield 10, 3) := by decide +kernel
theorem dX6_readProfile_42 : decode cX6_readProfile 42 = .ok (.getfield 68, 3) := by decide +kernel
theorem dX6_readProfile_45 : decode cX6_readProfile 45 = .ok (.iconst 1, 1) := by decide +kernel
theorem dX6_readProfile_46 : decode cX6_readProfile 46 = .ok (.if_icmp .ne 6, 3) := by decide +kernel
theorem dX6_readProfile_49 : decode cX6_readProfile 49 = .ok (.bipush (-4), 2) := by decide +kernel
theorem dX6_readProfile_51 : decode cX6_readProfile 51 = .ok (.ireturn, 1) := by decide +kernel
theorem dX6_readProfile_52 : decode cX6_readProfile 52 = .ok (.aload_n 0, 1) := by decide +kernel
theorem dX6_readProfile_53 : decode cX6_readProfile 53 = .ok (.getfield 29, 3) := by decide +kernel
theorem dX6_readProfile_56 : decode cX6_readProfile 56 = .ok (.aload_n 0, 1) := by decide +kernel
theorem dX6_readProfile_57 : decode cX6_readProfile 57 = .ok (.getfield 10, 3) := by decide +kernel
theorem dX6_readProfile_60 : decode cX6_readProfile 60 = .ok (.invokevirtual 60, 3) := by decide +kernel
theorem dX6_readProfile_63 : decode cX6_readProfile 63 = .ok (.aload_n 0, 1) := by decide +kernel
theorem dX6_readProfile_64 : decode cX6_readProfile 64 = .ok (.getfield 10, 3) := by decide +kernel
theorem dX6_readProfile_67 : decode cX6_readProfile 67 = .ok (.getfield 116, 3) := by decide +kernel
theorem dX6_readProfile_70 : decode cX6_readProfile 70 = .ok (.aload_n 0, 1) := by decide +kernel
theorem dX6_readProfile_71 : decode cX6_readProfile 71 = .ok (.getfield 43, 3) := by decide +kernel
theorem dX6_readProfile_74 : decode cX6_readProfile 74 = .ok (.invokevirtual 119, 3) := by decide +kernel
theorem dX6_readProfile_77 : decode cX6_readProfile 77 = .ok (.aload_n 0, 1) := by decide +kernel
theorem dX6_readProfile_78 : decode cX6_readProfile 78 = .ok (.getfield 10, 3) := by decide +kernel
theorem dX6_readProfile_81 : decode cX6_readProfile 81 = .ok (.getfield 116, 3) := by decide +kernel
theorem dX6_readProfile_84 : decode cX6_readProfile 84 = .ok (.getfield 123, 3) := by decide +kernel
theorem dX6_readProfile_87 : decode cX6_readProfile 87 = .ok (.ireturn, 1) := by decide +kernel
set_option maxRecDepth 20000 in
theorem ggX6_start_X1_add : GoodIn wsX6_start wsX1_add := goodIn_r _ [10, 11, 12, 13, 14, 15, 9, 16, 17, 18, 19, 20, 21, 22, 23, 24, 25, 26, 27, 28, 29, 30, 31, 32, 33, 34, 35, 36, 37, 38, 39, 40, 41, 42, 43, 44, 45, 46, 47, 48, 49, 50, 51, 52, 53, 54, 55, 56, 57, 58, 59, 60, 61, 62, 63, 64, 65, 66, 67, 68, 69, 70, 71, 72, 73, 110, 111, 93, 94, 95, 96, 97, 98, 99, 100, 101, 102, 103, 104, 112, 113, 114, 115, 116, 117, 118, 119, 105, 106, 107, 108, 109, 120, 121, 122, 123, 124] (by decide +kernel) (by decide +kernel)
set_option maxRecDepth 20000 in
theorem gX6_start_X1_add : GoodIn wsX6_start (wsV RX6 60 RX1 yX1_add wsX1_add) := goodIn_app (goodIn_of _ (by decide +kernel)) ggX6_start_X1_add
set_option maxRecDepth 20000 in
theorem ggX6_start_X4_beginCharging : GoodIn wsX6_start wsX4_beginCharging := goodIn_r _ [77, 30, 35, 78, 79, 80, 20, 81, 31, 32, 29, 33, 82, 83, 84, 66, 85, 70, 69, 72, 73, 68, 93, 94, 95, 96, 97, 98, 99, 100, 101, 102, 103, 104, 120, 121, 122, 123, 124] (by decide +kernel) (by decide +kernel)
set_option maxRecDepth 20000 in
theorem gX6_start_X4_beginCharging : GoodIn wsX6_start (wsV RX6 126 RX4 yX4_beginCharging wsX4_beginCharging) := goodIn_app (goodIn_of _ (by decide +kernel)) ggX6_start_X4_beginCharging
theorem dX6_start_0 : decode cX6_start 0 = .ok (.aload_n 0, 1) := by decide +kernel
theorem dX6_start_1 : decode cX6_start 1 = .ok (.getfield 10, 3) := by decide +kernel
theorem dX6_start_4 : decode cX6_start 4 = .ok (.getfield 68, 3) := by decide +kernel
theorem dX6_start_7 : decode cX6_start 7 = .ok (.iconst 1, 1) := by decide +kernel
theorem dX6_start_8 : decode cX6_start 8 = .ok (.if_icmp .eq 16, 3) := by decide +kernel
theorem dX6_start_11 : decode cX6_start 11 = .ok (.aload_n 0, 1) := by decide +kernel
theorem dX6_start_12 : decode cX6_start 12 = .ok (.getfield 10, 3) := by decide +kernel
theorem dX6_start_15 : decode cX6_start 15 = .ok (.getfield 116, 3) := by decide +kernel
theorem dX6_start_18 : decode cX6_start 18 = .ok (.getfield 123, 3) := by decide +kernel
theorem dX6_start_21 : decode cX6_start 21 = .ok (.ifCond .ne 6, 3) := by decide +kernel
theorem dX6_start_24 : decode cX6_start 24 = .ok (.bipush (-4), 2) := by decide +kernel
theorem dX6_start_26 : decode cX6_start 26 = .ok (.ireturn, 1) := by decide +kernel
theorem dX6_start_27 : decode cX6_start 27 = .ok (.aload_n 0, 1) := by decide +kernel
theorem dX6_start_28 : decode cX6_start 28 = .ok (.getfield 10, 3) := by decide +kernel
theorem dX6_start_31 : decode cX6_start 31 = .ok (.getfield 68, 3) := by decide +kernel
theorem dX6_start_34 : decode cX6_start 34 = .ok (.istore_n 1, 1) := by decide +kernel
theorem dX6_start_35 : decode cX6_start 35 = .ok (.aload_n 0, 1) := by decide +kernel
theorem dX6_start_36 : decode cX6_start 36 = .ok (.getfield 29, 3) := by decide +kernel
theorem dX6_start_39 : decode cX6_start 39 = .ok (.aload_n 0, 1) := by decide +kernel
theorem dX6_start_40 : decode cX6_start 40 = .ok (.getfield 10, 3) := by decide +kernel
theorem dX6_start_43 : decode cX6_start 43 = .ok (.invokevirtual 60, 3) := by decide +kernel
theorem dX6_start_46 : decode cX6_start 46 = .ok (.aload_n 0, 1) := by decide +kernel
theorem dX6_start_47 : decode cX6_start 47 = .ok (.getfield 10, 3) := by decide +kernel
theorem dX6_start_50 : decode cX6_start 50 = .ok (.invokevirtual 126, 3) := by decide +kernel
theorem dX6_start_53 : decode cX6_start 53 = .ok (.iload_n 1, 1) := by decide +kernel
theorem dX6_start_54 : decode cX6_start 54 = .ok (.ireturn, 1) := by decide +kernel
set_option maxRecDepth 20000 in
theorem ggX6_stop_X1_add : GoodIn wsX6_stop wsX1_add := goodIn_r _ [8, 9, 10, 11, 12, 13, 7, 14, 15, 16, 17, 18, 19, 20, 21, 22, 23, 24, 25, 26, 27, 28, 29, 30, 31, 32, 33, 34, 35, 36, 37, 38, 39, 40, 41, 42, 43, 44, 45, 46, 47, 48, 49, 50, 51, 52, 53, 54, 55, 56, 57, 58, 59, 60, 61, 62, 63, 64, 65, 66, 67, 68, 69, 70, 71, 91, 92, 79, 80, 81, 82, 83, 84, 85, 86, 87, 88, 89, 90, 93, 94, 95, 96, 97, 98, 99, 100, 101, 102, 103, 104, 105, 106, 107, 108, 109, 110] (by decide +kernel) (by decide +kernel)
set_option maxRecDepth 20000 in
theorem gX6_stop_X1_add : GoodIn wsX6_stop (wsV RX6 60 RX1 yX1_add wsX1_add) := goodIn_app (goodIn_of _ (by decide +kernel)) ggX6_stop_X1_add
theorem dX6_stop_0 : decode cX6_stop 0 = .ok (.aload_n 0, 1) := by decide +kernel
theorem dX6_stop_1 : decode cX6_stop 1 = .ok (.getfield 10, 3) := by decide +kernel
theorem dX6_stop_4 : decode cX6_stop 4 = .ok (.getfield 68, 3) := by decide +kernel
theorem dX6_stop_7 : decode cX6_stop 7 = .ok (.istore_n 1, 1) := by decide +kernel
theorem dX6_stop_8 : decode cX6_stop 8 = .ok (.iload_n 1, 1) := by decide +kernel
theorem dX6_stop_9 : decode cX6_stop 9 = .ok (.ifCond .ne 6, 3) := by decide +kernel
theorem dX6_stop_12 : decode cX6_stop 12 = .ok (.bipush (-5), 2) := by decide +kernel
theorem dX6_stop_14 : decode cX6_stop 14 = .ok (.ireturn, 1) := by decide +kernel
theorem dX6_stop_15 : decode cX6_stop 15 = .ok (.aload_n 0, 1) := by decide +kernel
theorem dX6_stop_16 : decode cX6_stop 16 = .ok (.getfield 29, 3) := by decide +kernel
theorem dX6_stop_19 : decode cX6_stop 19 = .ok (.aload_n 0, 1) := by decide +kernel
theorem dX6_stop_20 : decode cX6_stop 20 = .ok (.getfield 10, 3) := by decide +kernel
theorem dX6_stop_23 : decode cX6_stop 23 = .ok (.invokevirtual 60, 3) := by decide +kernel
theorem dX6_stop_26 : decode cX6_stop 26 = .ok (.aload_n 0, 1) := by decide +kernel
theorem dX6_stop_27 : decode cX6_stop 27 = .ok (.getfield 10, 3) := by decide +kernel
theorem dX6_stop_30 : decode cX6_stop 30 = .ok (.iconst 0, 1) := by decide +kernel
theorem dX6_stop_31 : decode cX6_stop 31 = .ok (.putfield 68, 3) := by decide +kernel
theorem dX6_stop_34 : decode cX6_stop 34 = .ok (.iload_n 1, 1) := by decide +kernel
theorem dX6_stop_35 : decode cX6_stop 35 = .ok (.ireturn, 1) := by decide +kernel
set_option maxRecDepth 20000 in
theorem ggX6_pass_X1_add : GoodIn wsX6_pass wsX1_add := goodIn_r _ [10, 11, 12, 13, 14, 15, 9, 16, 17, 18, 19, 20, 21, 22, 23, 24, 25, 26, 27, 28, 29, 30, 31, 32, 33, 34, 35, 36, 37, 38, 39, 40, 41, 42, 43, 44, 45, 46, 47, 48, 49, 50, 51, 52, 53, 54, 55, 56, 57, 58, 59, 60, 61, 62, 63, 64, 65, 66, 67, 68, 69, 70, 71, 72, 73, 190, 191, 178, 179, 180, 181, 182, 183, 184, 185, 186, 187, 188, 189, 192, 193, 194, 195, 196, 197, 198, 199, 200, 201, 202, 203, 204, 205, 206, 207, 208, 209] (by decide +kernel) (by decide +kernel)
set_option maxRecDepth 20000 in
theorem gX6_pass_X1_add : GoodIn wsX6_pass (wsV RX6 60 RX1 yX1_add wsX1_add) := goodIn_app (goodIn_of _ (by decide +kernel)) ggX6_pass_X1_add
set_option maxRecDepth 20000 in
theorem ggX6_pass_X4_passTicks : GoodIn wsX6_pass wsX4_passTicks := goodIn_r _ [77, 78, 79, 80, 20, 81, 30, 35, 22, 27, 33, 82, 83, 84, 85, 86, 87, 88, 89, 90, 91, 92, 29, 31, 34, 93, 94, 95, 66, 96, 70, 69, 72, 73, 68, 97, 98, 99, 100, 32, 37, 101, 102, 103, 104, 28, 105, 106, 107, 108, 109, 110, 55, 111, 57, 112, 113, 114, 115, 116, 117, 118, 119, 58, 60, 61, 120, 121, 122, 123, 124, 125, 126, 41, 127, 44, 43, 128, 129, 130, 131, 132, 133, 134, 135, 136, 137, 138, 139, 140, 141, 142, 143, 144, 46, 47, 48, 49, 145, 146, 147, 148, 149, 150, 151, 152, 36, 153, 154, 155, 156, 157, 158, 159, 160, 161, 162, 163, 164, 165, 166, 50, 167, 168, 169, 170, 178, 179, 180, 181, 182, 183, 184, 185, 186, 187, 188, 189, 205, 206, 207, 208, 209, 200, 201, 202, 203, 204, 192, 193, 194, 195, 196, 197, 198, 199] (by decide +kernel) (by decide +kernel)
set_option maxRecDepth 20000 in
theorem gX6_pass_X4_passTicks : GoodIn wsX6_pass (wsV RX6 133 RX4 yX4_passTicks wsX4_passTicks) := goodIn_app (goodIn_of _ (by decide +kernel)) ggX6_pass_X4_passTicks
theorem dX6_pass_0 : decode cX6_pass 0 = .ok (.iload_n 1, 1) := by decide +kernel
theorem dX6_pass_1 : decode cX6_pass 1 = .ok (.iconst 1, 1) := by decide +kernel
theorem dX6_pass_2 : decode cX6_pass 2 = .ok (.if_icmp .lt 10, 3) := by decide +kernel
theorem dX6_pass_5 : decode cX6_pass 5 = .ok (.iload_n 1, 1) := by decide +kernel
theorem dX6_pass_6 : decode cX6_pass 6 = .ok (.sipush 200, 3) := by decide +kernel
theorem dX6_pass_9 : decode cX6_pass 9 = .ok (.if_icmp .le 6, 3) := by decide +kernel
theorem dX6_pass_12 : decode cX6_pass 12 = .ok (.bipush (-2), 2) := by decide +kernel
theorem dX6_pass_14 : decode cX6_pass 14 = .ok (.ireturn, 1) := by decide +kernel
theorem dX6_pass_15 : decode cX6_pass 15 = .ok (.aload_n 0, 1) := by decide +kernel
theorem dX6_pass_16 : decode cX6_pass 16 = .ok (.getfield 10, 3) := by decide +kernel
theorem dX6_pass_19 : decode cX6_pass 19 = .ok (.getfield 129, 3) := by decide +kernel
theorem dX6_pass_22 : decode cX6_pass 22 = .ok (.iload_n 1, 1) := by decide +kernel
theorem dX6_pass_23 : decode cX6_pass 23 = .ok (.iadd, 1) := by decide +kernel
theorem dX6_pass_24 : decode cX6_pass 24 = .ok (.ldc 132, 2) := by decide +kernel
theorem dX6_pass_26 : decode cX6_pass 26 = .ok (.if_icmp .le 6, 3) := by decide +kernel
theorem dX6_pass_29 : decode cX6_pass 29 = .ok (.bipush (-3), 2) := by decide +kernel
theorem dX6_pass_31 : decode cX6_pass 31 = .ok (.ireturn, 1) := by decide +kernel
theorem dX6_pass_32 : decode cX6_pass 32 = .ok (.aload_n 0, 1) := by decide +kernel
theorem dX6_pass_33 : decode cX6_pass 33 = .ok (.getfield 29, 3) := by decide +kernel
theorem dX6_pass_36 : decode cX6_pass 36 = .ok (.aload_n 0, 1) := by decide +kernel
theorem dX6_pass_37 : decode cX6_pass 37 = .ok (.getfield 10, 3) := by decide +kernel
theorem dX6_pass_40 : decode cX6_pass 40 = .ok (.invokevirtual 60, 3) := by decide +kernel
theorem dX6_pass_43 : decode cX6_pass 43 = .ok (.aload_n 0, 1) := by decide +kernel
theorem dX6_pass_44 : decode cX6_pass 44 = .ok (.getfield 10, 3) := by decide +kernel
theorem dX6_pass_47 : decode cX6_pass 47 = .ok (.iload_n 1, 1) := by decide +kernel
theorem dX6_pass_48 : decode cX6_pass 48 = .ok (.invokevirtual 133, 3) := by decide +kernel
theorem dX6_pass_51 : decode cX6_pass 51 = .ok (.aload_n 0, 1) := by decide +kernel
theorem dX6_pass_52 : decode cX6_pass 52 = .ok (.getfield 10, 3) := by decide +kernel
theorem dX6_pass_55 : decode cX6_pass 55 = .ok (.getfield 68, 3) := by decide +kernel
theorem dX6_pass_58 : decode cX6_pass 58 = .ok (.ireturn, 1) := by decide +kernel
set_option maxRecDepth 20000 in
theorem ggX6_type_X5_add : GoodIn wsX6_type wsX5_add := goodIn_r _ [7, 8, 9, 17, 18, 19] (by decide +kernel) (by decide +kernel)
set_option maxRecDepth 20000 in
theorem gX6_type_X5_add : GoodIn wsX6_type (wsV RX6 139 RX5 yX5_add wsX5_add) := goodIn_app (goodIn_of _ (by decide +kernel)) ggX6_type_X5_add
theorem dX6_type_0 : decode cX6_type 0 = .ok (.aload_n 0, 1) := by decide +kernel
theorem dX6_type_1 : decode cX6_type 1 = .ok (.getfield 36, 3) := by decide +kernel
theorem dX6_type_4 : decode cX6_type 4 = .ok (.getfield 136, 3) := by decide +kernel
theorem dX6_type_7 : decode cX6_type 7 = .ok (.bipush 60, 2) := by decide +kernel
theorem dX6_type_9 : decode cX6_type 9 = .ok (.if_icmp .lt 6, 3) := by decide +kernel
theorem dX6_type_12 : decode cX6_type 12 = .ok (.bipush (-3), 2) := by decide +kernel
theorem dX6_type_14 : decode cX6_type 14 = .ok (.ireturn, 1) := by decide +kernel
theorem dX6_type_15 : decode cX6_type 15 = .ok (.aload_n 0, 1) := by decide +kernel
theorem dX6_type_16 : decode cX6_type 16 = .ok (.getfield 36, 3) := by decide +kernel
theorem dX6_type_19 : decode cX6_type 19 = .ok (.iload_n 1, 1) := by decide +kernel
theorem dX6_type_20 : decode cX6_type 20 = .ok (.invokevirtual 139, 3) := by decide +kernel
theorem dX6_type_23 : decode cX6_type 23 = .ok (.aload_n 0, 1) := by decide +kernel
theorem dX6_type_24 : decode cX6_type 24 = .ok (.getfield 36, 3) := by decide +kernel
theorem dX6_type_27 : decode cX6_type 27 = .ok (.getfield 136, 3) := by decide +kernel
theorem dX6_type_30 : decode cX6_type 30 = .ok (.ireturn, 1) := by decide +kernel
theorem dX6_clearText_0 : decode cX6_clearText 0 = .ok (.aload_n 0, 1) := by decide +kernel
theorem dX6_clearText_1 : decode cX6_clearText 1 = .ok (.getfield 36, 3) := by decide +kernel
theorem dX6_clearText_4 : decode cX6_clearText 4 = .ok (.getfield 136, 3) := by decide +kernel
theorem dX6_clearText_7 : decode cX6_clearText 7 = .ok (.istore_n 1, 1) := by decide +kernel
theorem dX6_clearText_8 : decode cX6_clearText 8 = .ok (.aload_n 0, 1) := by decide +kernel
theorem dX6_clearText_9 : decode cX6_clearText 9 = .ok (.getfield 36, 3) := by decide +kernel
theorem dX6_clearText_12 : decode cX6_clearText 12 = .ok (.iconst 0, 1) := by decide +kernel
theorem dX6_clearText_13 : decode cX6_clearText 13 = .ok (.putfield 136, 3) := by decide +kernel
theorem dX6_clearText_16 : decode cX6_clearText 16 = .ok (.iload_n 1, 1) := by decide +kernel
theorem dX6_clearText_17 : decode cX6_clearText 17 = .ok (.ireturn, 1) := by decide +kernel
set_option maxRecDepth 20000 in
theorem ggX6_undo_X1_takeInto : GoodIn wsX6_undo wsX1_takeInto := goodIn_r _ [8, 9, 10, 11, 12, 13, 14, 15, 16, 17, 18, 19, 20, 21, 22, 23, 24, 25, 26, 27, 28, 29, 30, 31, 32, 33, 34, 35, 36, 37, 38, 39, 40, 41, 42, 43, 44, 45, 46, 47, 48, 49, 50, 51, 52, 53, 54, 55, 56, 57, 58, 59, 60, 61, 62, 63, 64, 65, 66, 67, 75, 76, 77, 78, 79, 80, 81, 82, 83, 84, 85, 86, 87, 88, 89, 90, 91, 92, 93, 94, 95, 96, 97, 98, 99, 100, 101, 102, 103, 104, 105, 106] (by decide +kernel) (by decide +kernel)
set_option maxRecDepth 20000 in
theorem gX6_undo_X1_takeInto : GoodIn wsX6_undo (wsV RX6 145 RX1 yX1_takeInto wsX1_takeInto) := goodIn_app (goodIn_of _ (by decide +kernel)) ggX6_undo_X1_takeInto
theorem dX6_undo_0 : decode cX6_undo 0 = .ok (.aload_n 0, 1) := by decide +kernel
theorem dX6_undo_1 : decode cX6_undo 1 = .ok (.getfield 29, 3) := by decide +kernel
theorem dX6_undo_4 : decode cX6_undo 4 = .ok (.getfield 142, 3) := by decide +kernel
theorem dX6_undo_7 : decode cX6_undo 7 = .ok (.ifCond .ne 6, 3) := by decide +kernel
theorem dX6_undo_10 : decode cX6_undo 10 = .ok (.bipush (-5), 2) := by decide +kernel
theorem dX6_undo_12 : decode cX6_undo 12 = .ok (.ireturn, 1) := by decide +kernel
theorem dX6_undo_13 : decode cX6_undo 13 = .ok (.aload_n 0, 1) := by decide +kernel
theorem dX6_undo_14 : decode cX6_undo 14 = .ok (.getfield 29, 3) := by decide +kernel
theorem dX6_undo_17 : decode cX6_undo 17 = .ok (.aload_n 0, 1) := by decide +kernel
theorem dX6_undo_18 : decode cX6_undo 18 = .ok (.getfield 10, 3) := by decide +kernel
theorem dX6_undo_21 : decode cX6_undo 21 = .ok (.invokevirtual 145, 3) := by decide +kernel
theorem dX6_undo_24 : decode cX6_undo 24 = .ok (.aload_n 0, 1) := by decide +kernel
theorem dX6_undo_25 : decode cX6_undo 25 = .ok (.getfield 29, 3) := by decide +kernel
theorem dX6_undo_28 : decode cX6_undo 28 = .ok (.getfield 142, 3) := by decide +kernel
theorem dX6_undo_31 : decode cX6_undo 31 = .ok (.ireturn, 1) := by decide +kernel
set_option maxRecDepth 20000 in
theorem ggX6_keep_X4_copyFrom : GoodIn wsX6_keep wsX4_copyFrom := goodIn_r _ [9, 10, 11, 12, 13, 14, 15, 16, 17, 18, 19, 20, 21, 22, 23, 24, 25, 26, 27, 28, 29, 30, 31, 32, 33, 34, 35, 36, 37, 38, 39, 40, 41, 42, 43, 44, 45, 46, 47, 48, 49, 50, 51, 52, 53, 54, 55, 56, 57, 58, 59, 60, 61, 69, 70, 71, 72, 73, 74, 75, 76, 77, 78, 79, 80, 81, 82, 83, 84, 85, 86, 87, 88, 89, 90, 91, 92, 93, 94, 95, 96, 97, 98] (by decide +kernel) (by decide +kernel)
set_option maxRecDepth 20000 in
theorem gX6_keep_X4_copyFrom : GoodIn wsX6_keep (wsV RX6 148 RX4 yX4_copyFrom wsX4_copyFrom) := goodIn_app (goodIn_of _ (by decide +kernel)) ggX6_keep_X4_copyFrom
theorem dX6_keep_0 : decode cX6_keep 0 = .ok (.aload_n 0, 1) := by decide +kernel
theorem dX6_keep_1 : decode cX6_keep 1 = .ok (.getfield 19, 3) := by decide +kernel
theorem dX6_keep_4 : decode cX6_keep 4 = .ok (.aload_n 0, 1) := by decide +kernel
theorem dX6_keep_5 : decode cX6_keep 5 = .ok (.getfield 10, 3) := by decide +kernel
theorem dX6_keep_8 : decode cX6_keep 8 = .ok (.invokevirtual 148, 3) := by decide +kernel
theorem dX6_keep_11 : decode cX6_keep 11 = .ok (.aload_n 0, 1) := by decide +kernel
theorem dX6_keep_12 : decode cX6_keep 12 = .ok (.iconst 1, 1) := by decide +kernel
theorem dX6_keep_13 : decode cX6_keep 13 = .ok (.putfield 22, 3) := by decide +kernel
theorem dX6_keep_16 : decode cX6_keep 16 = .ok (.aload_n 0, 1) := by decide +kernel
theorem dX6_keep_17 : decode cX6_keep 17 = .ok (.getfield 10, 3) := by decide +kernel
theorem dX6_keep_20 : decode cX6_keep 20 = .ok (.getfield 129, 3) := by decide +kernel
theorem dX6_keep_23 : decode cX6_keep 23 = .ok (.ireturn, 1) := by decide +kernel
set_option maxRecDepth 20000 in
theorem ggX6_restore_X1_add : GoodIn wsX6_restore wsX1_add := goodIn_r _ [10, 11, 12, 13, 14, 15, 9, 16, 17, 18, 19, 20, 21, 22, 23, 24, 25, 26, 27, 28, 29, 30, 31, 32, 33, 34, 35, 36, 37, 38, 39, 40, 41, 42, 43, 44, 45, 46, 47, 48, 49, 50, 51, 52, 53, 54, 55, 56, 57, 58, 59, 60, 61, 62, 63, 64, 65, 66, 67, 68, 69, 70, 71, 72, 73, 94, 95, 82, 83, 84, 85, 86, 87, 88, 89, 90, 91, 92, 93, 96, 97, 98, 99, 100, 101, 102, 103, 104, 105, 106, 107, 108, 109, 110, 111, 112, 113] (by decide +kernel) (by decide +kernel)
set_option maxRecDepth 20000 in
theorem gX6_restore_X1_add : GoodIn wsX6_restore (wsV RX6 60 RX1 yX1_add wsX1_add) := goodIn_app (goodIn_of _ (by decide +kernel)) ggX6_restore_X1_add
set_option maxRecDepth 20000 in
theorem ggX6_restore_X4_copyFrom : GoodIn wsX6_restore wsX4_copyFrom := goodIn_r _ [21, 22, 23, 24, 25, 26, 27, 28, 29, 30, 31, 32, 33, 34, 35, 36, 37, 38, 39, 40, 41, 42, 43, 44, 45, 46, 47, 48, 49, 50, 51, 52, 53, 54, 55, 56, 57, 58, 59, 60, 61, 62, 63, 64, 65, 66, 67, 68, 69, 70, 71, 72, 73, 82, 83, 84, 85, 86, 87, 88, 89, 90, 91, 92, 93, 96, 97, 98, 99, 100, 101, 102, 103, 104, 105, 106, 107, 108, 109, 110, 111, 112, 113] (by decide +kernel) (by decide +kernel)
set_option maxRecDepth 20000 in
theorem gX6_restore_X4_copyFrom : GoodIn wsX6_restore (wsV RX6 148 RX4 yX4_copyFrom wsX4_copyFrom) := goodIn_app (goodIn_of _ (by decide +kernel)) ggX6_restore_X4_copyFrom
theorem dX6_restore_0 : decode cX6_restore 0 = .ok (.aload_n 0, 1) := by decide +kernel
theorem dX6_restore_1 : decode cX6_restore 1 = .ok (.getfield 22, 3) := by decide +kernel
theorem dX6_restore_4 : decode cX6_restore 4 = .ok (.ifCond .ne 6, 3) := by decide +kernel
theorem dX6_restore_7 : decode cX6_restore 7 = .ok (.bipush (-5), 2) := by decide +kernel
theorem dX6_restore_9 : decode cX6_restore 9 = .ok (.ireturn, 1) := by decide +kernel
theorem dX6_restore_10 : decode cX6_restore 10 = .ok (.aload_n 0, 1) := by decide +kernel
theorem dX6_restore_11 : decode cX6_restore 11 = .ok (.getfield 29, 3) := by decide +kernel
theorem dX6_restore_14 : decode cX6_restore 14 = .ok (.aload_n 0, 1) := by decide +kernel
theorem dX6_restore_15 : decode cX6_restore 15 = .ok (.getfield 10, 3) := by decide +kernel
theorem dX6_restore_18 : decode cX6_restore 18 = .ok (.invokevirtual 60, 3) := by decide +kernel
theorem dX6_restore_21 : decode cX6_restore 21 = .ok (.aload_n 0, 1) := by decide +kernel
theorem dX6_restore_22 : decode cX6_restore 22 = .ok (.getfield 10, 3) := by decide +kernel
theorem dX6_restore_25 : decode cX6_restore 25 = .ok (.aload_n 0, 1) := by decide +kernel
theorem dX6_restore_26 : decode cX6_restore 26 = .ok (.getfield 19, 3) := by decide +kernel
theorem dX6_restore_29 : decode cX6_restore 29 = .ok (.invokevirtual 148, 3) := by decide +kernel
theorem dX6_restore_32 : decode cX6_restore 32 = .ok (.aload_n 0, 1) := by decide +kernel
theorem dX6_restore_33 : decode cX6_restore 33 = .ok (.getfield 10, 3) := by decide +kernel
theorem dX6_restore_36 : decode cX6_restore 36 = .ok (.getfield 129, 3) := by decide +kernel
theorem dX6_restore_39 : decode cX6_restore 39 = .ok (.ireturn, 1) := by decide +kernel
set_option maxRecDepth 20000 in
theorem ggX6_cell_X0_has : GoodIn wsX6_cell wsX0_has := goodIn_r _ [15, 16, 40, 41, 42, 43, 44, 45, 46, 47] (by decide +kernel) (by decide +kernel)
set_option maxRecDepth 20000 in
theorem gX6_cell_X0_has : GoodIn wsX6_cell (wsV RX6 71 RX0 yX0_has wsX0_has) := goodIn_app (goodIn_of _ (by decide +kernel)) ggX6_cell_X0_has
set_option maxRecDepth 20000 in
theorem ggX6_cell_X6_baseVoltage : GoodIn wsX6_cell wsX6_baseVoltage := goodIn_r _ [20] (by decide +kernel) (by decide +kernel)
set_option maxRecDepth 20000 in
theorem gX6_cell_X6_baseVoltage : GoodIn wsX6_cell (va_wsS RX6 150 yX6_baseVoltage wsX6_baseVoltage) := goodIn_app (goodIn_of _ (by decide +kernel)) ggX6_cell_X6_baseVoltage
theorem dX6_cell_0 : decode cX6_cell 0 = .ok (.aload_n 0, 1) := by decide +kernel
theorem dX6_cell_1 : decode cX6_cell 1 = .ok (.getfield 10, 3) := by decide +kernel
theorem dX6_cell_4 : decode cX6_cell 4 = .ok (.getfield 50, 3) := by decide +kernel
theorem dX6_cell_7 : decode cX6_cell 7 = .ok (.iload_n 1, 1) := by decide +kernel
theorem dX6_cell_8 : decode cX6_cell 8 = .ok (.invokevirtual 71, 3) := by decide +kernel
theorem dX6_cell_11 : decode cX6_cell 11 = .ok (.ifCond .ne 5, 3) := by decide +kernel
theorem dX6_cell_14 : decode cX6_cell 14 = .ok (.iconst (-1), 1) := by decide +kernel
theorem dX6_cell_15 : decode cX6_cell 15 = .ok (.ireturn, 1) := by decide +kernel
theorem dX6_cell_16 : decode cX6_cell 16 = .ok (.iload_n 2, 1) := by decide +kernel
theorem dX6_cell_17 : decode cX6_cell 17 = .ok (.tableswitch 193 0 8 #[51, 64, 89, 102, 115, 128, 141, 154, 167], 51) := by decide +kernel
theorem dX6_cell_68 : decode cX6_cell 68 = .ok (.aload_n 0, 1) := by decide +kernel
theorem dX6_cell_69 : decode cX6_cell 69 = .ok (.getfield 10, 3) := by decide +kernel
theorem dX6_cell_72 : decode cX6_cell 72 = .ok (.getfield 50, 3) := by decide +kernel
theorem dX6_cell_75 : decode cX6_cell 75 = .ok (.getfield 79, 3) := by decide +kernel
theorem dX6_cell_78 : decode cX6_cell 78 = .ok (.iload_n 1, 1) := by decide +kernel
theorem dX6_cell_79 : decode cX6_cell 79 = .ok (.iaload, 1) := by decide +kernel
theorem dX6_cell_80 : decode cX6_cell 80 = .ok (.ireturn, 1) := by decide +kernel
theorem dX6_cell_81 : decode cX6_cell 81 = .ok (.aload_n 0, 1) := by decide +kernel
theorem dX6_cell_82 : decode cX6_cell 82 = .ok (.getfield 10, 3) := by decide +kernel
theorem dX6_cell_85 : decode cX6_cell 85 = .ok (.getfield 50, 3) := by decide +kernel
theorem dX6_cell_88 : decode cX6_cell 88 = .ok (.getfield 79, 3) := by decide +kernel
theorem dX6_cell_91 : decode cX6_cell 91 = .ok (.iload_n 1, 1) := by decide +kernel
theorem dX6_cell_92 : decode cX6_cell 92 = .ok (.iaload, 1) := by decide +kernel
theorem dX6_cell_93 : decode cX6_cell 93 = .ok (.aload_n 0, 1) := by decide +kernel
theorem dX6_cell_94 : decode cX6_cell 94 = .ok (.getfield 10, 3) := by decide +kernel
theorem dX6_cell_97 : decode cX6_cell 97 = .ok (.getfield 75, 3) := by decide +kernel
theorem dX6_cell_100 : decode cX6_cell 100 = .ok (.iconst 0, 1) := by decide +kernel
theorem dX6_cell_101 : decode cX6_cell 101 = .ok (.iaload, 1) := by decide +kernel
theorem dX6_cell_102 : decode cX6_cell 102 = .ok (.invokestatic 150, 3) := by decide +kernel
theorem dX6_cell_105 : decode cX6_cell 105 = .ok (.ireturn, 1) := by decide +kernel
theorem dX6_cell_106 : decode cX6_cell 106 = .ok (.aload_n 0, 1) := by decide +kernel
theorem dX6_cell_107 : decode cX6_cell 107 = .ok (.getfield 10, 3) := by decide +kernel
theorem dX6_cell_110 : decode cX6_cell 110 = .ok (.getfield 50, 3) := by decide +kernel
theorem dX6_cell_113 : decode cX6_cell 113 = .ok (.getfield 82, 3) := by decide +kernel
theorem dX6_cell_116 : decode cX6_cell 116 = .ok (.iload_n 1, 1) := by decide +kernel
theorem dX6_cell_117 : decode cX6_cell 117 = .ok (.iaload, 1) := by decide +kernel
theorem dX6_cell_118 : decode cX6_cell 118 = .ok (.ireturn, 1) := by decide +kernel
theorem dX6_cell_119 : decode cX6_cell 119 = .ok (.aload_n 0, 1) := by decide +kernel
theorem dX6_cell_120 : decode cX6_cell 120 = .ok (.getfield 10, 3) := by decide +kernel
theorem dX6_cell_123 : decode cX6_cell 123 = .ok (.getfield 50, 3) := by decide +kernel
theorem dX6_cell_126 : decode cX6_cell 126 = .ok (.getfield 154, 3) := by decide +kernel
theorem dX6_cell_129 : decode cX6_cell 129 = .ok (.iload_n 1, 1) := by decide +kernel
theorem dX6_cell_130 : decode cX6_cell 130 = .ok (.iaload, 1) := by decide +kernel
theorem dX6_cell_131 : decode cX6_cell 131 = .ok (.ireturn, 1) := by decide +kernel
theorem dX6_cell_132 : decode cX6_cell 132 = .ok (.aload_n 0, 1) := by decide +kernel
theorem dX6_cell_133 : decode cX6_cell 133 = .ok (.getfield 10, 3) := by decide +kernel
theorem dX6_cell_136 : decode cX6_cell 136 = .ok (.getfield 50, 3) := by decide +kernel
theorem dX6_cell_139 : decode cX6_cell 139 = .ok (.getfield 157, 3) := by decide +kernel
theorem dX6_cell_142 : decode cX6_cell 142 = .ok (.iload_n 1, 1) := by decide +kernel
theorem dX6_cell_143 : decode cX6_cell 143 = .ok (.iaload, 1) := by decide +kernel
theorem dX6_cell_144 : decode cX6_cell 144 = .ok (.ireturn, 1) := by decide +kernel
theorem dX6_cell_145 : decode cX6_cell 145 = .ok (.aload_n 0, 1) := by decide +kernel
theorem dX6_cell_146 : decode cX6_cell 146 = .ok (.getfield 10, 3) := by decide +kernel
theorem dX6_cell_149 : decode cX6_cell 149 = .ok (.getfield 50, 3) := by decide +kernel
theorem dX6_cell_152 : decode cX6_cell 152 = .ok (.getfield 160, 3) := by decide +kernel
theorem dX6_cell_155 : decode cX6_cell 155 = .ok (.iload_n 1, 1) := by decide +kernel
theorem dX6_cell_156 : decode cX6_cell 156 = .ok (.iaload, 1) := by decide +kernel
theorem dX6_cell_157 : decode cX6_cell 157 = .ok (.ireturn, 1) := by decide +kernel
theorem dX6_cell_158 : decode cX6_cell 158 = .ok (.aload_n 0, 1) := by decide +kernel
theorem dX6_cell_159 : decode cX6_cell 159 = .ok (.getfield 10, 3) := by decide +kernel
theorem dX6_cell_162 : decode cX6_cell 162 = .ok (.getfield 50, 3) := by decide +kernel
theorem dX6_cell_165 : decode cX6_cell 165 = .ok (.getfield 163, 3) := by decide +kernel
theorem dX6_cell_168 : decode cX6_cell 168 = .ok (.iload_n 1, 1) := by decide +kernel
theorem dX6_cell_169 : decode cX6_cell 169 = .ok (.iaload, 1) := by decide +kernel
theorem dX6_cell_170 : decode cX6_cell 170 = .ok (.ireturn, 1) := by decide +kernel
theorem dX6_cell_171 : decode cX6_cell 171 = .ok (.aload_n 0, 1) := by decide +kernel
theorem dX6_cell_172 : decode cX6_cell 172 = .ok (.getfield 10, 3) := by decide +kernel
theorem dX6_cell_175 : decode cX6_cell 175 = .ok (.getfield 50, 3) := by decide +kernel
theorem dX6_cell_178 : decode cX6_cell 178 = .ok (.getfield 166, 3) := by decide +kernel
theorem dX6_cell_181 : decode cX6_cell 181 = .ok (.iload_n 1, 1) := by decide +kernel
theorem dX6_cell_182 : decode cX6_cell 182 = .ok (.iaload, 1) := by decide +kernel
theorem dX6_cell_183 : decode cX6_cell 183 = .ok (.ireturn, 1) := by decide +kernel
theorem dX6_cell_184 : decode cX6_cell 184 = .ok (.aload_n 0, 1) := by decide +kernel
theorem dX6_cell_185 : decode cX6_cell 185 = .ok (.getfield 10, 3) := by decide +kernel
theorem dX6_cell_188 : decode cX6_cell 188 = .ok (.getfield 50, 3) := by decide +kernel
theorem dX6_cell_191 : decode cX6_cell 191 = .ok (.getfield 154, 3) := by decide +kernel
theorem dX6_cell_194 : decode cX6_cell 194 = .ok (.iload_n 1, 1) := by decide +kernel
theorem dX6_cell_195 : decode cX6_cell 195 = .ok (.iaload, 1) := by decide +kernel
theorem dX6_cell_196 : decode cX6_cell 196 = .ok (.aload_n 0, 1) := by decide +kernel
theorem dX6_cell_197 : decode cX6_cell 197 = .ok (.getfield 10, 3) := by decide +kernel
theorem dX6_cell_200 : decode cX6_cell 200 = .ok (.getfield 50, 3) := by decide +kernel
theorem dX6_cell_203 : decode cX6_cell 203 = .ok (.getfield 157, 3) := by decide +kernel
theorem dX6_cell_206 : decode cX6_cell 206 = .ok (.iload_n 1, 1) := by decide +kernel
theorem dX6_cell_207 : decode cX6_cell 207 = .ok (.iaload, 1) := by decide +kernel
theorem dX6_cell_208 : decode cX6_cell 208 = .ok (.isub, 1) := by decide +kernel
theorem dX6_cell_209 : decode cX6_cell 209 = .ok (.ireturn, 1) := by decide +kernel
theorem dX6_cell_210 : decode cX6_cell 210 = .ok (.bipush (-2), 2) := by decide +kernel
theorem dX6_cell_212 : decode cX6_cell 212 = .ok (.ireturn, 1) := by decide +kernel
set_option maxRecDepth 20000 in
theorem ggX6_setting_X6_isSetting : GoodIn wsX6_setting wsX6_isSetting := goodIn_r _ [6] (by decide +kernel) (by decide +kernel)
set_option maxRecDepth 20000 in
theorem gX6_setting_X6_isSetting : GoodIn wsX6_setting (va_wsS RX6 92 yX6_isSetting wsX6_isSetting) := goodIn_app (goodIn_of _ (by decide +kernel)) ggX6_setting_X6_isSetting
theorem dX6_setting_0 : decode cX6_setting 0 = .ok (.iload_n 1, 1) := by decide +kernel
theorem dX6_setting_1 : decode cX6_setting 1 = .ok (.invokestatic 92, 3) := by decide +kernel
theorem dX6_setting_4 : decode cX6_setting 4 = .ok (.ifCond .eq 19, 3) := by decide +kernel
theorem dX6_setting_7 : decode cX6_setting 7 = .ok (.aload_n 0, 1) := by decide +kernel
theorem dX6_setting_8 : decode cX6_setting 8 = .ok (.getfield 10, 3) := by decide +kernel
theorem dX6_setting_11 : decode cX6_setting 11 = .ok (.getfield 75, 3) := by decide +kernel
theorem dX6_setting_14 : decode cX6_setting 14 = .ok (.iload_n 1, 1) := by decide +kernel
theorem dX6_setting_15 : decode cX6_setting 15 = .ok (.iaload, 1) := by decide +kernel
theorem dX6_setting_16 : decode cX6_setting 16 = .ok (.sipush 1000, 3) := by decide +kernel
theorem dX6_setting_19 : decode cX6_setting 19 = .ok (.iadd, 1) := by decide +kernel
theorem dX6_setting_20 : decode cX6_setting 20 = .ok (.goto 4, 3) := by decide +kernel
theorem dX6_setting_23 : decode cX6_setting 23 = .ok (.iconst (-1), 1) := by decide +kernel
theorem dX6_setting_24 : decode cX6_setting 24 = .ok (.ireturn, 1) := by decide +kernel
set_option maxRecDepth 20000 in
theorem ggX6_stage_X3_has : GoodIn wsX6_stage wsX3_has := goodIn_r _ [11, 12, 46, 47, 48, 49, 50] (by decide +kernel) (by decide +kernel)
set_option maxRecDepth 20000 in
theorem gX6_stage_X3_has : GoodIn wsX6_stage (wsV RX6 169 RX3 yX3_has wsX3_has) := goodIn_app (goodIn_of _ (by decide +kernel)) ggX6_stage_X3_has
set_option maxRecDepth 20000 in
theorem ggX6_stage_X4_limitOfNow : GoodIn wsX6_stage wsX4_limitOfNow := goodIn_r _ [17, 18, 19, 20, 21, 22, 10, 23, 24, 25, 26, 34, 35, 36, 37, 38, 39, 40, 41, 42, 43, 44, 45, 46, 47, 48, 49, 50] (by decide +kernel) (by decide +kernel)
set_option maxRecDepth 20000 in
theorem gX6_stage_X4_limitOfNow : GoodIn wsX6_stage (wsV RX6 182 RX4 yX4_limitOfNow wsX4_limitOfNow) := goodIn_app (goodIn_of _ (by decide +kernel)) ggX6_stage_X4_limitOfNow
theorem dX6_stage_0 : decode cX6_stage 0 = .ok (.aload_n 0, 1) := by decide +kernel
theorem dX6_stage_1 : decode cX6_stage 1 = .ok (.getfield 10, 3) := by decide +kernel
theorem dX6_stage_4 : decode cX6_stage 4 = .ok (.getfield 116, 3) := by decide +kernel
theorem dX6_stage_7 : decode cX6_stage 7 = .ok (.astore_n 3, 1) := by decide +kernel
theorem dX6_stage_8 : decode cX6_stage 8 = .ok (.aload_n 3, 1) := by decide +kernel
theorem dX6_stage_9 : decode cX6_stage 9 = .ok (.iload_n 1, 1) := by decide +kernel
theorem dX6_stage_10 : decode cX6_stage 10 = .ok (.invokevirtual 169, 3) := by decide +kernel
theorem dX6_stage_13 : decode cX6_stage 13 = .ok (.ifCond .ne 5, 3) := by decide +kernel
theorem dX6_stage_16 : decode cX6_stage 16 = .ok (.iconst (-1), 1) := by decide +kernel
theorem dX6_stage_17 : decode cX6_stage 17 = .ok (.ireturn, 1) := by decide +kernel
theorem dX6_stage_18 : decode cX6_stage 18 = .ok (.iload_n 2, 1) := by decide +kernel
theorem dX6_stage_19 : decode cX6_stage 19 = .ok (.tableswitch 85 0 4 #[33, 40, 47, 54, 61], 33) := by decide +kernel
theorem dX6_stage_52 : decode cX6_stage 52 = .ok (.aload_n 3, 1) := by decide +kernel
theorem dX6_stage_53 : decode cX6_stage 53 = .ok (.getfield 170, 3) := by decide +kernel
theorem dX6_stage_56 : decode cX6_stage 56 = .ok (.iload_n 1, 1) := by decide +kernel
theorem dX6_stage_57 : decode cX6_stage 57 = .ok (.iaload, 1) := by decide +kernel
theorem dX6_stage_58 : decode cX6_stage 58 = .ok (.ireturn, 1) := by decide +kernel
theorem dX6_stage_59 : decode cX6_stage 59 = .ok (.aload_n 3, 1) := by decide +kernel
theorem dX6_stage_60 : decode cX6_stage 60 = .ok (.getfield 173, 3) := by decide +kernel
theorem dX6_stage_63 : decode cX6_stage 63 = .ok (.iload_n 1, 1) := by decide +kernel
theorem dX6_stage_64 : decode cX6_stage 64 = .ok (.iaload, 1) := by decide +kernel
theorem dX6_stage_65 : decode cX6_stage 65 = .ok (.ireturn, 1) := by decide +kernel
theorem dX6_stage_66 : decode cX6_stage 66 = .ok (.aload_n 3, 1) := by decide +kernel
theorem dX6_stage_67 : decode cX6_stage 67 = .ok (.getfield 176, 3) := by decide +kernel
theorem dX6_stage_70 : decode cX6_stage 70 = .ok (.iload_n 1, 1) := by decide +kernel
theorem dX6_stage_71 : decode cX6_stage 71 = .ok (.iaload, 1) := by decide +kernel
theorem dX6_stage_72 : decode cX6_stage 72 = .ok (.ireturn, 1) := by decide +kernel
theorem dX6_stage_73 : decode cX6_stage 73 = .ok (.aload_n 3, 1) := by decide +kernel
theorem dX6_stage_74 : decode cX6_stage 74 = .ok (.getfield 179, 3) := by decide +kernel
theorem dX6_stage_77 : decode cX6_stage 77 = .ok (.iload_n 1, 1) := by decide +kernel
theorem dX6_stage_78 : decode cX6_stage 78 = .ok (.iaload, 1) := by decide +kernel
theorem dX6_stage_79 : decode cX6_stage 79 = .ok (.ireturn, 1) := by decide +kernel
theorem dX6_stage_80 : decode cX6_stage 80 = .ok (.aload_n 3, 1) := by decide +kernel
theorem dX6_stage_81 : decode cX6_stage 81 = .ok (.getfield 170, 3) := by decide +kernel
theorem dX6_stage_84 : decode cX6_stage 84 = .ok (.iload_n 1, 1) := by decide +kernel
theorem dX6_stage_85 : decode cX6_stage 85 = .ok (.iaload, 1) := by decide +kernel
theorem dX6_stage_86 : decode cX6_stage 86 = .ok (.iconst 2, 1) := by decide +kernel
theorem dX6_stage_87 : decode cX6_stage 87 = .ok (.if_icmp .ne 8, 3) := by decide +kernel
theorem dX6_stage_90 : decode cX6_stage 90 = .ok (.bipush (-5), 2) := by decide +kernel
theorem dX6_stage_92 : decode cX6_stage 92 = .ok (.goto 11, 3) := by decide +kernel
theorem dX6_stage_95 : decode cX6_stage 95 = .ok (.aload_n 0, 1) := by decide +kernel
theorem dX6_stage_96 : decode cX6_stage 96 = .ok (.getfield 10, 3) := by decide +kernel
theorem dX6_stage_99 : decode cX6_stage 99 = .ok (.iload_n 1, 1) := by decide +kernel
theorem dX6_stage_100 : decode cX6_stage 100 = .ok (.invokevirtual 182, 3) := by decide +kernel
theorem dX6_stage_103 : decode cX6_stage 103 = .ok (.ireturn, 1) := by decide +kernel
theorem dX6_stage_104 : decode cX6_stage 104 = .ok (.bipush (-2), 2) := by decide +kernel
theorem dX6_stage_106 : decode cX6_stage 106 = .ok (.ireturn, 1) := by decide +kernel
set_option maxRecDepth 20000 in
theorem ggX6_voltage_X4_greatestVoltage : GoodIn wsX6_voltage wsX4_greatestVoltage := goodIn_r _ [6, 7, 8, 9, 10, 11, 12, 13, 14, 15, 16, 17, 18, 19, 20, 21, 22, 30, 31, 32, 33, 34, 35, 36, 37, 38, 39, 40, 41, 42, 43, 44, 45, 46, 47, 48, 49] (by decide +kernel) (by decide +kernel)
set_option maxRecDepth 20000 in
theorem gX6_voltage_X4_greatestVoltage : GoodIn wsX6_voltage (wsV RX6 186 RX4 yX4_greatestVoltage wsX4_greatestVoltage) := goodIn_app (goodIn_of _ (by decide +kernel)) ggX6_voltage_X4_greatestVoltage
theorem dX6_voltage_0 : decode cX6_voltage 0 = .ok (.iload_n 1, 1) := by decide +kernel
theorem dX6_voltage_1 : decode cX6_voltage 1 = .ok (.ifCond .lt 10, 3) := by decide +kernel
theorem dX6_voltage_4 : decode cX6_voltage 4 = .ok (.iload_n 1, 1) := by decide +kernel
theorem dX6_voltage_5 : decode cX6_voltage 5 = .ok (.sipush 2000, 3) := by decide +kernel
theorem dX6_voltage_8 : decode cX6_voltage 8 = .ok (.if_icmp .le 8, 3) := by decide +kernel
theorem dX6_voltage_11 : decode cX6_voltage 11 = .ok (.bipush (-2), 2) := by decide +kernel
theorem dX6_voltage_13 : decode cX6_voltage 13 = .ok (.goto 11, 3) := by decide +kernel
theorem dX6_voltage_16 : decode cX6_voltage 16 = .ok (.aload_n 0, 1) := by decide +kernel
theorem dX6_voltage_17 : decode cX6_voltage 17 = .ok (.getfield 10, 3) := by decide +kernel
theorem dX6_voltage_20 : decode cX6_voltage 20 = .ok (.iload_n 1, 1) := by decide +kernel
theorem dX6_voltage_21 : decode cX6_voltage 21 = .ok (.invokevirtual 186, 3) := by decide +kernel
theorem dX6_voltage_24 : decode cX6_voltage 24 = .ok (.ireturn, 1) := by decide +kernel
set_option maxRecDepth 20000 in
theorem ggX6_current_X4_isPaused : GoodIn wsX6_current wsX4_isPaused := goodIn_r _ [11, 12, 13, 14, 15, 16, 72, 73, 74, 75, 76, 77, 78, 79, 80, 81, 82, 83] (by decide +kernel) (by decide +kernel)
set_option maxRecDepth 20000 in
theorem gX6_current_X4_isPaused : GoodIn wsX6_current (wsV RX6 189 RX4 yX4_isPaused wsX4_isPaused) := goodIn_app (goodIn_of _ (by decide +kernel)) ggX6_current_X4_isPaused
set_option maxRecDepth 20000 in
theorem ggX6_current_X4_currentOfStage : GoodIn wsX6_current wsX4_currentOfStage := goodIn_r _ [20, 21, 22, 23, 24, 25, 26, 27, 28, 29, 30, 31, 32, 33, 34, 10, 35, 13, 36, 37, 38, 39, 40, 41, 42, 43, 44, 45, 46, 47, 48, 49, 50, 51, 52, 53, 54, 55, 4, 5, 6, 56, 15, 57, 58, 59, 60, 61, 62, 63, 64, 72, 73, 74, 75, 76, 77, 78, 79, 80, 81, 82, 83, 84, 85, 86, 87, 88, 89, 90, 91, 92, 93, 94, 95, 96] (by decide +kernel) (by decide +kernel)
set_option maxRecDepth 20000 in
theorem gX6_current_X4_currentOfStage : GoodIn wsX6_current (wsV RX6 192 RX4 yX4_currentOfStage wsX4_currentOfStage) := goodIn_app (goodIn_of _ (by decide +kernel)) ggX6_current_X4_currentOfStage
theorem dX6_current_0 : decode cX6_current 0 = .ok (.aload_n 0, 1) := by decide +kernel
theorem dX6_current_1 : decode cX6_current 1 = .ok (.getfield 10, 3) := by decide +kernel
theorem dX6_current_4 : decode cX6_current 4 = .ok (.getfield 68, 3) := by decide +kernel
theorem dX6_current_7 : decode cX6_current 7 = .ok (.iconst 1, 1) := by decide +kernel
theorem dX6_current_8 : decode cX6_current 8 = .ok (.if_icmp .ne 13, 3) := by decide +kernel
theorem dX6_current_11 : decode cX6_current 11 = .ok (.aload_n 0, 1) := by decide +kernel
theorem dX6_current_12 : decode cX6_current 12 = .ok (.getfield 10, 3) := by decide +kernel
theorem dX6_current_15 : decode cX6_current 15 = .ok (.invokevirtual 189, 3) := by decide +kernel
theorem dX6_current_18 : decode cX6_current 18 = .ok (.ifCond .eq 7, 3) := by decide +kernel
theorem dX6_current_21 : decode cX6_current 21 = .ok (.iconst 0, 1) := by decide +kernel
theorem dX6_current_22 : decode cX6_current 22 = .ok (.goto 14, 3) := by decide +kernel
theorem dX6_current_25 : decode cX6_current 25 = .ok (.iconst 0, 1) := by decide +kernel
theorem dX6_current_26 : decode cX6_current 26 = .ok (.aload_n 0, 1) := by decide +kernel
theorem dX6_current_27 : decode cX6_current 27 = .ok (.getfield 10, 3) := by decide +kernel
theorem dX6_current_30 : decode cX6_current 30 = .ok (.invokevirtual 192, 3) := by decide +kernel
theorem dX6_current_33 : decode cX6_current 33 = .ok (.invokestatic 195, 3) := by decide +kernel
theorem dX6_current_36 : decode cX6_current 36 = .ok (.ireturn, 1) := by decide +kernel
set_option maxRecDepth 20000 in
theorem ggX6_doneIn_X4_copyFrom : GoodIn wsX6_doneIn wsX4_copyFrom := goodIn_r _ [8, 9, 10, 11, 12, 13, 14, 15, 16, 17, 18, 19, 20, 21, 22, 23, 24, 25, 26, 27, 28, 29, 30, 31, 32, 33, 34, 35, 36, 37, 38, 39, 40, 41, 42, 43, 44, 45, 46, 47, 48, 49, 50, 51, 52, 53, 54, 55, 56, 57, 58, 59, 60, 165, 166, 167, 168, 169, 170, 171, 172, 173, 174, 175, 176, 177, 178, 179, 180, 181, 182, 183, 184, 185, 186, 187, 188, 189, 190, 191, 192, 193, 194] (by decide +kernel) (by decide +kernel)
set_option maxRecDepth 20000 in
theorem gX6_doneIn_X4_copyFrom : GoodIn wsX6_doneIn (wsV RX6 148 RX4 yX4_copyFrom wsX4_copyFrom) := goodIn_app (goodIn_of _ (by decide +kernel)) ggX6_doneIn_X4_copyFrom
set_option maxRecDepth 20000 in
theorem ggX6_doneIn_X4_runUntilDone : GoodIn wsX6_doneIn wsX4_runUntilDone := goodIn_r _ [64, 17, 65, 66, 67, 7, 68, 9, 69, 70, 71, 72, 73, 74, 75, 22, 14, 20, 76, 77, 78, 79, 16, 18, 21, 80, 81, 82, 53, 83, 57, 56, 59, 60, 55, 84, 85, 86, 87, 19, 24, 88, 89, 90, 91, 15, 92, 93, 94, 95, 96, 97, 42, 98, 44, 99, 100, 101, 102, 103, 104, 105, 106, 45, 47, 48, 107, 108, 109, 110, 111, 112, 113, 28, 114, 31, 30, 115, 116, 117, 118, 119, 120, 121, 122, 123, 124, 125, 126, 127, 128, 129, 130, 131, 33, 34, 35, 36, 132, 133, 134, 135, 136, 137, 138, 139, 23, 140, 141, 142, 143, 144, 145, 146, 147, 148, 149, 150, 151, 152, 153, 37, 154, 155, 156, 157, 165, 166, 167, 168, 169, 170, 171, 172, 173, 174, 175, 176, 190, 191, 192, 193, 194, 185, 186, 187, 188, 189, 177, 178, 179, 180, 181, 182, 183, 184] (by decide +kernel) (by decide +kernel)
set_option maxRecDepth 20000 in
theorem gX6_doneIn_X4_runUntilDone : GoodIn wsX6_doneIn (wsV RX6 200 RX4 yX4_runUntilDone wsX4_runUntilDone) := goodIn_app (goodIn_of _ (by decide +kernel)) ggX6_doneIn_X4_runUntilDone
theorem dX6_doneIn_0 : decode cX6_doneIn 0 = .ok (.aload_n 0, 1) := by decide +kernel
theorem dX6_doneIn_1 : decode cX6_doneIn 1 = .ok (.getfield 10, 3) := by decide +kernel
theorem dX6_doneIn_4 : decode cX6_doneIn 4 = .ok (.getfield 68, 3) := by decide +kernel
theorem dX6_doneIn_7 : decode cX6_doneIn 7 = .ok (.iconst 2, 1) := by decide +kernel
theorem dX6_doneIn_8 : decode cX6_doneIn 8 = .ok (.if_icmp .ne 5, 3) := by decide +kernel
theorem dX6_doneIn_11 : decode cX6_doneIn 11 = .ok (.iconst 0, 1) := by decide +kernel
theorem dX6_doneIn_12 : decode cX6_doneIn 12 = .ok (.ireturn, 1) := by decide +kernel
theorem dX6_doneIn_13 : decode cX6_doneIn 13 = .ok (.aload_n 0, 1) := by decide +kernel
theorem dX6_doneIn_14 : decode cX6_doneIn 14 = .ok (.getfield 16, 3) := by decide +kernel
theorem dX6_doneIn_17 : decode cX6_doneIn 17 = .ok (.aload_n 0, 1) := by decide +kernel
theorem dX6_doneIn_18 : decode cX6_doneIn 18 = .ok (.getfield 10, 3) := by decide +kernel
theorem dX6_doneIn_21 : decode cX6_doneIn 21 = .ok (.invokevirtual 148, 3) := by decide +kernel
theorem dX6_doneIn_24 : decode cX6_doneIn 24 = .ok (.aload_n 0, 1) := by decide +kernel
theorem dX6_doneIn_25 : decode cX6_doneIn 25 = .ok (.getfield 16, 3) := by decide +kernel
theorem dX6_doneIn_28 : decode cX6_doneIn 28 = .ok (.sipush 2000, 3) := by decide +kernel
theorem dX6_doneIn_31 : decode cX6_doneIn 31 = .ok (.invokevirtual 200, 3) := by decide +kernel
theorem dX6_doneIn_34 : decode cX6_doneIn 34 = .ok (.ireturn, 1) := by decide +kernel
set_option maxRecDepth 20000 in
theorem ggX6_chargeIn_X0_has : GoodIn wsX6_chargeIn wsX0_has := goodIn_r _ [9, 10, 182, 183, 184, 185, 186, 187, 188, 189] (by decide +kernel) (by decide +kernel)
set_option maxRecDepth 20000 in
theorem gX6_chargeIn_X0_has : GoodIn wsX6_chargeIn (wsV RX6 71 RX0 yX0_has wsX0_has) := goodIn_app (goodIn_of _ (by decide +kernel)) ggX6_chargeIn_X0_has
set_option maxRecDepth 20000 in
theorem ggX6_chargeIn_X4_copyFrom : GoodIn wsX6_chargeIn wsX4_copyFrom := goodIn_r _ [15, 16, 17, 18, 19, 20, 21, 22, 23, 24, 25, 26, 27, 28, 29, 30, 31, 32, 33, 34, 8, 35, 10, 36, 37, 38, 39, 40, 41, 42, 43, 44, 45, 46, 47, 48, 49, 50, 51, 52, 53, 54, 55, 56, 57, 58, 59, 60, 61, 62, 63, 64, 65, 170, 171, 172, 173, 174, 175, 176, 177, 178, 179, 180, 181, 182, 183, 184, 185, 186, 187, 188, 189, 190, 191, 192, 193, 194, 195, 196, 197, 198, 199] (by decide +kernel) (by decide +kernel)
set_option maxRecDepth 20000 in
theorem gX6_chargeIn_X4_copyFrom : GoodIn wsX6_chargeIn (wsV RX6 148 RX4 yX4_copyFrom wsX4_copyFrom) := goodIn_app (goodIn_of _ (by decide +kernel)) ggX6_chargeIn_X4_copyFrom
set_option maxRecDepth 20000 in
theorem ggX6_chargeIn_X4_passTicks : GoodIn wsX6_chargeIn wsX4_passTicks := goodIn_r _ [69, 70, 71, 72, 14, 73, 24, 29, 16, 21, 27, 74, 75, 76, 77, 78, 79, 80, 81, 82, 83, 84, 23, 25, 28, 85, 86, 87, 58, 88, 62, 61, 64, 65, 60, 89, 90, 91, 92, 26, 31, 93, 94, 95, 96, 22, 97, 98, 99, 100, 101, 102, 47, 103, 49, 104, 105, 106, 107, 108, 109, 110, 111, 50, 52, 53, 112, 113, 114, 115, 116, 117, 118, 8, 119, 36, 10, 120, 121, 122, 123, 124, 125, 126, 127, 128, 129, 130, 131, 132, 133, 134, 135, 136, 38, 39, 40, 41, 137, 138, 139, 140, 141, 142, 143, 144, 30, 145, 146, 147, 148, 149, 150, 151, 152, 153, 154, 155, 156, 157, 158, 42, 159, 160, 161, 162, 170, 171, 172, 173, 174, 175, 176, 177, 178, 179, 180, 181, 195, 196, 197, 198, 199, 190, 191, 192, 193, 194, 182, 183, 184, 185, 186, 187, 188, 189] (by decide +kernel) (by decide +kernel)
set_option maxRecDepth 20000 in
theorem gX6_chargeIn_X4_passTicks : GoodIn wsX6_chargeIn (wsV RX6 133 RX4 yX4_passTicks wsX4_passTicks) := goodIn_app (goodIn_of _ (by decide +kernel)) ggX6_chargeIn_X4_passTicks
theorem dX6_chargeIn_0 : decode cX6_chargeIn 0 = .ok (.aload_n 0, 1) := by decide +kernel
theorem dX6_chargeIn_1 : decode cX6_chargeIn 1 = .ok (.getfield 10, 3) := by decide +kernel
theorem dX6_chargeIn_4 : decode cX6_chargeIn 4 = .ok (.getfield 50, 3) := by decide +kernel
theorem dX6_chargeIn_7 : decode cX6_chargeIn 7 = .ok (.iload_n 1, 1) := by decide +kernel
theorem dX6_chargeIn_8 : decode cX6_chargeIn 8 = .ok (.invokevirtual 71, 3) := by decide +kernel
theorem dX6_chargeIn_11 : decode cX6_chargeIn 11 = .ok (.ifCond .ne 5, 3) := by decide +kernel
theorem dX6_chargeIn_14 : decode cX6_chargeIn 14 = .ok (.iconst (-1), 1) := by decide +kernel
theorem dX6_chargeIn_15 : decode cX6_chargeIn 15 = .ok (.ireturn, 1) := by decide +kernel
theorem dX6_chargeIn_16 : decode cX6_chargeIn 16 = .ok (.iload_n 2, 1) := by decide +kernel
theorem dX6_chargeIn_17 : decode cX6_chargeIn 17 = .ok (.ifCond .lt 10, 3) := by decide +kernel
theorem dX6_chargeIn_20 : decode cX6_chargeIn 20 = .ok (.iload_n 2, 1) := by decide +kernel
theorem dX6_chargeIn_21 : decode cX6_chargeIn 21 = .ok (.sipush 200, 3) := by decide +kernel
theorem dX6_chargeIn_24 : decode cX6_chargeIn 24 = .ok (.if_icmp .le 6, 3) := by decide +kernel
theorem dX6_chargeIn_27 : decode cX6_chargeIn 27 = .ok (.bipush (-2), 2) := by decide +kernel
theorem dX6_chargeIn_29 : decode cX6_chargeIn 29 = .ok (.ireturn, 1) := by decide +kernel
theorem dX6_chargeIn_30 : decode cX6_chargeIn 30 = .ok (.aload_n 0, 1) := by decide +kernel
theorem dX6_chargeIn_31 : decode cX6_chargeIn 31 = .ok (.getfield 16, 3) := by decide +kernel
theorem dX6_chargeIn_34 : decode cX6_chargeIn 34 = .ok (.aload_n 0, 1) := by decide +kernel
theorem dX6_chargeIn_35 : decode cX6_chargeIn 35 = .ok (.getfield 10, 3) := by decide +kernel
theorem dX6_chargeIn_38 : decode cX6_chargeIn 38 = .ok (.invokevirtual 148, 3) := by decide +kernel
theorem dX6_chargeIn_41 : decode cX6_chargeIn 41 = .ok (.aload_n 0, 1) := by decide +kernel
theorem dX6_chargeIn_42 : decode cX6_chargeIn 42 = .ok (.getfield 16, 3) := by decide +kernel
theorem dX6_chargeIn_45 : decode cX6_chargeIn 45 = .ok (.iload_n 2, 1) := by decide +kernel
theorem dX6_chargeIn_46 : decode cX6_chargeIn 46 = .ok (.invokevirtual 133, 3) := by decide +kernel
theorem dX6_chargeIn_49 : decode cX6_chargeIn 49 = .ok (.aload_n 0, 1) := by decide +kernel
theorem dX6_chargeIn_50 : decode cX6_chargeIn 50 = .ok (.getfield 16, 3) := by decide +kernel
theorem dX6_chargeIn_53 : decode cX6_chargeIn 53 = .ok (.getfield 50, 3) := by decide +kernel
theorem dX6_chargeIn_56 : decode cX6_chargeIn 56 = .ok (.getfield 79, 3) := by decide +kernel
theorem dX6_chargeIn_59 : decode cX6_chargeIn 59 = .ok (.iload_n 1, 1) := by decide +kernel
theorem dX6_chargeIn_60 : decode cX6_chargeIn 60 = .ok (.iaload, 1) := by decide +kernel
theorem dX6_chargeIn_61 : decode cX6_chargeIn 61 = .ok (.ireturn, 1) := by decide +kernel
set_option maxRecDepth 20000 in
theorem ggX6_warmest_X4_copyFrom : GoodIn wsX6_warmest wsX4_copyFrom := goodIn_r _ [9, 10, 11, 12, 13, 14, 15, 16, 17, 18, 19, 20, 21, 22, 23, 24, 25, 26, 27, 28, 29, 30, 31, 32, 33, 34, 35, 36, 37, 38, 39, 40, 41, 42, 43, 44, 45, 46, 47, 48, 49, 50, 51, 52, 53, 54, 55, 56, 57, 58, 59, 60, 61, 166, 167, 168, 169, 170, 171, 172, 173, 174, 175, 176, 177, 178, 179, 180, 181, 182, 183, 184, 185, 186, 187, 188, 189, 190, 191, 192, 193, 194, 195] (by decide +kernel) (by decide +kernel)
set_option maxRecDepth 20000 in
theorem gX6_warmest_X4_copyFrom : GoodIn wsX6_warmest (wsV RX6 148 RX4 yX4_copyFrom wsX4_copyFrom) := goodIn_app (goodIn_of _ (by decide +kernel)) ggX6_warmest_X4_copyFrom
set_option maxRecDepth 20000 in
theorem ggX6_warmest_X4_runUntilDone : GoodIn wsX6_warmest wsX4_runUntilDone := goodIn_r _ [65, 18, 66, 67, 68, 8, 69, 10, 70, 71, 72, 73, 74, 75, 76, 23, 15, 21, 77, 78, 79, 80, 17, 19, 22, 81, 82, 83, 54, 84, 58, 57, 60, 61, 56, 85, 86, 87, 88, 20, 25, 89, 90, 91, 92, 16, 93, 94, 95, 96, 97, 98, 43, 99, 45, 100, 101, 102, 103, 104, 105, 106, 107, 46, 48, 49, 108, 109, 110, 111, 112, 113, 114, 29, 115, 32, 31, 116, 117, 118, 119, 120, 121, 122, 123, 124, 125, 126, 127, 128, 129, 130, 131, 132, 34, 35, 36, 37, 133, 134, 135, 136, 137, 138, 139, 140, 24, 141, 142, 143, 144, 145, 146, 147, 148, 149, 150, 151, 152, 153, 154, 38, 155, 156, 157, 158, 166, 167, 168, 169, 170, 171, 172, 173, 174, 175, 176, 177, 191, 192, 193, 194, 195, 186, 187, 188, 189, 190, 178, 179, 180, 181, 182, 183, 184, 185] (by decide +kernel) (by decide +kernel)
set_option maxRecDepth 20000 in
theorem gX6_warmest_X4_runUntilDone : GoodIn wsX6_warmest (wsV RX6 200 RX4 yX4_runUntilDone wsX4_runUntilDone) := goodIn_app (goodIn_of _ (by decide +kernel)) ggX6_warmest_X4_runUntilDone
theorem dX6_warmest_0 : decode cX6_warmest 0 = .ok (.aload_n 0, 1) := by decide +kernel
theorem dX6_warmest_1 : decode cX6_warmest 1 = .ok (.getfield 10, 3) := by decide +kernel
theorem dX6_warmest_4 : decode cX6_warmest 4 = .ok (.getfield 68, 3) := by decide +kernel
theorem dX6_warmest_7 : decode cX6_warmest 7 = .ok (.iconst 1, 1) := by decide +kernel
theorem dX6_warmest_8 : decode cX6_warmest 8 = .ok (.if_icmp .eq 6, 3) := by decide +kernel
theorem dX6_warmest_11 : decode cX6_warmest 11 = .ok (.bipush (-4), 2) := by decide +kernel
theorem dX6_warmest_13 : decode cX6_warmest 13 = .ok (.ireturn, 1) := by decide +kernel
theorem dX6_warmest_14 : decode cX6_warmest 14 = .ok (.aload_n 0, 1) := by decide +kernel
theorem dX6_warmest_15 : decode cX6_warmest 15 = .ok (.getfield 10, 3) := by decide +kernel
theorem dX6_warmest_18 : decode cX6_warmest 18 = .ok (.getfield 75, 3) := by decide +kernel
theorem dX6_warmest_21 : decode cX6_warmest 21 = .ok (.iconst 5, 1) := by decide +kernel
theorem dX6_warmest_22 : decode cX6_warmest 22 = .ok (.iaload, 1) := by decide +kernel
theorem dX6_warmest_23 : decode cX6_warmest 23 = .ok (.istore_n 1, 1) := by decide +kernel
theorem dX6_warmest_24 : decode cX6_warmest 24 = .ok (.aload_n 0, 1) := by decide +kernel
theorem dX6_warmest_25 : decode cX6_warmest 25 = .ok (.getfield 10, 3) := by decide +kernel
theorem dX6_warmest_28 : decode cX6_warmest 28 = .ok (.getfield 75, 3) := by decide +kernel
theorem dX6_warmest_31 : decode cX6_warmest 31 = .ok (.bipush 6, 2) := by decide +kernel
theorem dX6_warmest_33 : decode cX6_warmest 33 = .ok (.iaload, 1) := by decide +kernel
theorem dX6_warmest_34 : decode cX6_warmest 34 = .ok (.istore_n 2, 1) := by decide +kernel
theorem dX6_warmest_35 : decode cX6_warmest 35 = .ok (.iload_n 2, 1) := by decide +kernel
theorem dX6_warmest_36 : decode cX6_warmest 36 = .ok (.iload_n 1, 1) := by decide +kernel
theorem dX6_warmest_37 : decode cX6_warmest 37 = .ok (.if_icmp .lt 51, 3) := by decide +kernel
theorem dX6_warmest_40 : decode cX6_warmest 40 = .ok (.aload_n 0, 1) := by decide +kernel
theorem dX6_warmest_41 : decode cX6_warmest 41 = .ok (.getfield 16, 3) := by decide +kernel
theorem dX6_warmest_44 : decode cX6_warmest 44 = .ok (.aload_n 0, 1) := by decide +kernel
theorem dX6_warmest_45 : decode cX6_warmest 45 = .ok (.getfield 10, 3) := by decide +kernel
theorem dX6_warmest_48 : decode cX6_warmest 48 = .ok (.invokevirtual 148, 3) := by decide +kernel
theorem dX6_warmest_51 : decode cX6_warmest 51 = .ok (.aload_n 0, 1) := by decide +kernel
theorem dX6_warmest_52 : decode cX6_warmest 52 = .ok (.getfield 16, 3) := by decide +kernel
theorem dX6_warmest_55 : decode cX6_warmest 55 = .ok (.getfield 75, 3) := by decide +kernel
theorem dX6_warmest_58 : decode cX6_warmest 58 = .ok (.iconst 3, 1) := by decide +kernel
theorem dX6_warmest_59 : decode cX6_warmest 59 = .ok (.iload_n 2, 1) := by decide +kernel
theorem dX6_warmest_60 : decode cX6_warmest 60 = .ok (.iastore, 1) := by decide +kernel
theorem dX6_warmest_61 : decode cX6_warmest 61 = .ok (.aload_n 0, 1) := by decide +kernel
theorem dX6_warmest_62 : decode cX6_warmest 62 = .ok (.getfield 16, 3) := by decide +kernel
theorem dX6_warmest_65 : decode cX6_warmest 65 = .ok (.sipush 500, 3) := by decide +kernel
theorem dX6_warmest_68 : decode cX6_warmest 68 = .ok (.invokevirtual 200, 3) := by decide +kernel
theorem dX6_warmest_71 : decode cX6_warmest 71 = .ok (.bipush (-5), 2) := by decide +kernel
theorem dX6_warmest_73 : decode cX6_warmest 73 = .ok (.if_icmp .eq 9, 3) := by decide +kernel
theorem dX6_warmest_76 : decode cX6_warmest 76 = .ok (.iload_n 2, 1) := by decide +kernel
theorem dX6_warmest_77 : decode cX6_warmest 77 = .ok (.sipush 1000, 3) := by decide +kernel
theorem dX6_warmest_80 : decode cX6_warmest 80 = .ok (.iadd, 1) := by decide +kernel
theorem dX6_warmest_81 : decode cX6_warmest 81 = .ok (.ireturn, 1) := by decide +kernel
theorem dX6_warmest_82 : decode cX6_warmest 82 = .ok (.iinc 2 (-1), 3) := by decide +kernel
theorem dX6_warmest_85 : decode cX6_warmest 85 = .ok (.goto (-50), 3) := by decide +kernel
theorem dX6_warmest_88 : decode cX6_warmest 88 = .ok (.bipush (-5), 2) := by decide +kernel
theorem dX6_warmest_90 : decode cX6_warmest 90 = .ok (.ireturn, 1) := by decide +kernel
set_option maxRecDepth 20000 in
theorem ggX6_event_X2_placeOf : GoodIn wsX6_event wsX2_placeOf := goodIn_r _ [11, 12, 13, 14, 15, 16, 36, 37, 38, 39, 40] (by decide +kernel) (by decide +kernel)
set_option maxRecDepth 20000 in
theorem gX6_event_X2_placeOf : GoodIn wsX6_event (wsV RX6 212 RX2 yX2_placeOf wsX2_placeOf) := goodIn_app (goodIn_of _ (by decide +kernel)) ggX6_event_X2_placeOf
theorem dX6_event_0 : decode cX6_event 0 = .ok (.iload_n 1, 1) := by decide +kernel
theorem dX6_event_1 : decode cX6_event 1 = .ok (.ifCond .lt 12, 3) := by decide +kernel
theorem dX6_event_4 : decode cX6_event 4 = .ok (.iload_n 2, 1) := by decide +kernel
theorem dX6_event_5 : decode cX6_event 5 = .ok (.ifCond .lt 8, 3) := by decide +kernel
theorem dX6_event_8 : decode cX6_event 8 = .ok (.iload_n 2, 1) := by decide +kernel
theorem dX6_event_9 : decode cX6_event 9 = .ok (.iconst 2, 1) := by decide +kernel
theorem dX6_event_10 : decode cX6_event 10 = .ok (.if_icmp .le 6, 3) := by decide +kernel
theorem dX6_event_13 : decode cX6_event 13 = .ok (.bipush (-2), 2) := by decide +kernel
theorem dX6_event_15 : decode cX6_event 15 = .ok (.ireturn, 1) := by decide +kernel
theorem dX6_event_16 : decode cX6_event 16 = .ok (.iload_n 1, 1) := by decide +kernel
theorem dX6_event_17 : decode cX6_event 17 = .ok (.aload_n 0, 1) := by decide +kernel
theorem dX6_event_18 : decode cX6_event 18 = .ok (.getfield 10, 3) := by decide +kernel
theorem dX6_event_21 : decode cX6_event 21 = .ok (.getfield 203, 3) := by decide +kernel
theorem dX6_event_24 : decode cX6_event 24 = .ok (.getfield 207, 3) := by decide +kernel
theorem dX6_event_27 : decode cX6_event 27 = .ok (.if_icmp .lt 6, 3) := by decide +kernel
theorem dX6_event_30 : decode cX6_event 30 = .ok (.bipush (-5), 2) := by decide +kernel
theorem dX6_event_32 : decode cX6_event 32 = .ok (.ireturn, 1) := by decide +kernel
theorem dX6_event_33 : decode cX6_event 33 = .ok (.aload_n 0, 1) := by decide +kernel
theorem dX6_event_34 : decode cX6_event 34 = .ok (.getfield 10, 3) := by decide +kernel
theorem dX6_event_37 : decode cX6_event 37 = .ok (.getfield 203, 3) := by decide +kernel
theorem dX6_event_40 : decode cX6_event 40 = .ok (.iload_n 1, 1) := by decide +kernel
theorem dX6_event_41 : decode cX6_event 41 = .ok (.invokevirtual 212, 3) := by decide +kernel
theorem dX6_event_44 : decode cX6_event 44 = .ok (.istore_n 3, 1) := by decide +kernel
theorem dX6_event_45 : decode cX6_event 45 = .ok (.iload_n 2, 1) := by decide +kernel
theorem dX6_event_46 : decode cX6_event 46 = .ok (.lookupswitch 52 #[(0, 26), (1, 39)], 26) := by decide +kernel
theorem dX6_event_72 : decode cX6_event 72 = .ok (.aload_n 0, 1) := by decide +kernel
theorem dX6_event_73 : decode cX6_event 73 = .ok (.getfield 10, 3) := by decide +kernel
theorem dX6_event_76 : decode cX6_event 76 = .ok (.getfield 203, 3) := by decide +kernel
theorem dX6_event_79 : decode cX6_event 79 = .ok (.getfield 215, 3) := by decide +kernel
theorem dX6_event_82 : decode cX6_event 82 = .ok (.iload_n 3, 1) := by decide +kernel
theorem dX6_event_83 : decode cX6_event 83 = .ok (.iaload, 1) := by decide +kernel
theorem dX6_event_84 : decode cX6_event 84 = .ok (.ireturn, 1) := by decide +kernel
theorem dX6_event_85 : decode cX6_event 85 = .ok (.aload_n 0, 1) := by decide +kernel
theorem dX6_event_86 : decode cX6_event 86 = .ok (.getfield 10, 3) := by decide +kernel
theorem dX6_event_89 : decode cX6_event 89 = .ok (.getfield 203, 3) := by decide +kernel
theorem dX6_event_92 : decode cX6_event 92 = .ok (.getfield 216, 3) := by decide +kernel
theorem dX6_event_95 : decode cX6_event 95 = .ok (.iload_n 3, 1) := by decide +kernel
theorem dX6_event_96 : decode cX6_event 96 = .ok (.iaload, 1) := by decide +kernel
theorem dX6_event_97 : decode cX6_event 97 = .ok (.ireturn, 1) := by decide +kernel
theorem dX6_event_98 : decode cX6_event 98 = .ok (.aload_n 0, 1) := by decide +kernel
theorem dX6_event_99 : decode cX6_event 99 = .ok (.getfield 10, 3) := by decide +kernel
theorem dX6_event_102 : decode cX6_event 102 = .ok (.getfield 203, 3) := by decide +kernel
theorem dX6_event_105 : decode cX6_event 105 = .ok (.getfield 218, 3) := by decide +kernel
theorem dX6_event_108 : decode cX6_event 108 = .ok (.iload_n 3, 1) := by decide +kernel
theorem dX6_event_109 : decode cX6_event 109 = .ok (.iaload, 1) := by decide +kernel
theorem dX6_event_110 : decode cX6_event 110 = .ok (.ireturn, 1) := by decide +kernel
set_option maxRecDepth 20000 in
theorem ggX6_count_X0_leastCharge : GoodIn wsX6_count wsX0_leastCharge := goodIn_r _ [21, 22, 23, 24, 25, 26, 27, 64, 65, 66, 67, 68, 69, 70, 71] (by decide +kernel) (by decide +kernel)
set_option maxRecDepth 20000 in
theorem gX6_count_X0_leastCharge : GoodIn wsX6_count (wsV RX6 85 RX0 yX0_leastCharge wsX0_leastCharge) := goodIn_app (goodIn_of _ (by decide +kernel)) ggX6_count_X0_leastCharge
set_option maxRecDepth 20000 in
theorem ggX6_count_X0_greatestCharge : GoodIn wsX6_count wsX0_greatestCharge := goodIn_r _ [31, 22, 23, 32, 33, 26, 34, 64, 65, 66, 67, 68, 69, 70, 71] (by decide +kernel) (by decide +kernel)
set_option maxRecDepth 20000 in
theorem gX6_count_X0_greatestCharge : GoodIn wsX6_count (wsV RX6 229 RX0 yX0_greatestCharge wsX0_greatestCharge) := goodIn_app (goodIn_of _ (by decide +kernel)) ggX6_count_X0_greatestCharge
set_option maxRecDepth 20000 in
theorem ggX6_count_X4_isPaused : GoodIn wsX6_count wsX4_isPaused := goodIn_r _ [39, 40, 41, 42, 43, 44, 52, 53, 54, 55, 56, 57, 58, 59, 60, 61, 62, 63] (by decide +kernel) (by decide +kernel)
set_option maxRecDepth 20000 in
theorem gX6_count_X4_isPaused : GoodIn wsX6_count (wsV RX6 189 RX4 yX4_isPaused wsX4_isPaused) := goodIn_app (goodIn_of _ (by decide +kernel)) ggX6_count_X4_isPaused
theorem dX6_count_0 : decode cX6_count 0 = .ok (.iload_n 1, 1) := by decide +kernel
theorem dX6_count_1 : decode cX6_count 1 = .ok (.tableswitch 234 0 13 #[71, 79, 90, 101, 109, 133, 156, 164, 175, 186, 202, 210, 218, 226], 71) := by decide +kernel
theorem dX6_count_72 : decode cX6_count 72 = .ok (.aload_n 0, 1) := by decide +kernel
theorem dX6_count_73 : decode cX6_count 73 = .ok (.getfield 10, 3) := by decide +kernel
theorem dX6_count_76 : decode cX6_count 76 = .ok (.getfield 129, 3) := by decide +kernel
theorem dX6_count_79 : decode cX6_count 79 = .ok (.ireturn, 1) := by decide +kernel
theorem dX6_count_80 : decode cX6_count 80 = .ok (.aload_n 0, 1) := by decide +kernel
theorem dX6_count_81 : decode cX6_count 81 = .ok (.getfield 10, 3) := by decide +kernel
theorem dX6_count_84 : decode cX6_count 84 = .ok (.getfield 50, 3) := by decide +kernel
theorem dX6_count_87 : decode cX6_count 87 = .ok (.getfield 54, 3) := by decide +kernel
theorem dX6_count_90 : decode cX6_count 90 = .ok (.ireturn, 1) := by decide +kernel
theorem dX6_count_91 : decode cX6_count 91 = .ok (.aload_n 0, 1) := by decide +kernel
theorem dX6_count_92 : decode cX6_count 92 = .ok (.getfield 10, 3) := by decide +kernel
theorem dX6_count_95 : decode cX6_count 95 = .ok (.getfield 116, 3) := by decide +kernel
theorem dX6_count_98 : decode cX6_count 98 = .ok (.getfield 123, 3) := by decide +kernel
theorem dX6_count_101 : decode cX6_count 101 = .ok (.ireturn, 1) := by decide +kernel
theorem dX6_count_102 : decode cX6_count 102 = .ok (.aload_n 0, 1) := by decide +kernel
theorem dX6_count_103 : decode cX6_count 103 = .ok (.getfield 10, 3) := by decide +kernel
theorem dX6_count_106 : decode cX6_count 106 = .ok (.getfield 68, 3) := by decide +kernel
theorem dX6_count_109 : decode cX6_count 109 = .ok (.ireturn, 1) := by decide +kernel
theorem dX6_count_110 : decode cX6_count 110 = .ok (.aload_n 0, 1) := by decide +kernel
theorem dX6_count_111 : decode cX6_count 111 = .ok (.getfield 10, 3) := by decide +kernel
theorem dX6_count_114 : decode cX6_count 114 = .ok (.getfield 68, 3) := by decide +kernel
theorem dX6_count_117 : decode cX6_count 117 = .ok (.iconst 1, 1) := by decide +kernel
theorem dX6_count_118 : decode cX6_count 118 = .ok (.if_icmp .ne 13, 3) := by decide +kernel
theorem dX6_count_121 : decode cX6_count 121 = .ok (.aload_n 0, 1) := by decide +kernel
theorem dX6_count_122 : decode cX6_count 122 = .ok (.getfield 10, 3) := by decide +kernel
theorem dX6_count_125 : decode cX6_count 125 = .ok (.getfield 221, 3) := by decide +kernel
theorem dX6_count_128 : decode cX6_count 128 = .ok (.goto 5, 3) := by decide +kernel
theorem dX6_count_131 : decode cX6_count 131 = .ok (.bipush (-5), 2) := by decide +kernel
theorem dX6_count_133 : decode cX6_count 133 = .ok (.ireturn, 1) := by decide +kernel
theorem dX6_count_134 : decode cX6_count 134 = .ok (.aload_n 0, 1) := by decide +kernel
theorem dX6_count_135 : decode cX6_count 135 = .ok (.getfield 10, 3) := by decide +kernel
theorem dX6_count_138 : decode cX6_count 138 = .ok (.getfield 68, 3) := by decide +kernel
theorem dX6_count_141 : decode cX6_count 141 = .ok (.iconst 1, 1) := by decide +kernel
theorem dX6_count_142 : decode cX6_count 142 = .ok (.if_icmp .ne 13, 3) := by decide +kernel
theorem dX6_count_145 : decode cX6_count 145 = .ok (.aload_n 0, 1) := by decide +kernel
theorem dX6_count_146 : decode cX6_count 146 = .ok (.getfield 10, 3) := by decide +kernel
theorem dX6_count_149 : decode cX6_count 149 = .ok (.getfield 223, 3) := by decide +kernel
theorem dX6_count_152 : decode cX6_count 152 = .ok (.goto 4, 3) := by decide +kernel
theorem dX6_count_155 : decode cX6_count 155 = .ok (.iconst 0, 1) := by decide +kernel
theorem dX6_count_156 : decode cX6_count 156 = .ok (.ireturn, 1) := by decide +kernel
theorem dX6_count_157 : decode cX6_count 157 = .ok (.aload_n 0, 1) := by decide +kernel
theorem dX6_count_158 : decode cX6_count 158 = .ok (.getfield 10, 3) := by decide +kernel
theorem dX6_count_161 : decode cX6_count 161 = .ok (.getfield 226, 3) := by decide +kernel
theorem dX6_count_164 : decode cX6_count 164 = .ok (.ireturn, 1) := by decide +kernel
theorem dX6_count_165 : decode cX6_count 165 = .ok (.aload_n 0, 1) := by decide +kernel
theorem dX6_count_166 : decode cX6_count 166 = .ok (.getfield 10, 3) := by decide +kernel
