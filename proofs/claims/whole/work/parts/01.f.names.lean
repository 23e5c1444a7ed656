theorem dX7_charges_52 : decode cX7_charges 52 = .ok (.aload_n 0, 1) := by decide +kernel
theorem dX7_charges_53 : decode cX7_charges 53 = .ok (.bipush 74, 2) := by decide +kernel
theorem dX7_charges_55 : decode cX7_charges 55 = .ok (.iaload, 1) := by decide +kernel
theorem dX7_charges_56 : decode cX7_charges 56 = .ok (.iconst 3, 1) := by decide +kernel
theorem dX7_charges_57 : decode cX7_charges 57 = .ok (.invokestatic 56, 3) := by decide +kernel
theorem dX7_charges_60 : decode cX7_charges 60 = .ok (.istore_n 3, 1) := by decide +kernel
theorem dX7_charges_61 : decode cX7_charges 61 = .ok (.iload_n 2, 1) := by decide +kernel
theorem dX7_charges_62 : decode cX7_charges 62 = .ok (.ifCond .eq 10, 3) := by decide +kernel
theorem dX7_charges_65 : decode cX7_charges 65 = .ok (.aload_n 0, 1) := by decide +kernel
theorem dX7_charges_66 : decode cX7_charges 66 = .ok (.invokestatic 90, 3) := by decide +kernel
theorem dX7_charges_69 : decode cX7_charges 69 = .ok (.goto 33, 3) := by decide +kernel
theorem dX7_charges_72 : decode cX7_charges 72 = .ok (.iload_n 3, 1) := by decide +kernel
theorem dX7_charges_73 : decode cX7_charges 73 = .ok (.ifCond .le 29, 3) := by decide +kernel
theorem dX7_charges_76 : decode cX7_charges 76 = .ok (.aload_n 0, 1) := by decide +kernel
theorem dX7_charges_77 : decode cX7_charges 77 = .ok (.bipush 75, 2) := by decide +kernel
theorem dX7_charges_79 : decode cX7_charges 79 = .ok (.iaload, 1) := by decide +kernel
theorem dX7_charges_80 : decode cX7_charges 80 = .ok (.iload_n 3, 1) := by decide +kernel
theorem dX7_charges_81 : decode cX7_charges 81 = .ok (.if_icmp .lt 21, 3) := by decide +kernel
theorem dX7_charges_84 : decode cX7_charges 84 = .ok (.aload_n 0, 1) := by decide +kernel
theorem dX7_charges_85 : decode cX7_charges 85 = .ok (.bipush 73, 2) := by decide +kernel
theorem dX7_charges_87 : decode cX7_charges 87 = .ok (.iconst 3, 1) := by decide +kernel
theorem dX7_charges_88 : decode cX7_charges 88 = .ok (.iastore, 1) := by decide +kernel
theorem dX7_charges_89 : decode cX7_charges 89 = .ok (.aload_n 0, 1) := by decide +kernel
theorem dX7_charges_90 : decode cX7_charges 90 = .ok (.bipush 79, 2) := by decide +kernel
theorem dX7_charges_92 : decode cX7_charges 92 = .ok (.dup2, 1) := by decide +kernel
theorem dX7_charges_93 : decode cX7_charges 93 = .ok (.iaload, 1) := by decide +kernel
theorem dX7_charges_94 : decode cX7_charges 94 = .ok (.iconst 1, 1) := by decide +kernel
theorem dX7_charges_95 : decode cX7_charges 95 = .ok (.iadd, 1) := by decide +kernel
theorem dX7_charges_96 : decode cX7_charges 96 = .ok (.iastore, 1) := by decide +kernel
theorem dX7_charges_97 : decode cX7_charges 97 = .ok (.aload_n 0, 1) := by decide +kernel
theorem dX7_charges_98 : decode cX7_charges 98 = .ok (.iconst 2, 1) := by decide +kernel
theorem dX7_charges_99 : decode cX7_charges 99 = .ok (.invokestatic 72, 3) := by decide +kernel
theorem dX7_charges_102 : decode cX7_charges 102 = .ok (.return_, 1) := by decide +kernel
set_option maxRecDepth 20000 in
theorem ggX7_bleeds_X7_lowest : GoodIn wsX7_bleeds wsX7_lowest := goodIn_r _ [4, 5, 6, 3, 7, 8, 9, 10] (by decide +kernel) (by decide +kernel)
set_option maxRecDepth 20000 in
theorem gX7_bleeds_X7_lowest : GoodIn wsX7_bleeds (va_wsS RX7 94 yX7_lowest wsX7_lowest) := goodIn_app (goodIn_of _ (by decide +kernel)) ggX7_bleeds_X7_lowest
set_option maxRecDepth 20000 in
theorem ggX7_bleeds_X7_of : GoodIn wsX7_bleeds wsX7_of := goodIn_r _ [10] (by decide +kernel) (by decide +kernel)
set_option maxRecDepth 20000 in
theorem gX7_bleeds_X7_of : GoodIn wsX7_bleeds (va_wsS RX7 48 yX7_of wsX7_of) := goodIn_app (goodIn_of _ (by decide +kernel)) ggX7_bleeds_X7_of
set_option maxRecDepth 20000 in
theorem ggX7_bleeds_X7_base : GoodIn wsX7_bleeds wsX7_base := goodIn_r _ [7, 8, 9, 3, 10] (by decide +kernel) (by decide +kernel)
set_option maxRecDepth 20000 in
theorem gX7_bleeds_X7_base : GoodIn wsX7_bleeds (va_wsS RX7 52 yX7_base wsX7_base) := goodIn_app (goodIn_of _ (by decide +kernel)) ggX7_bleeds_X7_base
theorem dX7_bleeds_0 : decode cX7_bleeds 0 = .ok (.aload_n 0, 1) := by decide +kernel
theorem dX7_bleeds_1 : decode cX7_bleeds 1 = .ok (.invokestatic 94, 3) := by decide +kernel
theorem dX7_bleeds_4 : decode cX7_bleeds 4 = .ok (.istore_n 1, 1) := by decide +kernel
theorem dX7_bleeds_5 : decode cX7_bleeds 5 = .ok (.iconst 0, 1) := by decide +kernel
theorem dX7_bleeds_6 : decode cX7_bleeds 6 = .ok (.istore_n 2, 1) := by decide +kernel
theorem dX7_bleeds_7 : decode cX7_bleeds 7 = .ok (.iload_n 2, 1) := by decide +kernel
theorem dX7_bleeds_8 : decode cX7_bleeds 8 = .ok (.aload_n 0, 1) := by decide +kernel
theorem dX7_bleeds_9 : decode cX7_bleeds 9 = .ok (.bipush 71, 2) := by decide +kernel
theorem dX7_bleeds_11 : decode cX7_bleeds 11 = .ok (.iaload, 1) := by decide +kernel
theorem dX7_bleeds_12 : decode cX7_bleeds 12 = .ok (.if_icmp .ge 90, 3) := by decide +kernel
theorem dX7_bleeds_15 : decode cX7_bleeds 15 = .ok (.aload_n 0, 1) := by decide +kernel
theorem dX7_bleeds_16 : decode cX7_bleeds 16 = .ok (.iload_n 2, 1) := by decide +kernel
theorem dX7_bleeds_17 : decode cX7_bleeds 17 = .ok (.iconst 0, 1) := by decide +kernel
theorem dX7_bleeds_18 : decode cX7_bleeds 18 = .ok (.invokestatic 48, 3) := by decide +kernel
theorem dX7_bleeds_21 : decode cX7_bleeds 21 = .ok (.istore_n 3, 1) := by decide +kernel
theorem dX7_bleeds_22 : decode cX7_bleeds 22 = .ok (.aload_n 0, 1) := by decide +kernel
theorem dX7_bleeds_23 : decode cX7_bleeds 23 = .ok (.iload_n 2, 1) := by decide +kernel
theorem dX7_bleeds_24 : decode cX7_bleeds 24 = .ok (.invokestatic 52, 3) := by decide +kernel
theorem dX7_bleeds_27 : decode cX7_bleeds 27 = .ok (.iload_n 1, 1) := by decide +kernel
theorem dX7_bleeds_28 : decode cX7_bleeds 28 = .ok (.isub, 1) := by decide +kernel
theorem dX7_bleeds_29 : decode cX7_bleeds 29 = .ok (.aload_n 0, 1) := by decide +kernel
theorem dX7_bleeds_30 : decode cX7_bleeds 30 = .ok (.bipush 49, 2) := by decide +kernel
theorem dX7_bleeds_32 : decode cX7_bleeds 32 = .ok (.iaload, 1) := by decide +kernel
theorem dX7_bleeds_33 : decode cX7_bleeds 33 = .ok (.if_icmp .le 7, 3) := by decide +kernel
theorem dX7_bleeds_36 : decode cX7_bleeds 36 = .ok (.iconst 1, 1) := by decide +kernel
theorem dX7_bleeds_37 : decode cX7_bleeds 37 = .ok (.goto 4, 3) := by decide +kernel
theorem dX7_bleeds_40 : decode cX7_bleeds 40 = .ok (.iconst 0, 1) := by decide +kernel
theorem dX7_bleeds_41 : decode cX7_bleeds 41 = .ok (.istore 4, 2) := by decide +kernel
theorem dX7_bleeds_43 : decode cX7_bleeds 43 = .ok (.iload 4, 2) := by decide +kernel
theorem dX7_bleeds_45 : decode cX7_bleeds 45 = .ok (.ifCond .ne 7, 3) := by decide +kernel
theorem dX7_bleeds_48 : decode cX7_bleeds 48 = .ok (.iconst 0, 1) := by decide +kernel
theorem dX7_bleeds_49 : decode cX7_bleeds 49 = .ok (.goto 19, 3) := by decide +kernel
theorem dX7_bleeds_52 : decode cX7_bleeds 52 = .ok (.aload_n 0, 1) := by decide +kernel
theorem dX7_bleeds_53 : decode cX7_bleeds 53 = .ok (.bipush 50, 2) := by decide +kernel
theorem dX7_bleeds_55 : decode cX7_bleeds 55 = .ok (.iaload, 1) := by decide +kernel
theorem dX7_bleeds_56 : decode cX7_bleeds 56 = .ok (.iload_n 3, 1) := by decide +kernel
theorem dX7_bleeds_57 : decode cX7_bleeds 57 = .ok (.if_icmp .ge 10, 3) := by decide +kernel
theorem dX7_bleeds_60 : decode cX7_bleeds 60 = .ok (.aload_n 0, 1) := by decide +kernel
theorem dX7_bleeds_61 : decode cX7_bleeds 61 = .ok (.bipush 50, 2) := by decide +kernel
theorem dX7_bleeds_63 : decode cX7_bleeds 63 = .ok (.iaload, 1) := by decide +kernel
theorem dX7_bleeds_64 : decode cX7_bleeds 64 = .ok (.goto 4, 3) := by decide +kernel
theorem dX7_bleeds_67 : decode cX7_bleeds 67 = .ok (.iload_n 3, 1) := by decide +kernel
theorem dX7_bleeds_68 : decode cX7_bleeds 68 = .ok (.istore 5, 2) := by decide +kernel
theorem dX7_bleeds_70 : decode cX7_bleeds 70 = .ok (.aload_n 0, 1) := by decide +kernel
theorem dX7_bleeds_71 : decode cX7_bleeds 71 = .ok (.bipush 7, 2) := by decide +kernel
theorem dX7_bleeds_73 : decode cX7_bleeds 73 = .ok (.iload_n 2, 1) := by decide +kernel
theorem dX7_bleeds_74 : decode cX7_bleeds 74 = .ok (.imul, 1) := by decide +kernel
theorem dX7_bleeds_75 : decode cX7_bleeds 75 = .ok (.iconst 0, 1) := by decide +kernel
theorem dX7_bleeds_76 : decode cX7_bleeds 76 = .ok (.iadd, 1) := by decide +kernel
theorem dX7_bleeds_77 : decode cX7_bleeds 77 = .ok (.dup2, 1) := by decide +kernel
theorem dX7_bleeds_78 : decode cX7_bleeds 78 = .ok (.iaload, 1) := by decide +kernel
theorem dX7_bleeds_79 : decode cX7_bleeds 79 = .ok (.iload 5, 2) := by decide +kernel
theorem dX7_bleeds_81 : decode cX7_bleeds 81 = .ok (.isub, 1) := by decide +kernel
theorem dX7_bleeds_82 : decode cX7_bleeds 82 = .ok (.iastore, 1) := by decide +kernel
theorem dX7_bleeds_83 : decode cX7_bleeds 83 = .ok (.aload_n 0, 1) := by decide +kernel
theorem dX7_bleeds_84 : decode cX7_bleeds 84 = .ok (.bipush 7, 2) := by decide +kernel
theorem dX7_bleeds_86 : decode cX7_bleeds 86 = .ok (.iload_n 2, 1) := by decide +kernel
theorem dX7_bleeds_87 : decode cX7_bleeds 87 = .ok (.imul, 1) := by decide +kernel
theorem dX7_bleeds_88 : decode cX7_bleeds 88 = .ok (.iconst 5, 1) := by decide +kernel
theorem dX7_bleeds_89 : decode cX7_bleeds 89 = .ok (.iadd, 1) := by decide +kernel
theorem dX7_bleeds_90 : decode cX7_bleeds 90 = .ok (.dup2, 1) := by decide +kernel
theorem dX7_bleeds_91 : decode cX7_bleeds 91 = .ok (.iaload, 1) := by decide +kernel
theorem dX7_bleeds_92 : decode cX7_bleeds 92 = .ok (.iload 5, 2) := by decide +kernel
theorem dX7_bleeds_94 : decode cX7_bleeds 94 = .ok (.iadd, 1) := by decide +kernel
theorem dX7_bleeds_95 : decode cX7_bleeds 95 = .ok (.iastore, 1) := by decide +kernel
theorem dX7_bleeds_96 : decode cX7_bleeds 96 = .ok (.iinc 2 1, 3) := by decide +kernel
theorem dX7_bleeds_99 : decode cX7_bleeds 99 = .ok (.goto (-92), 3) := by decide +kernel
theorem dX7_bleeds_102 : decode cX7_bleeds 102 = .ok (.return_, 1) := by decide +kernel
set_option maxRecDepth 20000 in
theorem ggX7_tick_X7_isOut : GoodIn wsX7_tick wsX7_isOut := goodIn_r _ [4, 5, 6, 3, 7] (by decide +kernel) (by decide +kernel)
set_option maxRecDepth 20000 in
theorem gX7_tick_X7_isOut : GoodIn wsX7_tick (va_wsS RX7 97 yX7_isOut wsX7_isOut) := goodIn_app (goodIn_of _ (by decide +kernel)) ggX7_tick_X7_isOut
set_option maxRecDepth 20000 in
theorem ggX7_tick_X7_logs : GoodIn wsX7_tick wsX7_logs := goodIn_r _ [10] (by decide +kernel) (by decide +kernel)
set_option maxRecDepth 20000 in
theorem gX7_tick_X7_logs : GoodIn wsX7_tick (va_wsS RX7 72 yX7_logs wsX7_logs) := goodIn_app (goodIn_of _ (by decide +kernel)) ggX7_tick_X7_logs
set_option maxRecDepth 20000 in
theorem ggX7_tick_X7_charges : GoodIn wsX7_tick wsX7_charges := goodIn_r _ [13, 14, 15, 3, 16, 17, 18, 19, 20, 21, 22, 23, 24, 25, 26, 27, 28, 29, 30, 31, 32, 33, 34, 35, 36, 37, 38, 39, 40, 41, 42, 43, 44, 45, 46, 47, 48, 49, 8, 9, 10] (by decide +kernel) (by decide +kernel)
set_option maxRecDepth 20000 in
theorem gX7_tick_X7_charges : GoodIn wsX7_tick (va_wsS RX7 101 yX7_charges wsX7_charges) := goodIn_app (goodIn_of _ (by decide +kernel)) ggX7_tick_X7_charges
set_option maxRecDepth 20000 in
theorem ggX7_tick_X7_bleeds : GoodIn wsX7_tick wsX7_bleeds := goodIn_r _ [52, 53, 54, 3, 55, 29, 30, 31, 32, 33, 34] (by decide +kernel) (by decide +kernel)
set_option maxRecDepth 20000 in
theorem gX7_tick_X7_bleeds : GoodIn wsX7_tick (va_wsS RX7 104 yX7_bleeds wsX7_bleeds) := goodIn_app (goodIn_of _ (by decide +kernel)) ggX7_tick_X7_bleeds
theorem dX7_tick_0 : decode cX7_tick 0 = .ok (.aload_n 0, 1) := by decide +kernel
theorem dX7_tick_1 : decode cX7_tick 1 = .ok (.bipush 73, 2) := by decide +kernel
theorem dX7_tick_3 : decode cX7_tick 3 = .ok (.iaload, 1) := by decide +kernel
theorem dX7_tick_4 : decode cX7_tick 4 = .ok (.iconst 1, 1) := by decide +kernel
theorem dX7_tick_5 : decode cX7_tick 5 = .ok (.if_icmp .ne 14, 3) := by decide +kernel
theorem dX7_tick_8 : decode cX7_tick 8 = .ok (.aload_n 0, 1) := by decide +kernel
theorem dX7_tick_9 : decode cX7_tick 9 = .ok (.invokestatic 97, 3) := by decide +kernel
theorem dX7_tick_12 : decode cX7_tick 12 = .ok (.ifCond .eq 7, 3) := by decide +kernel
theorem dX7_tick_15 : decode cX7_tick 15 = .ok (.iconst 1, 1) := by decide +kernel
theorem dX7_tick_16 : decode cX7_tick 16 = .ok (.goto 4, 3) := by decide +kernel
theorem dX7_tick_19 : decode cX7_tick 19 = .ok (.iconst 0, 1) := by decide +kernel
theorem dX7_tick_20 : decode cX7_tick 20 = .ok (.istore_n 1, 1) := by decide +kernel
theorem dX7_tick_21 : decode cX7_tick 21 = .ok (.iload_n 1, 1) := by decide +kernel
theorem dX7_tick_22 : decode cX7_tick 22 = .ok (.ifCond .eq 26, 3) := by decide +kernel
theorem dX7_tick_25 : decode cX7_tick 25 = .ok (.aload_n 0, 1) := by decide +kernel
theorem dX7_tick_26 : decode cX7_tick 26 = .ok (.bipush 77, 2) := by decide +kernel
theorem dX7_tick_28 : decode cX7_tick 28 = .ok (.dup2, 1) := by decide +kernel
theorem dX7_tick_29 : decode cX7_tick 29 = .ok (.iaload, 1) := by decide +kernel
theorem dX7_tick_30 : decode cX7_tick 30 = .ok (.iconst 1, 1) := by decide +kernel
theorem dX7_tick_31 : decode cX7_tick 31 = .ok (.iadd, 1) := by decide +kernel
theorem dX7_tick_32 : decode cX7_tick 32 = .ok (.iastore, 1) := by decide +kernel
theorem dX7_tick_33 : decode cX7_tick 33 = .ok (.aload_n 0, 1) := by decide +kernel
theorem dX7_tick_34 : decode cX7_tick 34 = .ok (.bipush 80, 2) := by decide +kernel
theorem dX7_tick_36 : decode cX7_tick 36 = .ok (.iaload, 1) := by decide +kernel
theorem dX7_tick_37 : decode cX7_tick 37 = .ok (.ifCond .ne 23, 3) := by decide +kernel
theorem dX7_tick_40 : decode cX7_tick 40 = .ok (.aload_n 0, 1) := by decide +kernel
theorem dX7_tick_41 : decode cX7_tick 41 = .ok (.iconst 3, 1) := by decide +kernel
theorem dX7_tick_42 : decode cX7_tick 42 = .ok (.invokestatic 72, 3) := by decide +kernel
theorem dX7_tick_45 : decode cX7_tick 45 = .ok (.goto 15, 3) := by decide +kernel
theorem dX7_tick_48 : decode cX7_tick 48 = .ok (.aload_n 0, 1) := by decide +kernel
theorem dX7_tick_49 : decode cX7_tick 49 = .ok (.bipush 73, 2) := by decide +kernel
theorem dX7_tick_51 : decode cX7_tick 51 = .ok (.iaload, 1) := by decide +kernel
theorem dX7_tick_52 : decode cX7_tick 52 = .ok (.iconst 1, 1) := by decide +kernel
theorem dX7_tick_53 : decode cX7_tick 53 = .ok (.if_icmp .ne 7, 3) := by decide +kernel
theorem dX7_tick_56 : decode cX7_tick 56 = .ok (.aload_n 0, 1) := by decide +kernel
theorem dX7_tick_57 : decode cX7_tick 57 = .ok (.invokestatic 101, 3) := by decide +kernel
theorem dX7_tick_60 : decode cX7_tick 60 = .ok (.aload_n 0, 1) := by decide +kernel
theorem dX7_tick_61 : decode cX7_tick 61 = .ok (.bipush 80, 2) := by decide +kernel
theorem dX7_tick_63 : decode cX7_tick 63 = .ok (.iload_n 1, 1) := by decide +kernel
theorem dX7_tick_64 : decode cX7_tick 64 = .ok (.ifCond .eq 7, 3) := by decide +kernel
theorem dX7_tick_67 : decode cX7_tick 67 = .ok (.iconst 1, 1) := by decide +kernel
theorem dX7_tick_68 : decode cX7_tick 68 = .ok (.goto 4, 3) := by decide +kernel
theorem dX7_tick_71 : decode cX7_tick 71 = .ok (.iconst 0, 1) := by decide +kernel
theorem dX7_tick_72 : decode cX7_tick 72 = .ok (.iastore, 1) := by decide +kernel
theorem dX7_tick_73 : decode cX7_tick 73 = .ok (.aload_n 0, 1) := by decide +kernel
theorem dX7_tick_74 : decode cX7_tick 74 = .ok (.invokestatic 104, 3) := by decide +kernel
theorem dX7_tick_77 : decode cX7_tick 77 = .ok (.aload_n 0, 1) := by decide +kernel
theorem dX7_tick_78 : decode cX7_tick 78 = .ok (.bipush 76, 2) := by decide +kernel
theorem dX7_tick_80 : decode cX7_tick 80 = .ok (.dup2, 1) := by decide +kernel
theorem dX7_tick_81 : decode cX7_tick 81 = .ok (.iaload, 1) := by decide +kernel
theorem dX7_tick_82 : decode cX7_tick 82 = .ok (.iconst 1, 1) := by decide +kernel
theorem dX7_tick_83 : decode cX7_tick 83 = .ok (.iadd, 1) := by decide +kernel
theorem dX7_tick_84 : decode cX7_tick 84 = .ok (.iastore, 1) := by decide +kernel
theorem dX7_tick_85 : decode cX7_tick 85 = .ok (.return_, 1) := by decide +kernel
set_option maxRecDepth 20000 in
theorem ggX7_battery_X7_in : GoodIn wsX7_battery wsX7_in := goodIn_r _ [5] (by decide +kernel) (by decide +kernel)
set_option maxRecDepth 20000 in
theorem gX7_battery_X7_in : GoodIn wsX7_battery (va_wsS RX7 44 yX7_in wsX7_in) := goodIn_app (goodIn_of _ (by decide +kernel)) ggX7_battery_X7_in
set_option maxRecDepth 20000 in
theorem ggX7_battery_X7_records : GoodIn wsX7_battery wsX7_records := goodIn_r _ [9, 10, 11, 1, 12, 13, 4, 14, 15, 16, 17, 18, 19, 20, 21, 22, 23, 24, 25, 26] (by decide +kernel) (by decide +kernel)
set_option maxRecDepth 20000 in
theorem gX7_battery_X7_records : GoodIn wsX7_battery (wsV RX7 41 RX7 yX7_records wsX7_records) := goodIn_app (goodIn_of _ (by decide +kernel)) ggX7_battery_X7_records
theorem dX7_battery_0 : decode cX7_battery 0 = .ok (.iload_n 1, 1) := by decide +kernel
theorem dX7_battery_1 : decode cX7_battery 1 = .ok (.iconst 1, 1) := by decide +kernel
theorem dX7_battery_2 : decode cX7_battery 2 = .ok (.bipush 6, 2) := by decide +kernel
theorem dX7_battery_4 : decode cX7_battery 4 = .ok (.invokestatic 44, 3) := by decide +kernel
theorem dX7_battery_7 : decode cX7_battery 7 = .ok (.ifCond .ne 6, 3) := by decide +kernel
theorem dX7_battery_10 : decode cX7_battery 10 = .ok (.bipush (-2), 2) := by decide +kernel
theorem dX7_battery_12 : decode cX7_battery 12 = .ok (.ireturn, 1) := by decide +kernel
theorem dX7_battery_13 : decode cX7_battery 13 = .ok (.aload_n 0, 1) := by decide +kernel
theorem dX7_battery_14 : decode cX7_battery 14 = .ok (.invokevirtual 41, 3) := by decide +kernel
theorem dX7_battery_17 : decode cX7_battery 17 = .ok (.aload_n 0, 1) := by decide +kernel
theorem dX7_battery_18 : decode cX7_battery 18 = .ok (.getfield 7, 3) := by decide +kernel
theorem dX7_battery_21 : decode cX7_battery 21 = .ok (.bipush 71, 2) := by decide +kernel
theorem dX7_battery_23 : decode cX7_battery 23 = .ok (.iaload, 1) := by decide +kernel
theorem dX7_battery_24 : decode cX7_battery 24 = .ok (.istore_n 2, 1) := by decide +kernel
theorem dX7_battery_25 : decode cX7_battery 25 = .ok (.iconst 0, 1) := by decide +kernel
theorem dX7_battery_26 : decode cX7_battery 26 = .ok (.istore_n 3, 1) := by decide +kernel
theorem dX7_battery_27 : decode cX7_battery 27 = .ok (.iload_n 3, 1) := by decide +kernel
theorem dX7_battery_28 : decode cX7_battery 28 = .ok (.bipush 42, 2) := by decide +kernel
theorem dX7_battery_30 : decode cX7_battery 30 = .ok (.if_icmp .ge 16, 3) := by decide +kernel
theorem dX7_battery_33 : decode cX7_battery 33 = .ok (.aload_n 0, 1) := by decide +kernel
theorem dX7_battery_34 : decode cX7_battery 34 = .ok (.getfield 7, 3) := by decide +kernel
theorem dX7_battery_37 : decode cX7_battery 37 = .ok (.iload_n 3, 1) := by decide +kernel
theorem dX7_battery_38 : decode cX7_battery 38 = .ok (.iconst 0, 1) := by decide +kernel
theorem dX7_battery_39 : decode cX7_battery 39 = .ok (.iastore, 1) := by decide +kernel
theorem dX7_battery_40 : decode cX7_battery 40 = .ok (.iinc 3 1, 3) := by decide +kernel
theorem dX7_battery_43 : decode cX7_battery 43 = .ok (.goto (-16), 3) := by decide +kernel
theorem dX7_battery_46 : decode cX7_battery 46 = .ok (.aload_n 0, 1) := by decide +kernel
theorem dX7_battery_47 : decode cX7_battery 47 = .ok (.getfield 7, 3) := by decide +kernel
theorem dX7_battery_50 : decode cX7_battery 50 = .ok (.bipush 71, 2) := by decide +kernel
theorem dX7_battery_52 : decode cX7_battery 52 = .ok (.iload_n 1, 1) := by decide +kernel
theorem dX7_battery_53 : decode cX7_battery 53 = .ok (.iastore, 1) := by decide +kernel
theorem dX7_battery_54 : decode cX7_battery 54 = .ok (.aload_n 0, 1) := by decide +kernel
theorem dX7_battery_55 : decode cX7_battery 55 = .ok (.getfield 7, 3) := by decide +kernel
theorem dX7_battery_58 : decode cX7_battery 58 = .ok (.bipush 73, 2) := by decide +kernel
theorem dX7_battery_60 : decode cX7_battery 60 = .ok (.iconst 0, 1) := by decide +kernel
theorem dX7_battery_61 : decode cX7_battery 61 = .ok (.iastore, 1) := by decide +kernel
theorem dX7_battery_62 : decode cX7_battery 62 = .ok (.iload_n 2, 1) := by decide +kernel
theorem dX7_battery_63 : decode cX7_battery 63 = .ok (.ireturn, 1) := by decide +kernel
set_option maxRecDepth 20000 in
theorem ggX7_setCharge_X7_isCell : GoodIn wsX7_setCharge wsX7_isCell := goodIn_r _ [6, 1, 7, 8, 5, 9, 22, 23, 24, 25, 26, 27, 28, 29, 30, 31, 32, 33] (by decide +kernel) (by decide +kernel)
set_option maxRecDepth 20000 in
theorem gX7_setCharge_X7_isCell : GoodIn wsX7_setCharge (wsV RX7 107 RX7 yX7_isCell wsX7_isCell) := goodIn_app (goodIn_of _ (by decide +kernel)) ggX7_setCharge_X7_isCell
set_option maxRecDepth 20000 in
theorem ggX7_setCharge_X7_in : GoodIn wsX7_setCharge wsX7_in := goodIn_r _ [9] (by decide +kernel) (by decide +kernel)
set_option maxRecDepth 20000 in
theorem gX7_setCharge_X7_in : GoodIn wsX7_setCharge (va_wsS RX7 44 yX7_in wsX7_in) := goodIn_app (goodIn_of _ (by decide +kernel)) ggX7_setCharge_X7_in
set_option maxRecDepth 20000 in
theorem ggX7_setCharge_X7_of : GoodIn wsX7_setCharge wsX7_of := goodIn_r _ [12] (by decide +kernel) (by decide +kernel)
set_option maxRecDepth 20000 in
theorem gX7_setCharge_X7_of : GoodIn wsX7_setCharge (va_wsS RX7 48 yX7_of wsX7_of) := goodIn_app (goodIn_of _ (by decide +kernel)) ggX7_setCharge_X7_of
set_option maxRecDepth 20000 in
theorem ggX7_setCharge_X7_records : GoodIn wsX7_setCharge wsX7_records := goodIn_r _ [16, 17, 18, 1, 19, 20, 5, 21, 22, 23, 24, 25, 26, 27, 28, 29, 30, 31, 32, 33] (by decide +kernel) (by decide +kernel)
set_option maxRecDepth 20000 in
theorem gX7_setCharge_X7_records : GoodIn wsX7_setCharge (wsV RX7 41 RX7 yX7_records wsX7_records) := goodIn_app (goodIn_of _ (by decide +kernel)) ggX7_setCharge_X7_records
theorem dX7_setCharge_0 : decode cX7_setCharge 0 = .ok (.aload_n 0, 1) := by decide +kernel
theorem dX7_setCharge_1 : decode cX7_setCharge 1 = .ok (.iload_n 1, 1) := by decide +kernel
theorem dX7_setCharge_2 : decode cX7_setCharge 2 = .ok (.invokevirtual 107, 3) := by decide +kernel
theorem dX7_setCharge_5 : decode cX7_setCharge 5 = .ok (.ifCond .ne 5, 3) := by decide +kernel
theorem dX7_setCharge_8 : decode cX7_setCharge 8 = .ok (.iconst (-1), 1) := by decide +kernel
theorem dX7_setCharge_9 : decode cX7_setCharge 9 = .ok (.ireturn, 1) := by decide +kernel
theorem dX7_setCharge_10 : decode cX7_setCharge 10 = .ok (.iload_n 2, 1) := by decide +kernel
theorem dX7_setCharge_11 : decode cX7_setCharge 11 = .ok (.iconst 0, 1) := by decide +kernel
theorem dX7_setCharge_12 : decode cX7_setCharge 12 = .ok (.aload_n 0, 1) := by decide +kernel
theorem dX7_setCharge_13 : decode cX7_setCharge 13 = .ok (.getfield 7, 3) := by decide +kernel
theorem dX7_setCharge_16 : decode cX7_setCharge 16 = .ok (.bipush 42, 2) := by decide +kernel
theorem dX7_setCharge_18 : decode cX7_setCharge 18 = .ok (.iaload, 1) := by decide +kernel
theorem dX7_setCharge_19 : decode cX7_setCharge 19 = .ok (.invokestatic 44, 3) := by decide +kernel
theorem dX7_setCharge_22 : decode cX7_setCharge 22 = .ok (.ifCond .ne 6, 3) := by decide +kernel
theorem dX7_setCharge_25 : decode cX7_setCharge 25 = .ok (.bipush (-2), 2) := by decide +kernel
theorem dX7_setCharge_27 : decode cX7_setCharge 27 = .ok (.ireturn, 1) := by decide +kernel
theorem dX7_setCharge_28 : decode cX7_setCharge 28 = .ok (.aload_n 0, 1) := by decide +kernel
theorem dX7_setCharge_29 : decode cX7_setCharge 29 = .ok (.getfield 7, 3) := by decide +kernel
theorem dX7_setCharge_32 : decode cX7_setCharge 32 = .ok (.iload_n 1, 1) := by decide +kernel
theorem dX7_setCharge_33 : decode cX7_setCharge 33 = .ok (.iconst 0, 1) := by decide +kernel
theorem dX7_setCharge_34 : decode cX7_setCharge 34 = .ok (.invokestatic 48, 3) := by decide +kernel
theorem dX7_setCharge_37 : decode cX7_setCharge 37 = .ok (.istore_n 3, 1) := by decide +kernel
theorem dX7_setCharge_38 : decode cX7_setCharge 38 = .ok (.iload_n 3, 1) := by decide +kernel
theorem dX7_setCharge_39 : decode cX7_setCharge 39 = .ok (.iload_n 2, 1) := by decide +kernel
theorem dX7_setCharge_40 : decode cX7_setCharge 40 = .ok (.if_icmp .ne 18, 3) := by decide +kernel
theorem dX7_setCharge_43 : decode cX7_setCharge 43 = .ok (.aload_n 0, 1) := by decide +kernel
theorem dX7_setCharge_44 : decode cX7_setCharge 44 = .ok (.getfield 7, 3) := by decide +kernel
theorem dX7_setCharge_47 : decode cX7_setCharge 47 = .ok (.iload_n 1, 1) := by decide +kernel
theorem dX7_setCharge_48 : decode cX7_setCharge 48 = .ok (.iconst 1, 1) := by decide +kernel
theorem dX7_setCharge_49 : decode cX7_setCharge 49 = .ok (.invokestatic 48, 3) := by decide +kernel
theorem dX7_setCharge_52 : decode cX7_setCharge 52 = .ok (.ifCond .ne 6, 3) := by decide +kernel
theorem dX7_setCharge_55 : decode cX7_setCharge 55 = .ok (.bipush (-5), 2) := by decide +kernel
theorem dX7_setCharge_57 : decode cX7_setCharge 57 = .ok (.ireturn, 1) := by decide +kernel
theorem dX7_setCharge_58 : decode cX7_setCharge 58 = .ok (.aload_n 0, 1) := by decide +kernel
theorem dX7_setCharge_59 : decode cX7_setCharge 59 = .ok (.invokevirtual 41, 3) := by decide +kernel
theorem dX7_setCharge_62 : decode cX7_setCharge 62 = .ok (.aload_n 0, 1) := by decide +kernel
theorem dX7_setCharge_63 : decode cX7_setCharge 63 = .ok (.getfield 7, 3) := by decide +kernel
theorem dX7_setCharge_66 : decode cX7_setCharge 66 = .ok (.bipush 7, 2) := by decide +kernel
theorem dX7_setCharge_68 : decode cX7_setCharge 68 = .ok (.iload_n 1, 1) := by decide +kernel
theorem dX7_setCharge_69 : decode cX7_setCharge 69 = .ok (.imul, 1) := by decide +kernel
theorem dX7_setCharge_70 : decode cX7_setCharge 70 = .ok (.iconst 0, 1) := by decide +kernel
theorem dX7_setCharge_71 : decode cX7_setCharge 71 = .ok (.iadd, 1) := by decide +kernel
theorem dX7_setCharge_72 : decode cX7_setCharge 72 = .ok (.iload_n 2, 1) := by decide +kernel
theorem dX7_setCharge_73 : decode cX7_setCharge 73 = .ok (.iastore, 1) := by decide +kernel
theorem dX7_setCharge_74 : decode cX7_setCharge 74 = .ok (.aload_n 0, 1) := by decide +kernel
theorem dX7_setCharge_75 : decode cX7_setCharge 75 = .ok (.getfield 7, 3) := by decide +kernel
theorem dX7_setCharge_78 : decode cX7_setCharge 78 = .ok (.bipush 7, 2) := by decide +kernel
theorem dX7_setCharge_80 : decode cX7_setCharge 80 = .ok (.iload_n 1, 1) := by decide +kernel
theorem dX7_setCharge_81 : decode cX7_setCharge 81 = .ok (.imul, 1) := by decide +kernel
theorem dX7_setCharge_82 : decode cX7_setCharge 82 = .ok (.iconst 1, 1) := by decide +kernel
theorem dX7_setCharge_83 : decode cX7_setCharge 83 = .ok (.iadd, 1) := by decide +kernel
theorem dX7_setCharge_84 : decode cX7_setCharge 84 = .ok (.iconst 0, 1) := by decide +kernel
theorem dX7_setCharge_85 : decode cX7_setCharge 85 = .ok (.iastore, 1) := by decide +kernel
theorem dX7_setCharge_86 : decode cX7_setCharge 86 = .ok (.iload_n 3, 1) := by decide +kernel
theorem dX7_setCharge_87 : decode cX7_setCharge 87 = .ok (.ireturn, 1) := by decide +kernel
set_option maxRecDepth 20000 in
theorem ggX7_use_X7_in : GoodIn wsX7_use wsX7_in := goodIn_r _ [5] (by decide +kernel) (by decide +kernel)
set_option maxRecDepth 20000 in
theorem gX7_use_X7_in : GoodIn wsX7_use (va_wsS RX7 44 yX7_in wsX7_in) := goodIn_app (goodIn_of _ (by decide +kernel)) ggX7_use_X7_in
set_option maxRecDepth 20000 in
theorem ggX7_use_X7_charged : GoodIn wsX7_use wsX7_charged := goodIn_r _ [8, 9, 10, 4, 11] (by decide +kernel) (by decide +kernel)
set_option maxRecDepth 20000 in
theorem gX7_use_X7_charged : GoodIn wsX7_use (va_wsS RX7 111 yX7_charged wsX7_charged) := goodIn_app (goodIn_of _ (by decide +kernel)) ggX7_use_X7_charged
set_option maxRecDepth 20000 in
theorem ggX7_use_X7_records : GoodIn wsX7_use wsX7_records := goodIn_r _ [15, 16, 17, 1, 18, 19, 4, 20, 21, 22, 23, 24, 25, 26, 27, 28, 29, 30, 31, 32] (by decide +kernel) (by decide +kernel)
set_option maxRecDepth 20000 in
theorem gX7_use_X7_records : GoodIn wsX7_use (wsV RX7 41 RX7 yX7_records wsX7_records) := goodIn_app (goodIn_of _ (by decide +kernel)) ggX7_use_X7_records
theorem dX7_use_0 : decode cX7_use 0 = .ok (.iload_n 1, 1) := by decide +kernel
theorem dX7_use_1 : decode cX7_use 1 = .ok (.iconst 1, 1) := by decide +kernel
theorem dX7_use_2 : decode cX7_use 2 = .ok (.sipush 5000, 3) := by decide +kernel
theorem dX7_use_5 : decode cX7_use 5 = .ok (.invokestatic 44, 3) := by decide +kernel
theorem dX7_use_8 : decode cX7_use 8 = .ok (.ifCond .ne 6, 3) := by decide +kernel
theorem dX7_use_11 : decode cX7_use 11 = .ok (.bipush (-2), 2) := by decide +kernel
theorem dX7_use_13 : decode cX7_use 13 = .ok (.ireturn, 1) := by decide +kernel
theorem dX7_use_14 : decode cX7_use 14 = .ok (.aload_n 0, 1) := by decide +kernel
theorem dX7_use_15 : decode cX7_use 15 = .ok (.getfield 7, 3) := by decide +kernel
theorem dX7_use_18 : decode cX7_use 18 = .ok (.bipush 73, 2) := by decide +kernel
theorem dX7_use_20 : decode cX7_use 20 = .ok (.iaload, 1) := by decide +kernel
theorem dX7_use_21 : decode cX7_use 21 = .ok (.iconst 1, 1) := by decide +kernel
theorem dX7_use_22 : decode cX7_use 22 = .ok (.if_icmp .eq 15, 3) := by decide +kernel
theorem dX7_use_25 : decode cX7_use 25 = .ok (.aload_n 0, 1) := by decide +kernel
theorem dX7_use_26 : decode cX7_use 26 = .ok (.getfield 7, 3) := by decide +kernel
theorem dX7_use_29 : decode cX7_use 29 = .ok (.iconst 0, 1) := by decide +kernel
theorem dX7_use_30 : decode cX7_use 30 = .ok (.invokestatic 111, 3) := by decide +kernel
theorem dX7_use_33 : decode cX7_use 33 = .ok (.iload_n 1, 1) := by decide +kernel
theorem dX7_use_34 : decode cX7_use 34 = .ok (.if_icmp .ge 6, 3) := by decide +kernel
theorem dX7_use_37 : decode cX7_use 37 = .ok (.bipush (-4), 2) := by decide +kernel
theorem dX7_use_39 : decode cX7_use 39 = .ok (.ireturn, 1) := by decide +kernel
theorem dX7_use_40 : decode cX7_use 40 = .ok (.aload_n 0, 1) := by decide +kernel
theorem dX7_use_41 : decode cX7_use 41 = .ok (.invokevirtual 41, 3) := by decide +kernel
theorem dX7_use_44 : decode cX7_use 44 = .ok (.iconst 0, 1) := by decide +kernel
theorem dX7_use_45 : decode cX7_use 45 = .ok (.istore_n 2, 1) := by decide +kernel
theorem dX7_use_46 : decode cX7_use 46 = .ok (.iload_n 2, 1) := by decide +kernel
theorem dX7_use_47 : decode cX7_use 47 = .ok (.aload_n 0, 1) := by decide +kernel
theorem dX7_use_48 : decode cX7_use 48 = .ok (.getfield 7, 3) := by decide +kernel
theorem dX7_use_51 : decode cX7_use 51 = .ok (.bipush 71, 2) := by decide +kernel
theorem dX7_use_53 : decode cX7_use 53 = .ok (.iaload, 1) := by decide +kernel
theorem dX7_use_54 : decode cX7_use 54 = .ok (.if_icmp .ge 40, 3) := by decide +kernel
theorem dX7_use_57 : decode cX7_use 57 = .ok (.aload_n 0, 1) := by decide +kernel
theorem dX7_use_58 : decode cX7_use 58 = .ok (.getfield 7, 3) := by decide +kernel
theorem dX7_use_61 : decode cX7_use 61 = .ok (.bipush 7, 2) := by decide +kernel
theorem dX7_use_63 : decode cX7_use 63 = .ok (.iload_n 2, 1) := by decide +kernel
theorem dX7_use_64 : decode cX7_use 64 = .ok (.imul, 1) := by decide +kernel
theorem dX7_use_65 : decode cX7_use 65 = .ok (.iconst 0, 1) := by decide +kernel
theorem dX7_use_66 : decode cX7_use 66 = .ok (.iadd, 1) := by decide +kernel
theorem dX7_use_67 : decode cX7_use 67 = .ok (.dup2, 1) := by decide +kernel
theorem dX7_use_68 : decode cX7_use 68 = .ok (.iaload, 1) := by decide +kernel
theorem dX7_use_69 : decode cX7_use 69 = .ok (.iload_n 1, 1) := by decide +kernel
theorem dX7_use_70 : decode cX7_use 70 = .ok (.isub, 1) := by decide +kernel
theorem dX7_use_71 : decode cX7_use 71 = .ok (.iastore, 1) := by decide +kernel
theorem dX7_use_72 : decode cX7_use 72 = .ok (.aload_n 0, 1) := by decide +kernel
theorem dX7_use_73 : decode cX7_use 73 = .ok (.getfield 7, 3) := by decide +kernel
theorem dX7_use_76 : decode cX7_use 76 = .ok (.bipush 7, 2) := by decide +kernel
theorem dX7_use_78 : decode cX7_use 78 = .ok (.iload_n 2, 1) := by decide +kernel
theorem dX7_use_79 : decode cX7_use 79 = .ok (.imul, 1) := by decide +kernel
theorem dX7_use_80 : decode cX7_use 80 = .ok (.bipush 6, 2) := by decide +kernel
theorem dX7_use_82 : decode cX7_use 82 = .ok (.iadd, 1) := by decide +kernel
theorem dX7_use_83 : decode cX7_use 83 = .ok (.dup2, 1) := by decide +kernel
theorem dX7_use_84 : decode cX7_use 84 = .ok (.iaload, 1) := by decide +kernel
theorem dX7_use_85 : decode cX7_use 85 = .ok (.iload_n 1, 1) := by decide +kernel
theorem dX7_use_86 : decode cX7_use 86 = .ok (.iadd, 1) := by decide +kernel
theorem dX7_use_87 : decode cX7_use 87 = .ok (.iastore, 1) := by decide +kernel
theorem dX7_use_88 : decode cX7_use 88 = .ok (.iinc 2 1, 3) := by decide +kernel
theorem dX7_use_91 : decode cX7_use 91 = .ok (.goto (-45), 3) := by decide +kernel
theorem dX7_use_94 : decode cX7_use 94 = .ok (.aload_n 0, 1) := by decide +kernel
theorem dX7_use_95 : decode cX7_use 95 = .ok (.getfield 7, 3) := by decide +kernel
theorem dX7_use_98 : decode cX7_use 98 = .ok (.iconst 0, 1) := by decide +kernel
theorem dX7_use_99 : decode cX7_use 99 = .ok (.invokestatic 111, 3) := by decide +kernel
theorem dX7_use_102 : decode cX7_use 102 = .ok (.ireturn, 1) := by decide +kernel
set_option maxRecDepth 20000 in
theorem ggX7_isInRange_X7_in : GoodIn wsX7_isInRange wsX7_in := goodIn_r _ [4] (by decide +kernel) (by decide +kernel)
set_option maxRecDepth 20000 in
theorem gX7_isInRange_X7_in : GoodIn wsX7_isInRange (va_wsS RX7 44 yX7_in wsX7_in) := goodIn_app (goodIn_of _ (by decide +kernel)) ggX7_isInRange_X7_in
theorem dX7_isInRange_0 : decode cX7_isInRange 0 = .ok (.iload_n 0, 1) := by decide +kernel
theorem dX7_isInRange_1 : decode cX7_isInRange 1 = .ok (.tableswitch 101 0 7 #[47, 57, 66, 75, 84, 75, 75, 92], 47) := by decide +kernel
theorem dX7_isInRange_48 : decode cX7_isInRange 48 = .ok (.iload_n 1, 1) := by decide +kernel
theorem dX7_isInRange_49 : decode cX7_isInRange 49 = .ok (.bipush 100, 2) := by decide +kernel
theorem dX7_isInRange_51 : decode cX7_isInRange 51 = .ok (.sipush 5000, 3) := by decide +kernel
theorem dX7_isInRange_54 : decode cX7_isInRange 54 = .ok (.invokestatic 44, 3) := by decide +kernel
theorem dX7_isInRange_57 : decode cX7_isInRange 57 = .ok (.ireturn, 1) := by decide +kernel
theorem dX7_isInRange_58 : decode cX7_isInRange 58 = .ok (.iload_n 1, 1) := by decide +kernel
theorem dX7_isInRange_59 : decode cX7_isInRange 59 = .ok (.iconst 0, 1) := by decide +kernel
theorem dX7_isInRange_60 : decode cX7_isInRange 60 = .ok (.sipush 200, 3) := by decide +kernel
theorem dX7_isInRange_63 : decode cX7_isInRange 63 = .ok (.invokestatic 44, 3) := by decide +kernel
theorem dX7_isInRange_66 : decode cX7_isInRange 66 = .ok (.ireturn, 1) := by decide +kernel
theorem dX7_isInRange_67 : decode cX7_isInRange 67 = .ok (.iload_n 1, 1) := by decide +kernel
theorem dX7_isInRange_68 : decode cX7_isInRange 68 = .ok (.bipush 50, 2) := by decide +kernel
theorem dX7_isInRange_70 : decode cX7_isInRange 70 = .ok (.bipush 100, 2) := by decide +kernel
theorem dX7_isInRange_72 : decode cX7_isInRange 72 = .ok (.invokestatic 44, 3) := by decide +kernel
theorem dX7_isInRange_75 : decode cX7_isInRange 75 = .ok (.ireturn, 1) := by decide +kernel
theorem dX7_isInRange_76 : decode cX7_isInRange 76 = .ok (.iload_n 1, 1) := by decide +kernel
theorem dX7_isInRange_77 : decode cX7_isInRange 77 = .ok (.bipush (-30), 2) := by decide +kernel
theorem dX7_isInRange_79 : decode cX7_isInRange 79 = .ok (.bipush 80, 2) := by decide +kernel
theorem dX7_isInRange_81 : decode cX7_isInRange 81 = .ok (.invokestatic 44, 3) := by decide +kernel
theorem dX7_isInRange_84 : decode cX7_isInRange 84 = .ok (.ireturn, 1) := by decide +kernel
theorem dX7_isInRange_85 : decode cX7_isInRange 85 = .ok (.iload_n 1, 1) := by decide +kernel
theorem dX7_isInRange_86 : decode cX7_isInRange 86 = .ok (.iconst 0, 1) := by decide +kernel
theorem dX7_isInRange_87 : decode cX7_isInRange 87 = .ok (.bipush 10, 2) := by decide +kernel
theorem dX7_isInRange_89 : decode cX7_isInRange 89 = .ok (.invokestatic 44, 3) := by decide +kernel
theorem dX7_isInRange_92 : decode cX7_isInRange 92 = .ok (.ireturn, 1) := by decide +kernel
theorem dX7_isInRange_93 : decode cX7_isInRange 93 = .ok (.iload_n 1, 1) := by decide +kernel
theorem dX7_isInRange_94 : decode cX7_isInRange 94 = .ok (.iconst 0, 1) := by decide +kernel
theorem dX7_isInRange_95 : decode cX7_isInRange 95 = .ok (.sipush 500, 3) := by decide +kernel
theorem dX7_isInRange_98 : decode cX7_isInRange 98 = .ok (.invokestatic 44, 3) := by decide +kernel
theorem dX7_isInRange_101 : decode cX7_isInRange 101 = .ok (.ireturn, 1) := by decide +kernel
theorem dX7_isInRange_102 : decode cX7_isInRange 102 = .ok (.iload_n 1, 1) := by decide +kernel
theorem dX7_isInRange_103 : decode cX7_isInRange 103 = .ok (.iconst 0, 1) := by decide +kernel
theorem dX7_isInRange_104 : decode cX7_isInRange 104 = .ok (.bipush 50, 2) := by decide +kernel
theorem dX7_isInRange_106 : decode cX7_isInRange 106 = .ok (.invokestatic 44, 3) := by decide +kernel
theorem dX7_isInRange_109 : decode cX7_isInRange 109 = .ok (.ireturn, 1) := by decide +kernel
set_option maxRecDepth 20000 in
theorem ggX7_cannotBe_X7_charged : GoodIn wsX7_cannotBe wsX7_charged := goodIn_r _ [5, 6, 7, 4, 8] (by decide +kernel) (by decide +kernel)
set_option maxRecDepth 20000 in
theorem gX7_cannotBe_X7_charged : GoodIn wsX7_cannotBe (va_wsS RX7 111 yX7_charged wsX7_charged) := goodIn_app (goodIn_of _ (by decide +kernel)) ggX7_cannotBe_X7_charged
theorem dX7_cannotBe_0 : decode cX7_cannotBe 0 = .ok (.iload_n 1, 1) := by decide +kernel
theorem dX7_cannotBe_1 : decode cX7_cannotBe 1 = .ok (.ifCond .ne 15, 3) := by decide +kernel
theorem dX7_cannotBe_4 : decode cX7_cannotBe 4 = .ok (.aload_n 0, 1) := by decide +kernel
theorem dX7_cannotBe_5 : decode cX7_cannotBe 5 = .ok (.getfield 7, 3) := by decide +kernel
theorem dX7_cannotBe_8 : decode cX7_cannotBe 8 = .ok (.iconst 1, 1) := by decide +kernel
theorem dX7_cannotBe_9 : decode cX7_cannotBe 9 = .ok (.invokestatic 111, 3) := by decide +kernel
theorem dX7_cannotBe_12 : decode cX7_cannotBe 12 = .ok (.iload_n 2, 1) := by decide +kernel
theorem dX7_cannotBe_13 : decode cX7_cannotBe 13 = .ok (.if_icmp .gt 36, 3) := by decide +kernel
theorem dX7_cannotBe_16 : decode cX7_cannotBe 16 = .ok (.iload_n 1, 1) := by decide +kernel
theorem dX7_cannotBe_17 : decode cX7_cannotBe 17 = .ok (.iconst 5, 1) := by decide +kernel
theorem dX7_cannotBe_18 : decode cX7_cannotBe 18 = .ok (.if_icmp .ne 14, 3) := by decide +kernel
theorem dX7_cannotBe_21 : decode cX7_cannotBe 21 = .ok (.iload_n 2, 1) := by decide +kernel
theorem dX7_cannotBe_22 : decode cX7_cannotBe 22 = .ok (.aload_n 0, 1) := by decide +kernel
theorem dX7_cannotBe_23 : decode cX7_cannotBe 23 = .ok (.getfield 7, 3) := by decide +kernel
theorem dX7_cannotBe_26 : decode cX7_cannotBe 26 = .ok (.bipush 48, 2) := by decide +kernel
theorem dX7_cannotBe_28 : decode cX7_cannotBe 28 = .ok (.iaload, 1) := by decide +kernel
theorem dX7_cannotBe_29 : decode cX7_cannotBe 29 = .ok (.if_icmp .gt 20, 3) := by decide +kernel
theorem dX7_cannotBe_32 : decode cX7_cannotBe 32 = .ok (.iload_n 1, 1) := by decide +kernel
theorem dX7_cannotBe_33 : decode cX7_cannotBe 33 = .ok (.bipush 6, 2) := by decide +kernel
theorem dX7_cannotBe_35 : decode cX7_cannotBe 35 = .ok (.if_icmp .ne 18, 3) := by decide +kernel
theorem dX7_cannotBe_38 : decode cX7_cannotBe 38 = .ok (.iload_n 2, 1) := by decide +kernel
theorem dX7_cannotBe_39 : decode cX7_cannotBe 39 = .ok (.aload_n 0, 1) := by decide +kernel
theorem dX7_cannotBe_40 : decode cX7_cannotBe 40 = .ok (.getfield 7, 3) := by decide +kernel
theorem dX7_cannotBe_43 : decode cX7_cannotBe 43 = .ok (.bipush 47, 2) := by decide +kernel
theorem dX7_cannotBe_45 : decode cX7_cannotBe 45 = .ok (.iaload, 1) := by decide +kernel
theorem dX7_cannotBe_46 : decode cX7_cannotBe 46 = .ok (.if_icmp .ge 7, 3) := by decide +kernel
theorem dX7_cannotBe_49 : decode cX7_cannotBe 49 = .ok (.iconst 1, 1) := by decide +kernel
theorem dX7_cannotBe_50 : decode cX7_cannotBe 50 = .ok (.goto 4, 3) := by decide +kernel
theorem dX7_cannotBe_53 : decode cX7_cannotBe 53 = .ok (.iconst 0, 1) := by decide +kernel
theorem dX7_cannotBe_54 : decode cX7_cannotBe 54 = .ok (.ireturn, 1) := by decide +kernel
set_option maxRecDepth 20000 in
theorem ggX7_set_X7_in : GoodIn wsX7_set wsX7_in := goodIn_r _ [5] (by decide +kernel) (by decide +kernel)
set_option maxRecDepth 20000 in
theorem gX7_set_X7_in : GoodIn wsX7_set (va_wsS RX7 44 yX7_in wsX7_in) := goodIn_app (goodIn_of _ (by decide +kernel)) ggX7_set_X7_in
set_option maxRecDepth 20000 in
theorem ggX7_set_X7_isInRange : GoodIn wsX7_set wsX7_isInRange := goodIn_r _ [8, 2, 3, 4, 5] (by decide +kernel) (by decide +kernel)
set_option maxRecDepth 20000 in
theorem gX7_set_X7_isInRange : GoodIn wsX7_set (va_wsS RX7 115 yX7_isInRange wsX7_isInRange) := goodIn_app (goodIn_of _ (by decide +kernel)) ggX7_set_X7_isInRange
set_option maxRecDepth 20000 in
theorem ggX7_set_X7_cannotBe : GoodIn wsX7_set wsX7_cannotBe := goodIn_r _ [12, 1, 13, 14, 4, 15, 16, 17, 18, 28, 29, 30, 31, 32, 33, 34, 35, 36, 37, 38, 39] (by decide +kernel) (by decide +kernel)
set_option maxRecDepth 20000 in
theorem gX7_set_X7_cannotBe : GoodIn wsX7_set (wsV RX7 119 RX7 yX7_cannotBe wsX7_cannotBe) := goodIn_app (goodIn_of _ (by decide +kernel)) ggX7_set_X7_cannotBe
set_option maxRecDepth 20000 in
theorem ggX7_set_X7_records : GoodIn wsX7_set wsX7_records := goodIn_r _ [22, 23, 24, 1, 25, 26, 4, 27, 28, 29, 30, 31, 32, 33, 34, 35, 36, 37, 38, 39] (by decide +kernel) (by decide +kernel)
set_option maxRecDepth 20000 in
theorem gX7_set_X7_records : GoodIn wsX7_set (wsV RX7 41 RX7 yX7_records wsX7_records) := goodIn_app (goodIn_of _ (by decide +kernel)) ggX7_set_X7_records
theorem dX7_set_0 : decode cX7_set 0 = .ok (.iload_n 1, 1) := by decide +kernel
theorem dX7_set_1 : decode cX7_set 1 = .ok (.iconst 0, 1) := by decide +kernel
theorem dX7_set_2 : decode cX7_set 2 = .ok (.bipush 8, 2) := by decide +kernel
theorem dX7_set_4 : decode cX7_set 4 = .ok (.invokestatic 44, 3) := by decide +kernel
theorem dX7_set_7 : decode cX7_set 7 = .ok (.ifCond .ne 5, 3) := by decide +kernel
theorem dX7_set_10 : decode cX7_set 10 = .ok (.iconst (-1), 1) := by decide +kernel
theorem dX7_set_11 : decode cX7_set 11 = .ok (.ireturn, 1) := by decide +kernel
theorem dX7_set_12 : decode cX7_set 12 = .ok (.iload_n 1, 1) := by decide +kernel
theorem dX7_set_13 : decode cX7_set 13 = .ok (.iload_n 2, 1) := by decide +kernel
theorem dX7_set_14 : decode cX7_set 14 = .ok (.invokestatic 115, 3) := by decide +kernel
theorem dX7_set_17 : decode cX7_set 17 = .ok (.ifCond .ne 6, 3) := by decide +kernel
theorem dX7_set_20 : decode cX7_set 20 = .ok (.bipush (-2), 2) := by decide +kernel
theorem dX7_set_22 : decode cX7_set 22 = .ok (.ireturn, 1) := by decide +kernel
theorem dX7_set_23 : decode cX7_set 23 = .ok (.aload_n 0, 1) := by decide +kernel
theorem dX7_set_24 : decode cX7_set 24 = .ok (.iload_n 1, 1) := by decide +kernel
theorem dX7_set_25 : decode cX7_set 25 = .ok (.iload_n 2, 1) := by decide +kernel
theorem dX7_set_26 : decode cX7_set 26 = .ok (.invokevirtual 119, 3) := by decide +kernel
theorem dX7_set_29 : decode cX7_set 29 = .ok (.ifCond .eq 6, 3) := by decide +kernel
theorem dX7_set_32 : decode cX7_set 32 = .ok (.bipush (-4), 2) := by decide +kernel
theorem dX7_set_34 : decode cX7_set 34 = .ok (.ireturn, 1) := by decide +kernel
theorem dX7_set_35 : decode cX7_set 35 = .ok (.aload_n 0, 1) := by decide +kernel
theorem dX7_set_36 : decode cX7_set 36 = .ok (.getfield 7, 3) := by decide +kernel
theorem dX7_set_39 : decode cX7_set 39 = .ok (.bipush 42, 2) := by decide +kernel
theorem dX7_set_41 : decode cX7_set 41 = .ok (.iload_n 1, 1) := by decide +kernel
theorem dX7_set_42 : decode cX7_set 42 = .ok (.iadd, 1) := by decide +kernel
theorem dX7_set_43 : decode cX7_set 43 = .ok (.iaload, 1) := by decide +kernel
theorem dX7_set_44 : decode cX7_set 44 = .ok (.istore_n 3, 1) := by decide +kernel
theorem dX7_set_45 : decode cX7_set 45 = .ok (.iload_n 3, 1) := by decide +kernel
theorem dX7_set_46 : decode cX7_set 46 = .ok (.iload_n 2, 1) := by decide +kernel
theorem dX7_set_47 : decode cX7_set 47 = .ok (.if_icmp .ne 6, 3) := by decide +kernel
theorem dX7_set_50 : decode cX7_set 50 = .ok (.bipush (-5), 2) := by decide +kernel
theorem dX7_set_52 : decode cX7_set 52 = .ok (.ireturn, 1) := by decide +kernel
theorem dX7_set_53 : decode cX7_set 53 = .ok (.aload_n 0, 1) := by decide +kernel
theorem dX7_set_54 : decode cX7_set 54 = .ok (.invokevirtual 41, 3) := by decide +kernel
theorem dX7_set_57 : decode cX7_set 57 = .ok (.aload_n 0, 1) := by decide +kernel
theorem dX7_set_58 : decode cX7_set 58 = .ok (.getfield 7, 3) := by decide +kernel
theorem dX7_set_61 : decode cX7_set 61 = .ok (.bipush 42, 2) := by decide +kernel
theorem dX7_set_63 : decode cX7_set 63 = .ok (.iload_n 1, 1) := by decide +kernel
theorem dX7_set_64 : decode cX7_set 64 = .ok (.iadd, 1) := by decide +kernel
theorem dX7_set_65 : decode cX7_set 65 = .ok (.iload_n 2, 1) := by decide +kernel
theorem dX7_set_66 : decode cX7_set 66 = .ok (.iastore, 1) := by decide +kernel
theorem dX7_set_67 : decode cX7_set 67 = .ok (.iload_n 3, 1) := by decide +kernel
theorem dX7_set_68 : decode cX7_set 68 = .ok (.sipush 1000, 3) := by decide +kernel
theorem dX7_set_71 : decode cX7_set 71 = .ok (.iadd, 1) := by decide +kernel
theorem dX7_set_72 : decode cX7_set 72 = .ok (.ireturn, 1) := by decide +kernel
set_option maxRecDepth 20000 in
theorem ggX7_start_X7_records : GoodIn wsX7_start wsX7_records := goodIn_r _ [6, 7, 8, 1, 9, 10, 5, 11, 15, 16, 17, 18, 19, 20, 21, 22, 23, 24, 25, 26] (by decide +kernel) (by decide +kernel)
set_option maxRecDepth 20000 in
theorem gX7_start_X7_records : GoodIn wsX7_start (wsV RX7 41 RX7 yX7_records wsX7_records) := goodIn_app (goodIn_of _ (by decide +kernel)) ggX7_start_X7_records
set_option maxRecDepth 20000 in
theorem ggX7_start_X7_logs : GoodIn wsX7_start wsX7_logs := goodIn_r _ [14] (by decide +kernel) (by decide +kernel)
set_option maxRecDepth 20000 in
theorem gX7_start_X7_logs : GoodIn wsX7_start (va_wsS RX7 72 yX7_logs wsX7_logs) := goodIn_app (goodIn_of _ (by decide +kernel)) ggX7_start_X7_logs
theorem dX7_start_0 : decode cX7_start 0 = .ok (.aload_n 0, 1) := by decide +kernel
theorem dX7_start_1 : decode cX7_start 1 = .ok (.getfield 7, 3) := by decide +kernel
theorem dX7_start_4 : decode cX7_start 4 = .ok (.bipush 73, 2) := by decide +kernel
theorem dX7_start_6 : decode cX7_start 6 = .ok (.iaload, 1) := by decide +kernel
theorem dX7_start_7 : decode cX7_start 7 = .ok (.iconst 1, 1) := by decide +kernel
theorem dX7_start_8 : decode cX7_start 8 = .ok (.if_icmp .eq 13, 3) := by decide +kernel
theorem dX7_start_11 : decode cX7_start 11 = .ok (.aload_n 0, 1) := by decide +kernel
theorem dX7_start_12 : decode cX7_start 12 = .ok (.getfield 7, 3) := by decide +kernel
theorem dX7_start_15 : decode cX7_start 15 = .ok (.bipush 72, 2) := by decide +kernel
theorem dX7_start_17 : decode cX7_start 17 = .ok (.iaload, 1) := by decide +kernel
theorem dX7_start_18 : decode cX7_start 18 = .ok (.ifCond .ne 6, 3) := by decide +kernel
theorem dX7_start_21 : decode cX7_start 21 = .ok (.bipush (-4), 2) := by decide +kernel
theorem dX7_start_23 : decode cX7_start 23 = .ok (.ireturn, 1) := by decide +kernel
theorem dX7_start_24 : decode cX7_start 24 = .ok (.aload_n 0, 1) := by decide +kernel
theorem dX7_start_25 : decode cX7_start 25 = .ok (.invokevirtual 41, 3) := by decide +kernel
theorem dX7_start_28 : decode cX7_start 28 = .ok (.aload_n 0, 1) := by decide +kernel
theorem dX7_start_29 : decode cX7_start 29 = .ok (.getfield 7, 3) := by decide +kernel
theorem dX7_start_32 : decode cX7_start 32 = .ok (.bipush 73, 2) := by decide +kernel
theorem dX7_start_34 : decode cX7_start 34 = .ok (.iaload, 1) := by decide +kernel
theorem dX7_start_35 : decode cX7_start 35 = .ok (.istore_n 1, 1) := by decide +kernel
theorem dX7_start_36 : decode cX7_start 36 = .ok (.aload_n 0, 1) := by decide +kernel
theorem dX7_start_37 : decode cX7_start 37 = .ok (.getfield 7, 3) := by decide +kernel
theorem dX7_start_40 : decode cX7_start 40 = .ok (.bipush 73, 2) := by decide +kernel
theorem dX7_start_42 : decode cX7_start 42 = .ok (.iconst 1, 1) := by decide +kernel
theorem dX7_start_43 : decode cX7_start 43 = .ok (.iastore, 1) := by decide +kernel
theorem dX7_start_44 : decode cX7_start 44 = .ok (.aload_n 0, 1) := by decide +kernel
theorem dX7_start_45 : decode cX7_start 45 = .ok (.getfield 7, 3) := by decide +kernel
theorem dX7_start_48 : decode cX7_start 48 = .ok (.bipush 74, 2) := by decide +kernel
theorem dX7_start_50 : decode cX7_start 50 = .ok (.iconst 0, 1) := by decide +kernel
theorem dX7_start_51 : decode cX7_start 51 = .ok (.iastore, 1) := by decide +kernel
theorem dX7_start_52 : decode cX7_start 52 = .ok (.aload_n 0, 1) := by decide +kernel
theorem dX7_start_53 : decode cX7_start 53 = .ok (.getfield 7, 3) := by decide +kernel
theorem dX7_start_56 : decode cX7_start 56 = .ok (.bipush 75, 2) := by decide +kernel
theorem dX7_start_58 : decode cX7_start 58 = .ok (.iconst 0, 1) := by decide +kernel
theorem dX7_start_59 : decode cX7_start 59 = .ok (.iastore, 1) := by decide +kernel
theorem dX7_start_60 : decode cX7_start 60 = .ok (.aload_n 0, 1) := by decide +kernel
theorem dX7_start_61 : decode cX7_start 61 = .ok (.getfield 7, 3) := by decide +kernel
theorem dX7_start_64 : decode cX7_start 64 = .ok (.bipush 80, 2) := by decide +kernel
theorem dX7_start_66 : decode cX7_start 66 = .ok (.iconst 0, 1) := by decide +kernel
theorem dX7_start_67 : decode cX7_start 67 = .ok (.iastore, 1) := by decide +kernel
theorem dX7_start_68 : decode cX7_start 68 = .ok (.aload_n 0, 1) := by decide +kernel
theorem dX7_start_69 : decode cX7_start 69 = .ok (.getfield 7, 3) := by decide +kernel
theorem dX7_start_72 : decode cX7_start 72 = .ok (.iconst 0, 1) := by decide +kernel
theorem dX7_start_73 : decode cX7_start 73 = .ok (.invokestatic 72, 3) := by decide +kernel
theorem dX7_start_76 : decode cX7_start 76 = .ok (.iload_n 1, 1) := by decide +kernel
theorem dX7_start_77 : decode cX7_start 77 = .ok (.ireturn, 1) := by decide +kernel
set_option maxRecDepth 20000 in
theorem ggX7_stop_X7_records : GoodIn wsX7_stop wsX7_records := goodIn_r _ [6, 7, 8, 1, 9, 10, 5, 11, 12, 13, 14, 15, 16, 17, 18, 19, 20, 21, 22, 23] (by decide +kernel) (by decide +kernel)
set_option maxRecDepth 20000 in
theorem gX7_stop_X7_records : GoodIn wsX7_stop (wsV RX7 41 RX7 yX7_records wsX7_records) := goodIn_app (goodIn_of _ (by decide +kernel)) ggX7_stop_X7_records
theorem dX7_stop_0 : decode cX7_stop 0 = .ok (.aload_n 0, 1) := by decide +kernel
theorem dX7_stop_1 : decode cX7_stop 1 = .ok (.getfield 7, 3) := by decide +kernel
theorem dX7_stop_4 : decode cX7_stop 4 = .ok (.bipush 73, 2) := by decide +kernel
theorem dX7_stop_6 : decode cX7_stop 6 = .ok (.iaload, 1) := by decide +kernel
theorem dX7_stop_7 : decode cX7_stop 7 = .ok (.istore_n 1, 1) := by decide +kernel
theorem dX7_stop_8 : decode cX7_stop 8 = .ok (.iload_n 1, 1) := by decide +kernel
theorem dX7_stop_9 : decode cX7_stop 9 = .ok (.ifCond .ne 6, 3) := by decide +kernel
theorem dX7_stop_12 : decode cX7_stop 12 = .ok (.bipush (-5), 2) := by decide +kernel
theorem dX7_stop_14 : decode cX7_stop 14 = .ok (.ireturn, 1) := by decide +kernel
theorem dX7_stop_15 : decode cX7_stop 15 = .ok (.aload_n 0, 1) := by decide +kernel
theorem dX7_stop_16 : decode cX7_stop 16 = .ok (.invokevirtual 41, 3) := by decide +kernel
theorem dX7_stop_19 : decode cX7_stop 19 = .ok (.aload_n 0, 1) := by decide +kernel
theorem dX7_stop_20 : decode cX7_stop 20 = .ok (.getfield 7, 3) := by decide +kernel
theorem dX7_stop_23 : decode cX7_stop 23 = .ok (.bipush 73, 2) := by decide +kernel
theorem dX7_stop_25 : decode cX7_stop 25 = .ok (.iconst 0, 1) := by decide +kernel
theorem dX7_stop_26 : decode cX7_stop 26 = .ok (.iastore, 1) := by decide +kernel
theorem dX7_stop_27 : decode cX7_stop 27 = .ok (.iload_n 1, 1) := by decide +kernel
theorem dX7_stop_28 : decode cX7_stop 28 = .ok (.ireturn, 1) := by decide +kernel
set_option maxRecDepth 20000 in
theorem ggX7_pass_X7_in : GoodIn wsX7_pass wsX7_in := goodIn_r _ [6] (by decide +kernel) (by decide +kernel)
set_option maxRecDepth 20000 in
theorem gX7_pass_X7_in : GoodIn wsX7_pass (va_wsS RX7 44 yX7_in wsX7_in) := goodIn_app (goodIn_of _ (by decide +kernel)) ggX7_pass_X7_in
set_option maxRecDepth 20000 in
theorem ggX7_pass_X7_records : GoodIn wsX7_pass wsX7_records := goodIn_r _ [10, 11, 12, 1, 13, 14, 5, 15, 70, 71, 72, 73, 74, 75, 76, 77, 78, 79, 80, 81] (by decide +kernel) (by decide +kernel)
set_option maxRecDepth 20000 in
theorem gX7_pass_X7_records : GoodIn wsX7_pass (wsV RX7 41 RX7 yX7_records wsX7_records) := goodIn_app (goodIn_of _ (by decide +kernel)) ggX7_pass_X7_records
set_option maxRecDepth 20000 in
theorem ggX7_pass_X7_tick : GoodIn wsX7_pass wsX7_tick := goodIn_r _ [18, 19, 20, 5, 21, 3, 4, 6, 22, 23, 24, 25, 26, 27, 28, 29, 30, 31, 32, 33, 34, 35, 36, 37, 38, 39, 40, 41, 42, 43, 44, 45, 46, 47, 48, 49, 50, 51, 52, 53, 54, 55, 56, 57, 58, 59, 60, 61, 62, 63, 64, 65, 66, 67, 68, 69] (by decide +kernel) (by decide +kernel)
set_option maxRecDepth 20000 in
theorem gX7_pass_X7_tick : GoodIn wsX7_pass (va_wsS RX7 123 yX7_tick wsX7_tick) := goodIn_app (goodIn_of _ (by decide +kernel)) ggX7_pass_X7_tick
theorem dX7_pass_0 : decode cX7_pass 0 = .ok (.iload_n 1, 1) := by decide +kernel
theorem dX7_pass_1 : decode cX7_pass 1 = .ok (.iconst 1, 1) := by decide +kernel
theorem dX7_pass_2 : decode cX7_pass 2 = .ok (.sipush 200, 3) := by decide +kernel
theorem dX7_pass_5 : decode cX7_pass 5 = .ok (.invokestatic 44, 3) := by decide +kernel
theorem dX7_pass_8 : decode cX7_pass 8 = .ok (.ifCond .ne 6, 3) := by decide +kernel
theorem dX7_pass_11 : decode cX7_pass 11 = .ok (.bipush (-2), 2) := by decide +kernel
theorem dX7_pass_13 : decode cX7_pass 13 = .ok (.ireturn, 1) := by decide +kernel
theorem dX7_pass_14 : decode cX7_pass 14 = .ok (.aload_n 0, 1) := by decide +kernel
theorem dX7_pass_15 : decode cX7_pass 15 = .ok (.getfield 7, 3) := by decide +kernel
theorem dX7_pass_18 : decode cX7_pass 18 = .ok (.bipush 76, 2) := by decide +kernel
theorem dX7_pass_20 : decode cX7_pass 20 = .ok (.iaload, 1) := by decide +kernel
theorem dX7_pass_21 : decode cX7_pass 21 = .ok (.iload_n 1, 1) := by decide +kernel
theorem dX7_pass_22 : decode cX7_pass 22 = .ok (.iadd, 1) := by decide +kernel
theorem dX7_pass_23 : decode cX7_pass 23 = .ok (.ldc 122, 2) := by decide +kernel
theorem dX7_pass_25 : decode cX7_pass 25 = .ok (.if_icmp .le 6, 3) := by decide +kernel
theorem dX7_pass_28 : decode cX7_pass 28 = .ok (.bipush (-3), 2) := by decide +kernel
theorem dX7_pass_30 : decode cX7_pass 30 = .ok (.ireturn, 1) := by decide +kernel
theorem dX7_pass_31 : decode cX7_pass 31 = .ok (.aload_n 0, 1) := by decide +kernel
theorem dX7_pass_32 : decode cX7_pass 32 = .ok (.invokevirtual 41, 3) := by decide +kernel
theorem dX7_pass_35 : decode cX7_pass 35 = .ok (.iconst 0, 1) := by decide +kernel
theorem dX7_pass_36 : decode cX7_pass 36 = .ok (.istore_n 2, 1) := by decide +kernel
theorem dX7_pass_37 : decode cX7_pass 37 = .ok (.iload_n 2, 1) := by decide +kernel
theorem dX7_pass_38 : decode cX7_pass 38 = .ok (.iload_n 1, 1) := by decide +kernel
theorem dX7_pass_39 : decode cX7_pass 39 = .ok (.if_icmp .ge 16, 3) := by decide +kernel
theorem dX7_pass_42 : decode cX7_pass 42 = .ok (.aload_n 0, 1) := by decide +kernel
theorem dX7_pass_43 : decode cX7_pass 43 = .ok (.getfield 7, 3) := by decide +kernel
theorem dX7_pass_46 : decode cX7_pass 46 = .ok (.invokestatic 123, 3) := by decide +kernel
theorem dX7_pass_49 : decode cX7_pass 49 = .ok (.iinc 2 1, 3) := by decide +kernel
theorem dX7_pass_52 : decode cX7_pass 52 = .ok (.goto (-15), 3) := by decide +kernel
theorem dX7_pass_55 : decode cX7_pass 55 = .ok (.aload_n 0, 1) := by decide +kernel
theorem dX7_pass_56 : decode cX7_pass 56 = .ok (.getfield 7, 3) := by decide +kernel
theorem dX7_pass_59 : decode cX7_pass 59 = .ok (.bipush 73, 2) := by decide +kernel
theorem dX7_pass_61 : decode cX7_pass 61 = .ok (.iaload, 1) := by decide +kernel
theorem dX7_pass_62 : decode cX7_pass 62 = .ok (.ireturn, 1) := by decide +kernel
theorem dX7_type_0 : decode cX7_type 0 = .ok (.aload_n 0, 1) := by decide +kernel
theorem dX7_type_1 : decode cX7_type 1 = .ok (.getfield 126, 3) := by decide +kernel
theorem dX7_type_4 : decode cX7_type 4 = .ok (.bipush 60, 2) := by decide +kernel
theorem dX7_type_6 : decode cX7_type 6 = .ok (.if_icmp .ne 6, 3) := by decide +kernel
theorem dX7_type_9 : decode cX7_type 9 = .ok (.bipush (-3), 2) := by decide +kernel
theorem dX7_type_11 : decode cX7_type 11 = .ok (.ireturn, 1) := by decide +kernel
theorem dX7_type_12 : decode cX7_type 12 = .ok (.aload_n 0, 1) := by decide +kernel
theorem dX7_type_13 : decode cX7_type 13 = .ok (.getfield 22, 3) := by decide +kernel
theorem dX7_type_16 : decode cX7_type 16 = .ok (.aload_n 0, 1) := by decide +kernel
theorem dX7_type_17 : decode cX7_type 17 = .ok (.getfield 126, 3) := by decide +kernel
theorem dX7_type_20 : decode cX7_type 20 = .ok (.iload_n 1, 1) := by decide +kernel
theorem dX7_type_21 : decode cX7_type 21 = .ok (.castore, 1) := by decide +kernel
theorem dX7_type_22 : decode cX7_type 22 = .ok (.aload_n 0, 1) := by decide +kernel
theorem dX7_type_23 : decode cX7_type 23 = .ok (.dup, 1) := by decide +kernel
theorem dX7_type_24 : decode cX7_type 24 = .ok (.getfield 126, 3) := by decide +kernel
theorem dX7_type_27 : decode cX7_type 27 = .ok (.iconst 1, 1) := by decide +kernel
theorem dX7_type_28 : decode cX7_type 28 = .ok (.iadd, 1) := by decide +kernel
theorem dX7_type_29 : decode cX7_type 29 = .ok (.putfield 126, 3) := by decide +kernel
theorem dX7_type_32 : decode cX7_type 32 = .ok (.aload_n 0, 1) := by decide +kernel
theorem dX7_type_33 : decode cX7_type 33 = .ok (.getfield 126, 3) := by decide +kernel
theorem dX7_type_36 : decode cX7_type 36 = .ok (.ireturn, 1) := by decide +kernel
theorem dX7_clearText_0 : decode cX7_clearText 0 = .ok (.aload_n 0, 1) := by decide +kernel
theorem dX7_clearText_1 : decode cX7_clearText 1 = .ok (.getfield 126, 3) := by decide +kernel
theorem dX7_clearText_4 : decode cX7_clearText 4 = .ok (.istore_n 1, 1) := by decide +kernel
theorem dX7_clearText_5 : decode cX7_clearText 5 = .ok (.aload_n 0, 1) := by decide +kernel
theorem dX7_clearText_6 : decode cX7_clearText 6 = .ok (.iconst 0, 1) := by decide +kernel
theorem dX7_clearText_7 : decode cX7_clearText 7 = .ok (.putfield 126, 3) := by decide +kernel
theorem dX7_clearText_10 : decode cX7_clearText 10 = .ok (.iload_n 1, 1) := by decide +kernel
theorem dX7_clearText_11 : decode cX7_clearText 11 = .ok (.ireturn, 1) := by decide +kernel
set_option maxRecDepth 20000 in
theorem ggX7_sees_X7_in : GoodIn wsX7_sees wsX7_in := goodIn_r _ [7] (by decide +kernel) (by decide +kernel)
set_option maxRecDepth 20000 in
theorem gX7_sees_X7_in : GoodIn wsX7_sees (va_wsS RX7 44 yX7_in wsX7_in) := goodIn_app (goodIn_of _ (by decide +kernel)) ggX7_sees_X7_in
theorem dX7_sees_0 : decode cX7_sees 0 = .ok (.aload_n 0, 1) := by decide +kernel
theorem dX7_sees_1 : decode cX7_sees 1 = .ok (.getfield 129, 3) := by decide +kernel
theorem dX7_sees_4 : decode cX7_sees 4 = .ok (.aload_n 0, 1) := by decide +kernel
theorem dX7_sees_5 : decode cX7_sees 5 = .ok (.getfield 126, 3) := by decide +kernel
theorem dX7_sees_8 : decode cX7_sees 8 = .ok (.if_icmp .ge 24, 3) := by decide +kernel
theorem dX7_sees_11 : decode cX7_sees 11 = .ok (.aload_n 0, 1) := by decide +kernel
theorem dX7_sees_12 : decode cX7_sees 12 = .ok (.getfield 22, 3) := by decide +kernel
theorem dX7_sees_15 : decode cX7_sees 15 = .ok (.aload_n 0, 1) := by decide +kernel
theorem dX7_sees_16 : decode cX7_sees 16 = .ok (.getfield 129, 3) := by decide +kernel
theorem dX7_sees_19 : decode cX7_sees 19 = .ok (.caload, 1) := by decide +kernel
theorem dX7_sees_20 : decode cX7_sees 20 = .ok (.iload_n 1, 1) := by decide +kernel
theorem dX7_sees_21 : decode cX7_sees 21 = .ok (.iload_n 2, 1) := by decide +kernel
theorem dX7_sees_22 : decode cX7_sees 22 = .ok (.invokestatic 44, 3) := by decide +kernel
theorem dX7_sees_25 : decode cX7_sees 25 = .ok (.ifCond .eq 7, 3) := by decide +kernel
theorem dX7_sees_28 : decode cX7_sees 28 = .ok (.iconst 1, 1) := by decide +kernel
theorem dX7_sees_29 : decode cX7_sees 29 = .ok (.goto 4, 3) := by decide +kernel
theorem dX7_sees_32 : decode cX7_sees 32 = .ok (.iconst 0, 1) := by decide +kernel
theorem dX7_sees_33 : decode cX7_sees 33 = .ok (.ireturn, 1) := by decide +kernel
set_option maxRecDepth 20000 in
theorem ggX7_takes_X7_sees : GoodIn wsX7_takes wsX7_sees := goodIn_r _ [6, 1, 7, 8, 9, 10, 5, 11, 12, 13, 14, 15, 16, 17, 18, 19, 20, 21, 22, 23] (by decide +kernel) (by decide +kernel)
set_option maxRecDepth 20000 in
theorem gX7_takes_X7_sees : GoodIn wsX7_takes (wsV RX7 132 RX7 yX7_sees wsX7_sees) := goodIn_app (goodIn_of _ (by decide +kernel)) ggX7_takes_X7_sees
theorem dX7_takes_0 : decode cX7_takes 0 = .ok (.aload_n 0, 1) := by decide +kernel
theorem dX7_takes_1 : decode cX7_takes 1 = .ok (.iload_n 1, 1) := by decide +kernel
theorem dX7_takes_2 : decode cX7_takes 2 = .ok (.iload_n 1, 1) := by decide +kernel
theorem dX7_takes_3 : decode cX7_takes 3 = .ok (.invokevirtual 132, 3) := by decide +kernel
theorem dX7_takes_6 : decode cX7_takes 6 = .ok (.istore_n 2, 1) := by decide +kernel
theorem dX7_takes_7 : decode cX7_takes 7 = .ok (.aload_n 0, 1) := by decide +kernel
theorem dX7_takes_8 : decode cX7_takes 8 = .ok (.dup, 1) := by decide +kernel
theorem dX7_takes_9 : decode cX7_takes 9 = .ok (.getfield 129, 3) := by decide +kernel
theorem dX7_takes_12 : decode cX7_takes 12 = .ok (.iload_n 2, 1) := by decide +kernel
theorem dX7_takes_13 : decode cX7_takes 13 = .ok (.ifCond .eq 7, 3) := by decide +kernel
theorem dX7_takes_16 : decode cX7_takes 16 = .ok (.iconst 1, 1) := by decide +kernel
theorem dX7_takes_17 : decode cX7_takes 17 = .ok (.goto 4, 3) := by decide +kernel
theorem dX7_takes_20 : decode cX7_takes 20 = .ok (.iconst 0, 1) := by decide +kernel
theorem dX7_takes_21 : decode cX7_takes 21 = .ok (.iadd, 1) := by decide +kernel
theorem dX7_takes_22 : decode cX7_takes 22 = .ok (.putfield 129, 3) := by decide +kernel
theorem dX7_takes_25 : decode cX7_takes 25 = .ok (.iload_n 2, 1) := by decide +kernel
theorem dX7_takes_26 : decode cX7_takes 26 = .ok (.ireturn, 1) := by decide +kernel
set_option maxRecDepth 20000 in
theorem ggX7_takesNumber_X7_sees : GoodIn wsX7_takesNumber wsX7_sees := goodIn_r _ [8, 2, 9, 1, 10, 11, 7, 12, 13, 14, 15, 16, 17, 18, 19, 20, 21, 22, 23, 24] (by decide +kernel) (by decide +kernel)
set_option maxRecDepth 20000 in
theorem gX7_takesNumber_X7_sees : GoodIn wsX7_takesNumber (wsV RX7 132 RX7 yX7_sees wsX7_sees) := goodIn_app (goodIn_of _ (by decide +kernel)) ggX7_takesNumber_X7_sees
theorem dX7_takesNumber_0 : decode cX7_takesNumber 0 = .ok (.aload_n 0, 1) := by decide +kernel
theorem dX7_takesNumber_1 : decode cX7_takesNumber 1 = .ok (.iload_n 1, 1) := by decide +kernel
theorem dX7_takesNumber_2 : decode cX7_takesNumber 2 = .ok (.bipush 57, 2) := by decide +kernel
theorem dX7_takesNumber_4 : decode cX7_takesNumber 4 = .ok (.invokevirtual 132, 3) := by decide +kernel
theorem dX7_takesNumber_7 : decode cX7_takesNumber 7 = .ok (.ifCond .ne 5, 3) := by decide +kernel
theorem dX7_takesNumber_10 : decode cX7_takesNumber 10 = .ok (.iconst 0, 1) := by decide +kernel
theorem dX7_takesNumber_11 : decode cX7_takesNumber 11 = .ok (.ireturn, 1) := by decide +kernel
theorem dX7_takesNumber_12 : decode cX7_takesNumber 12 = .ok (.aload_n 0, 1) := by decide +kernel
theorem dX7_takesNumber_13 : decode cX7_takesNumber 13 = .ok (.aload_n 0, 1) := by decide +kernel
theorem dX7_takesNumber_14 : decode cX7_takesNumber 14 = .ok (.getfield 22, 3) := by decide +kernel
theorem dX7_takesNumber_17 : decode cX7_takesNumber 17 = .ok (.aload_n 0, 1) := by decide +kernel
theorem dX7_takesNumber_18 : decode cX7_takesNumber 18 = .ok (.getfield 129, 3) := by decide +kernel
theorem dX7_takesNumber_21 : decode cX7_takesNumber 21 = .ok (.caload, 1) := by decide +kernel
theorem dX7_takesNumber_22 : decode cX7_takesNumber 22 = .ok (.bipush 48, 2) := by decide +kernel
theorem dX7_takesNumber_24 : decode cX7_takesNumber 24 = .ok (.isub, 1) := by decide +kernel
theorem dX7_takesNumber_25 : decode cX7_takesNumber 25 = .ok (.putfield 135, 3) := by decide +kernel
theorem dX7_takesNumber_28 : decode cX7_takesNumber 28 = .ok (.aload_n 0, 1) := by decide +kernel
theorem dX7_takesNumber_29 : decode cX7_takesNumber 29 = .ok (.dup, 1) := by decide +kernel
theorem dX7_takesNumber_30 : decode cX7_takesNumber 30 = .ok (.getfield 129, 3) := by decide +kernel
theorem dX7_takesNumber_33 : decode cX7_takesNumber 33 = .ok (.iconst 1, 1) := by decide +kernel
theorem dX7_takesNumber_34 : decode cX7_takesNumber 34 = .ok (.iadd, 1) := by decide +kernel
theorem dX7_takesNumber_35 : decode cX7_takesNumber 35 = .ok (.putfield 129, 3) := by decide +kernel
theorem dX7_takesNumber_38 : decode cX7_takesNumber 38 = .ok (.iconst 1, 1) := by decide +kernel
theorem dX7_takesNumber_39 : decode cX7_takesNumber 39 = .ok (.istore_n 2, 1) := by decide +kernel
theorem dX7_takesNumber_40 : decode cX7_takesNumber 40 = .ok (.iload_n 2, 1) := by decide +kernel
theorem dX7_takesNumber_41 : decode cX7_takesNumber 41 = .ok (.iconst 4, 1) := by decide +kernel
theorem dX7_takesNumber_42 : decode cX7_takesNumber 42 = .ok (.if_icmp .ge 61, 3) := by decide +kernel
theorem dX7_takesNumber_45 : decode cX7_takesNumber 45 = .ok (.aload_n 0, 1) := by decide +kernel
theorem dX7_takesNumber_46 : decode cX7_takesNumber 46 = .ok (.getfield 135, 3) := by decide +kernel
theorem dX7_takesNumber_49 : decode cX7_takesNumber 49 = .ok (.ifCond .le 54, 3) := by decide +kernel
theorem dX7_takesNumber_52 : decode cX7_takesNumber 52 = .ok (.aload_n 0, 1) := by decide +kernel
theorem dX7_takesNumber_53 : decode cX7_takesNumber 53 = .ok (.bipush 48, 2) := by decide +kernel
theorem dX7_takesNumber_55 : decode cX7_takesNumber 55 = .ok (.bipush 57, 2) := by decide +kernel
theorem dX7_takesNumber_57 : decode cX7_takesNumber 57 = .ok (.invokevirtual 132, 3) := by decide +kernel
theorem dX7_takesNumber_60 : decode cX7_takesNumber 60 = .ok (.ifCond .eq 43, 3) := by decide +kernel
theorem dX7_takesNumber_63 : decode cX7_takesNumber 63 = .ok (.aload_n 0, 1) := by decide +kernel
theorem dX7_takesNumber_64 : decode cX7_takesNumber 64 = .ok (.bipush 10, 2) := by decide +kernel
theorem dX7_takesNumber_66 : decode cX7_takesNumber 66 = .ok (.aload_n 0, 1) := by decide +kernel
theorem dX7_takesNumber_67 : decode cX7_takesNumber 67 = .ok (.getfield 135, 3) := by decide +kernel
theorem dX7_takesNumber_70 : decode cX7_takesNumber 70 = .ok (.imul, 1) := by decide +kernel
theorem dX7_takesNumber_71 : decode cX7_takesNumber 71 = .ok (.aload_n 0, 1) := by decide +kernel
theorem dX7_takesNumber_72 : decode cX7_takesNumber 72 = .ok (.getfield 22, 3) := by decide +kernel
theorem dX7_takesNumber_75 : decode cX7_takesNumber 75 = .ok (.aload_n 0, 1) := by decide +kernel
theorem dX7_takesNumber_76 : decode cX7_takesNumber 76 = .ok (.getfield 129, 3) := by decide +kernel
theorem dX7_takesNumber_79 : decode cX7_takesNumber 79 = .ok (.caload, 1) := by decide +kernel
theorem dX7_takesNumber_80 : decode cX7_takesNumber 80 = .ok (.iadd, 1) := by decide +kernel
theorem dX7_takesNumber_81 : decode cX7_takesNumber 81 = .ok (.bipush 48, 2) := by decide +kernel
theorem dX7_takesNumber_83 : decode cX7_takesNumber 83 = .ok (.isub, 1) := by decide +kernel
theorem dX7_takesNumber_84 : decode cX7_takesNumber 84 = .ok (.putfield 135, 3) := by decide +kernel
theorem dX7_takesNumber_87 : decode cX7_takesNumber 87 = .ok (.aload_n 0, 1) := by decide +kernel
theorem dX7_takesNumber_88 : decode cX7_takesNumber 88 = .ok (.dup, 1) := by decide +kernel
theorem dX7_takesNumber_89 : decode cX7_takesNumber 89 = .ok (.getfield 129, 3) := by decide +kernel
theorem dX7_takesNumber_92 : decode cX7_takesNumber 92 = .ok (.iconst 1, 1) := by decide +kernel
theorem dX7_takesNumber_93 : decode cX7_takesNumber 93 = .ok (.iadd, 1) := by decide +kernel
theorem dX7_takesNumber_94 : decode cX7_takesNumber 94 = .ok (.putfield 129, 3) := by decide +kernel
theorem dX7_takesNumber_97 : decode cX7_takesNumber 97 = .ok (.iinc 2 1, 3) := by decide +kernel
theorem dX7_takesNumber_100 : decode cX7_takesNumber 100 = .ok (.goto (-60), 3) := by decide +kernel
theorem dX7_takesNumber_103 : decode cX7_takesNumber 103 = .ok (.iconst 1, 1) := by decide +kernel
theorem dX7_takesNumber_104 : decode cX7_takesNumber 104 = .ok (.ireturn, 1) := by decide +kernel
set_option maxRecDepth 20000 in
theorem ggX7_takesStage_X7_takes : GoodIn wsX7_takesStage wsX7_takes := goodIn_r _ [8, 9, 10, 11, 12, 7, 13, 14, 15, 16, 17, 18, 23, 24, 25, 26, 27, 28, 29, 30, 31, 32, 33, 34] (by decide +kernel) (by decide +kernel)
set_option maxRecDepth 20000 in
theorem gX7_takesStage_X7_takes : GoodIn wsX7_takesStage (wsV RX7 141 RX7 yX7_takes wsX7_takes) := goodIn_app (goodIn_of _ (by decide +kernel)) ggX7_takesStage_X7_takes
set_option maxRecDepth 20000 in
theorem ggX7_takesStage_X7_takesNumber : GoodIn wsX7_takesStage wsX7_takesNumber := goodIn_r _ [22, 15, 9, 3, 10, 11, 12, 7, 13, 14, 16, 17, 18, 23, 24, 25, 26, 27, 28, 29, 30, 31, 32, 33, 34] (by decide +kernel) (by decide +kernel)
set_option maxRecDepth 20000 in
theorem gX7_takesStage_X7_takesNumber : GoodIn wsX7_takesStage (wsV RX7 144 RX7 yX7_takesNumber wsX7_takesNumber) := goodIn_app (goodIn_of _ (by decide +kernel)) ggX7_takesStage_X7_takesNumber
theorem dX7_takesStage_0 : decode cX7_takesStage 0 = .ok (.iconst 4, 1) := by decide +kernel
theorem dX7_takesStage_1 : decode cX7_takesStage 1 = .ok (.aload_n 0, 1) := by decide +kernel
theorem dX7_takesStage_2 : decode cX7_takesStage 2 = .ok (.getfield 138, 3) := by decide +kernel
theorem dX7_takesStage_5 : decode cX7_takesStage 5 = .ok (.imul, 1) := by decide +kernel
theorem dX7_takesStage_6 : decode cX7_takesStage 6 = .ok (.istore_n 1, 1) := by decide +kernel
theorem dX7_takesStage_7 : decode cX7_takesStage 7 = .ok (.aload_n 0, 1) := by decide +kernel
theorem dX7_takesStage_8 : decode cX7_takesStage 8 = .ok (.bipush 99, 2) := by decide +kernel
theorem dX7_takesStage_10 : decode cX7_takesStage 10 = .ok (.invokevirtual 141, 3) := by decide +kernel
theorem dX7_takesStage_13 : decode cX7_takesStage 13 = .ok (.ifCond .eq 7, 3) := by decide +kernel
theorem dX7_takesStage_16 : decode cX7_takesStage 16 = .ok (.iconst 0, 1) := by decide +kernel
theorem dX7_takesStage_17 : decode cX7_takesStage 17 = .ok (.goto 31, 3) := by decide +kernel
theorem dX7_takesStage_20 : decode cX7_takesStage 20 = .ok (.aload_n 0, 1) := by decide +kernel
theorem dX7_takesStage_21 : decode cX7_takesStage 21 = .ok (.bipush 118, 2) := by decide +kernel
theorem dX7_takesStage_23 : decode cX7_takesStage 23 = .ok (.invokevirtual 141, 3) := by decide +kernel
theorem dX7_takesStage_26 : decode cX7_takesStage 26 = .ok (.ifCond .eq 7, 3) := by decide +kernel
theorem dX7_takesStage_29 : decode cX7_takesStage 29 = .ok (.iconst 1, 1) := by decide +kernel
theorem dX7_takesStage_30 : decode cX7_takesStage 30 = .ok (.goto 18, 3) := by decide +kernel
theorem dX7_takesStage_33 : decode cX7_takesStage 33 = .ok (.aload_n 0, 1) := by decide +kernel
theorem dX7_takesStage_34 : decode cX7_takesStage 34 = .ok (.bipush 114, 2) := by decide +kernel
theorem dX7_takesStage_36 : decode cX7_takesStage 36 = .ok (.invokevirtual 141, 3) := by decide +kernel
theorem dX7_takesStage_39 : decode cX7_takesStage 39 = .ok (.ifCond .eq 7, 3) := by decide +kernel
theorem dX7_takesStage_42 : decode cX7_takesStage 42 = .ok (.iconst 2, 1) := by decide +kernel
theorem dX7_takesStage_43 : decode cX7_takesStage 43 = .ok (.goto 5, 3) := by decide +kernel
theorem dX7_takesStage_46 : decode cX7_takesStage 46 = .ok (.bipush (-5), 2) := by decide +kernel
theorem dX7_takesStage_48 : decode cX7_takesStage 48 = .ok (.istore_n 2, 1) := by decide +kernel
theorem dX7_takesStage_49 : decode cX7_takesStage 49 = .ok (.iload_n 2, 1) := by decide +kernel
theorem dX7_takesStage_50 : decode cX7_takesStage 50 = .ok (.ifCond .lt 12, 3) := by decide +kernel
theorem dX7_takesStage_53 : decode cX7_takesStage 53 = .ok (.aload_n 0, 1) := by decide +kernel
theorem dX7_takesStage_54 : decode cX7_takesStage 54 = .ok (.bipush 48, 2) := by decide +kernel
theorem dX7_takesStage_56 : decode cX7_takesStage 56 = .ok (.invokevirtual 144, 3) := by decide +kernel
theorem dX7_takesStage_59 : decode cX7_takesStage 59 = .ok (.ifCond .ne 5, 3) := by decide +kernel
theorem dX7_takesStage_62 : decode cX7_takesStage 62 = .ok (.iconst 0, 1) := by decide +kernel
theorem dX7_takesStage_63 : decode cX7_takesStage 63 = .ok (.ireturn, 1) := by decide +kernel
theorem dX7_takesStage_64 : decode cX7_takesStage 64 = .ok (.aload_n 0, 1) := by decide +kernel
theorem dX7_takesStage_65 : decode cX7_takesStage 65 = .ok (.getfield 26, 3) := by decide +kernel
theorem dX7_takesStage_68 : decode cX7_takesStage 68 = .ok (.iload_n 1, 1) := by decide +kernel
theorem dX7_takesStage_69 : decode cX7_takesStage 69 = .ok (.iload_n 2, 1) := by decide +kernel
theorem dX7_takesStage_70 : decode cX7_takesStage 70 = .ok (.iastore, 1) := by decide +kernel
theorem dX7_takesStage_71 : decode cX7_takesStage 71 = .ok (.aload_n 0, 1) := by decide +kernel
theorem dX7_takesStage_72 : decode cX7_takesStage 72 = .ok (.getfield 26, 3) := by decide +kernel
theorem dX7_takesStage_75 : decode cX7_takesStage 75 = .ok (.iload_n 1, 1) := by decide +kernel
theorem dX7_takesStage_76 : decode cX7_takesStage 76 = .ok (.iconst 1, 1) := by decide +kernel
theorem dX7_takesStage_77 : decode cX7_takesStage 77 = .ok (.iadd, 1) := by decide +kernel
theorem dX7_takesStage_78 : decode cX7_takesStage 78 = .ok (.aload_n 0, 1) := by decide +kernel
theorem dX7_takesStage_79 : decode cX7_takesStage 79 = .ok (.getfield 135, 3) := by decide +kernel
theorem dX7_takesStage_82 : decode cX7_takesStage 82 = .ok (.iastore, 1) := by decide +kernel
theorem dX7_takesStage_83 : decode cX7_takesStage 83 = .ok (.aload_n 0, 1) := by decide +kernel
theorem dX7_takesStage_84 : decode cX7_takesStage 84 = .ok (.getfield 26, 3) := by decide +kernel
theorem dX7_takesStage_87 : decode cX7_takesStage 87 = .ok (.iload_n 1, 1) := by decide +kernel
theorem dX7_takesStage_88 : decode cX7_takesStage 88 = .ok (.iconst 2, 1) := by decide +kernel
theorem dX7_takesStage_89 : decode cX7_takesStage 89 = .ok (.iadd, 1) := by decide +kernel
theorem dX7_takesStage_90 : decode cX7_takesStage 90 = .ok (.iconst 0, 1) := by decide +kernel
theorem dX7_takesStage_91 : decode cX7_takesStage 91 = .ok (.iastore, 1) := by decide +kernel
theorem dX7_takesStage_92 : decode cX7_takesStage 92 = .ok (.aload_n 0, 1) := by decide +kernel
theorem dX7_takesStage_93 : decode cX7_takesStage 93 = .ok (.getfield 26, 3) := by decide +kernel
theorem dX7_takesStage_96 : decode cX7_takesStage 96 = .ok (.iload_n 1, 1) := by decide +kernel
theorem dX7_takesStage_97 : decode cX7_takesStage 97 = .ok (.iconst 3, 1) := by decide +kernel
theorem dX7_takesStage_98 : decode cX7_takesStage 98 = .ok (.iadd, 1) := by decide +kernel
theorem dX7_takesStage_99 : decode cX7_takesStage 99 = .ok (.iconst 0, 1) := by decide +kernel
theorem dX7_takesStage_100 : decode cX7_takesStage 100 = .ok (.iastore, 1) := by decide +kernel
theorem dX7_takesStage_101 : decode cX7_takesStage 101 = .ok (.iload_n 2, 1) := by decide +kernel
theorem dX7_takesStage_102 : decode cX7_takesStage 102 = .ok (.iconst 2, 1) := by decide +kernel
theorem dX7_takesStage_103 : decode cX7_takesStage 103 = .ok (.if_icmp .ge 35, 3) := by decide +kernel
theorem dX7_takesStage_106 : decode cX7_takesStage 106 = .ok (.aload_n 0, 1) := by decide +kernel
theorem dX7_takesStage_107 : decode cX7_takesStage 107 = .ok (.bipush 58, 2) := by decide +kernel
theorem dX7_takesStage_109 : decode cX7_takesStage 109 = .ok (.invokevirtual 141, 3) := by decide +kernel
theorem dX7_takesStage_112 : decode cX7_takesStage 112 = .ok (.ifCond .eq 12, 3) := by decide +kernel
theorem dX7_takesStage_115 : decode cX7_takesStage 115 = .ok (.aload_n 0, 1) := by decide +kernel
theorem dX7_takesStage_116 : decode cX7_takesStage 116 = .ok (.bipush 48, 2) := by decide +kernel
theorem dX7_takesStage_118 : decode cX7_takesStage 118 = .ok (.invokevirtual 144, 3) := by decide +kernel
theorem dX7_takesStage_121 : decode cX7_takesStage 121 = .ok (.ifCond .ne 5, 3) := by decide +kernel
theorem dX7_takesStage_124 : decode cX7_takesStage 124 = .ok (.iconst 0, 1) := by decide +kernel
theorem dX7_takesStage_125 : decode cX7_takesStage 125 = .ok (.ireturn, 1) := by decide +kernel
theorem dX7_takesStage_126 : decode cX7_takesStage 126 = .ok (.aload_n 0, 1) := by decide +kernel
theorem dX7_takesStage_127 : decode cX7_takesStage 127 = .ok (.getfield 26, 3) := by decide +kernel
theorem dX7_takesStage_130 : decode cX7_takesStage 130 = .ok (.iload_n 1, 1) := by decide +kernel
theorem dX7_takesStage_131 : decode cX7_takesStage 131 = .ok (.iconst 2, 1) := by decide +kernel
theorem dX7_takesStage_132 : decode cX7_takesStage 132 = .ok (.iadd, 1) := by decide +kernel
theorem dX7_takesStage_133 : decode cX7_takesStage 133 = .ok (.aload_n 0, 1) := by decide +kernel
theorem dX7_takesStage_134 : decode cX7_takesStage 134 = .ok (.getfield 135, 3) := by decide +kernel
theorem dX7_takesStage_137 : decode cX7_takesStage 137 = .ok (.iastore, 1) := by decide +kernel
theorem dX7_takesStage_138 : decode cX7_takesStage 138 = .ok (.aload_n 0, 1) := by decide +kernel
theorem dX7_takesStage_139 : decode cX7_takesStage 139 = .ok (.bipush 47, 2) := by decide +kernel
theorem dX7_takesStage_141 : decode cX7_takesStage 141 = .ok (.invokevirtual 141, 3) := by decide +kernel
theorem dX7_takesStage_144 : decode cX7_takesStage 144 = .ok (.ifCond .eq 26, 3) := by decide +kernel
theorem dX7_takesStage_147 : decode cX7_takesStage 147 = .ok (.aload_n 0, 1) := by decide +kernel
theorem dX7_takesStage_148 : decode cX7_takesStage 148 = .ok (.bipush 49, 2) := by decide +kernel
theorem dX7_takesStage_150 : decode cX7_takesStage 150 = .ok (.invokevirtual 144, 3) := by decide +kernel
theorem dX7_takesStage_153 : decode cX7_takesStage 153 = .ok (.ifCond .ne 5, 3) := by decide +kernel
theorem dX7_takesStage_156 : decode cX7_takesStage 156 = .ok (.iconst 0, 1) := by decide +kernel
theorem dX7_takesStage_157 : decode cX7_takesStage 157 = .ok (.ireturn, 1) := by decide +kernel
theorem dX7_takesStage_158 : decode cX7_takesStage 158 = .ok (.aload_n 0, 1) := by decide +kernel
theorem dX7_takesStage_159 : decode cX7_takesStage 159 = .ok (.getfield 26, 3) := by decide +kernel
theorem dX7_takesStage_162 : decode cX7_takesStage 162 = .ok (.iload_n 1, 1) := by decide +kernel
theorem dX7_takesStage_163 : decode cX7_takesStage 163 = .ok (.iconst 3, 1) := by decide +kernel
theorem dX7_takesStage_164 : decode cX7_takesStage 164 = .ok (.iadd, 1) := by decide +kernel
theorem dX7_takesStage_165 : decode cX7_takesStage 165 = .ok (.aload_n 0, 1) := by decide +kernel
theorem dX7_takesStage_166 : decode cX7_takesStage 166 = .ok (.getfield 135, 3) := by decide +kernel
theorem dX7_takesStage_169 : decode cX7_takesStage 169 = .ok (.iastore, 1) := by decide +kernel
theorem dX7_takesStage_170 : decode cX7_takesStage 170 = .ok (.aload_n 0, 1) := by decide +kernel
theorem dX7_takesStage_171 : decode cX7_takesStage 171 = .ok (.dup, 1) := by decide +kernel
theorem dX7_takesStage_172 : decode cX7_takesStage 172 = .ok (.getfield 138, 3) := by decide +kernel
theorem dX7_takesStage_175 : decode cX7_takesStage 175 = .ok (.iconst 1, 1) := by decide +kernel
theorem dX7_takesStage_176 : decode cX7_takesStage 176 = .ok (.iadd, 1) := by decide +kernel
theorem dX7_takesStage_177 : decode cX7_takesStage 177 = .ok (.putfield 138, 3) := by decide +kernel
theorem dX7_takesStage_180 : decode cX7_takesStage 180 = .ok (.iconst 1, 1) := by decide +kernel
theorem dX7_takesStage_181 : decode cX7_takesStage 181 = .ok (.ireturn, 1) := by decide +kernel
set_option maxRecDepth 20000 in
theorem ggX7_readsText_X7_takesStage : GoodIn wsX7_readsText wsX7_takesStage := goodIn_r _ [8, 2, 9, 10, 11, 12, 13, 7, 14, 1, 15, 16, 17, 18, 3, 19, 20, 21, 22, 23, 24, 25, 26, 27, 28, 29, 30, 31, 32, 33, 34, 35, 36, 37, 38] (by decide +kernel) (by decide +kernel)
set_option maxRecDepth 20000 in
theorem gX7_readsText_X7_takesStage : GoodIn wsX7_readsText (wsV RX7 147 RX7 yX7_takesStage wsX7_takesStage) := goodIn_app (goodIn_of _ (by decide +kernel)) ggX7_readsText_X7_takesStage
set_option maxRecDepth 20000 in
theorem ggX7_readsText_X7_takes : GoodIn wsX7_readsText wsX7_takes := goodIn_r _ [14, 1, 15, 16, 17, 7, 18, 3, 19, 20, 21, 22, 27, 28, 29, 30, 31, 32, 33, 34, 35, 36, 37, 38] (by decide +kernel) (by decide +kernel)
set_option maxRecDepth 20000 in
theorem gX7_readsText_X7_takes : GoodIn wsX7_readsText (wsV RX7 141 RX7 yX7_takes wsX7_takes) := goodIn_app (goodIn_of _ (by decide +kernel)) ggX7_readsText_X7_takes
theorem dX7_readsText_0 : decode cX7_readsText 0 = .ok (.aload_n 0, 1) := by decide +kernel
theorem dX7_readsText_1 : decode cX7_readsText 1 = .ok (.iconst 0, 1) := by decide +kernel
theorem dX7_readsText_2 : decode cX7_readsText 2 = .ok (.putfield 129, 3) := by decide +kernel
theorem dX7_readsText_5 : decode cX7_readsText 5 = .ok (.aload_n 0, 1) := by decide +kernel
theorem dX7_readsText_6 : decode cX7_readsText 6 = .ok (.iconst 0, 1) := by decide +kernel
theorem dX7_readsText_7 : decode cX7_readsText 7 = .ok (.putfield 138, 3) := by decide +kernel
theorem dX7_readsText_10 : decode cX7_readsText 10 = .ok (.iconst 1, 1) := by decide +kernel
theorem dX7_readsText_11 : decode cX7_readsText 11 = .ok (.istore_n 1, 1) := by decide +kernel
theorem dX7_readsText_12 : decode cX7_readsText 12 = .ok (.iload_n 1, 1) := by decide +kernel
theorem dX7_readsText_13 : decode cX7_readsText 13 = .ok (.ifCond .eq 38, 3) := by decide +kernel
