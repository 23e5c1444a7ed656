theorem dX7_readsText_16 : decode cX7_readsText 16 = .ok (.aload_n 0, 1) := by decide +kernel
theorem dX7_readsText_17 : decode cX7_readsText 17 = .ok (.invokevirtual 147, 3) := by decide +kernel
theorem dX7_readsText_20 : decode cX7_readsText 20 = .ok (.ifCond .ne 5, 3) := by decide +kernel
theorem dX7_readsText_23 : decode cX7_readsText 23 = .ok (.iconst 0, 1) := by decide +kernel
theorem dX7_readsText_24 : decode cX7_readsText 24 = .ok (.ireturn, 1) := by decide +kernel
theorem dX7_readsText_25 : decode cX7_readsText 25 = .ok (.aload_n 0, 1) := by decide +kernel
theorem dX7_readsText_26 : decode cX7_readsText 26 = .ok (.getfield 138, 3) := by decide +kernel
theorem dX7_readsText_29 : decode cX7_readsText 29 = .ok (.iconst 5, 1) := by decide +kernel
theorem dX7_readsText_30 : decode cX7_readsText 30 = .ok (.if_icmp .ge 16, 3) := by decide +kernel
theorem dX7_readsText_33 : decode cX7_readsText 33 = .ok (.aload_n 0, 1) := by decide +kernel
theorem dX7_readsText_34 : decode cX7_readsText 34 = .ok (.bipush 59, 2) := by decide +kernel
theorem dX7_readsText_36 : decode cX7_readsText 36 = .ok (.invokevirtual 141, 3) := by decide +kernel
theorem dX7_readsText_39 : decode cX7_readsText 39 = .ok (.ifCond .eq 7, 3) := by decide +kernel
theorem dX7_readsText_42 : decode cX7_readsText 42 = .ok (.iconst 1, 1) := by decide +kernel
theorem dX7_readsText_43 : decode cX7_readsText 43 = .ok (.goto 4, 3) := by decide +kernel
theorem dX7_readsText_46 : decode cX7_readsText 46 = .ok (.iconst 0, 1) := by decide +kernel
theorem dX7_readsText_47 : decode cX7_readsText 47 = .ok (.istore_n 1, 1) := by decide +kernel
theorem dX7_readsText_48 : decode cX7_readsText 48 = .ok (.goto (-36), 3) := by decide +kernel
theorem dX7_readsText_51 : decode cX7_readsText 51 = .ok (.aload_n 0, 1) := by decide +kernel
theorem dX7_readsText_52 : decode cX7_readsText 52 = .ok (.getfield 129, 3) := by decide +kernel
theorem dX7_readsText_55 : decode cX7_readsText 55 = .ok (.aload_n 0, 1) := by decide +kernel
theorem dX7_readsText_56 : decode cX7_readsText 56 = .ok (.getfield 126, 3) := by decide +kernel
theorem dX7_readsText_59 : decode cX7_readsText 59 = .ok (.if_icmp .ne 7, 3) := by decide +kernel
theorem dX7_readsText_62 : decode cX7_readsText 62 = .ok (.iconst 1, 1) := by decide +kernel
theorem dX7_readsText_63 : decode cX7_readsText 63 = .ok (.goto 4, 3) := by decide +kernel
theorem dX7_readsText_66 : decode cX7_readsText 66 = .ok (.iconst 0, 1) := by decide +kernel
theorem dX7_readsText_67 : decode cX7_readsText 67 = .ok (.ireturn, 1) := by decide +kernel
set_option maxRecDepth 20000 in
theorem ggX7_isGood_X7_in : GoodIn wsX7_isGood wsX7_in := goodIn_r _ [5] (by decide +kernel) (by decide +kernel)
set_option maxRecDepth 20000 in
theorem gX7_isGood_X7_in : GoodIn wsX7_isGood (va_wsS RX7 44 yX7_in wsX7_in) := goodIn_app (goodIn_of _ (by decide +kernel)) ggX7_isGood_X7_in
theorem dX7_isGood_0 : decode cX7_isGood 0 = .ok (.aload_n 0, 1) := by decide +kernel
theorem dX7_isGood_1 : decode cX7_isGood 1 = .ok (.getfield 26, 3) := by decide +kernel
theorem dX7_isGood_4 : decode cX7_isGood 4 = .ok (.iconst 4, 1) := by decide +kernel
theorem dX7_isGood_5 : decode cX7_isGood 5 = .ok (.iload_n 1, 1) := by decide +kernel
theorem dX7_isGood_6 : decode cX7_isGood 6 = .ok (.imul, 1) := by decide +kernel
theorem dX7_isGood_7 : decode cX7_isGood 7 = .ok (.iaload, 1) := by decide +kernel
theorem dX7_isGood_8 : decode cX7_isGood 8 = .ok (.istore_n 2, 1) := by decide +kernel
theorem dX7_isGood_9 : decode cX7_isGood 9 = .ok (.aload_n 0, 1) := by decide +kernel
theorem dX7_isGood_10 : decode cX7_isGood 10 = .ok (.getfield 26, 3) := by decide +kernel
theorem dX7_isGood_13 : decode cX7_isGood 13 = .ok (.iconst 4, 1) := by decide +kernel
theorem dX7_isGood_14 : decode cX7_isGood 14 = .ok (.iload_n 1, 1) := by decide +kernel
theorem dX7_isGood_15 : decode cX7_isGood 15 = .ok (.imul, 1) := by decide +kernel
theorem dX7_isGood_16 : decode cX7_isGood 16 = .ok (.iconst 1, 1) := by decide +kernel
theorem dX7_isGood_17 : decode cX7_isGood 17 = .ok (.iadd, 1) := by decide +kernel
theorem dX7_isGood_18 : decode cX7_isGood 18 = .ok (.iaload, 1) := by decide +kernel
theorem dX7_isGood_19 : decode cX7_isGood 19 = .ok (.istore_n 3, 1) := by decide +kernel
theorem dX7_isGood_20 : decode cX7_isGood 20 = .ok (.aload_n 0, 1) := by decide +kernel
theorem dX7_isGood_21 : decode cX7_isGood 21 = .ok (.getfield 26, 3) := by decide +kernel
theorem dX7_isGood_24 : decode cX7_isGood 24 = .ok (.iconst 4, 1) := by decide +kernel
theorem dX7_isGood_25 : decode cX7_isGood 25 = .ok (.iload_n 1, 1) := by decide +kernel
theorem dX7_isGood_26 : decode cX7_isGood 26 = .ok (.imul, 1) := by decide +kernel
theorem dX7_isGood_27 : decode cX7_isGood 27 = .ok (.iconst 2, 1) := by decide +kernel
theorem dX7_isGood_28 : decode cX7_isGood 28 = .ok (.iadd, 1) := by decide +kernel
theorem dX7_isGood_29 : decode cX7_isGood 29 = .ok (.iaload, 1) := by decide +kernel
theorem dX7_isGood_30 : decode cX7_isGood 30 = .ok (.istore 4, 2) := by decide +kernel
theorem dX7_isGood_32 : decode cX7_isGood 32 = .ok (.iload_n 2, 1) := by decide +kernel
theorem dX7_isGood_33 : decode cX7_isGood 33 = .ok (.ifCond .ne 36, 3) := by decide +kernel
theorem dX7_isGood_36 : decode cX7_isGood 36 = .ok (.iload_n 3, 1) := by decide +kernel
theorem dX7_isGood_37 : decode cX7_isGood 37 = .ok (.iconst 1, 1) := by decide +kernel
theorem dX7_isGood_38 : decode cX7_isGood 38 = .ok (.sipush 2000, 3) := by decide +kernel
theorem dX7_isGood_41 : decode cX7_isGood 41 = .ok (.invokestatic 44, 3) := by decide +kernel
theorem dX7_isGood_44 : decode cX7_isGood 44 = .ok (.ifCond .eq 21, 3) := by decide +kernel
theorem dX7_isGood_47 : decode cX7_isGood 47 = .ok (.iload 4, 2) := by decide +kernel
theorem dX7_isGood_49 : decode cX7_isGood 49 = .ok (.sipush 3000, 3) := by decide +kernel
theorem dX7_isGood_52 : decode cX7_isGood 52 = .ok (.sipush 4500, 3) := by decide +kernel
theorem dX7_isGood_55 : decode cX7_isGood 55 = .ok (.invokestatic 44, 3) := by decide +kernel
theorem dX7_isGood_58 : decode cX7_isGood 58 = .ok (.ifCond .eq 7, 3) := by decide +kernel
theorem dX7_isGood_61 : decode cX7_isGood 61 = .ok (.iconst 1, 1) := by decide +kernel
theorem dX7_isGood_62 : decode cX7_isGood 62 = .ok (.goto 53, 3) := by decide +kernel
theorem dX7_isGood_65 : decode cX7_isGood 65 = .ok (.iconst 0, 1) := by decide +kernel
theorem dX7_isGood_66 : decode cX7_isGood 66 = .ok (.goto 49, 3) := by decide +kernel
theorem dX7_isGood_69 : decode cX7_isGood 69 = .ok (.iload_n 2, 1) := by decide +kernel
theorem dX7_isGood_70 : decode cX7_isGood 70 = .ok (.iconst 1, 1) := by decide +kernel
theorem dX7_isGood_71 : decode cX7_isGood 71 = .ok (.if_icmp .ne 36, 3) := by decide +kernel
theorem dX7_isGood_74 : decode cX7_isGood 74 = .ok (.iload_n 3, 1) := by decide +kernel
theorem dX7_isGood_75 : decode cX7_isGood 75 = .ok (.sipush 3000, 3) := by decide +kernel
theorem dX7_isGood_78 : decode cX7_isGood 78 = .ok (.sipush 4500, 3) := by decide +kernel
theorem dX7_isGood_81 : decode cX7_isGood 81 = .ok (.invokestatic 44, 3) := by decide +kernel
theorem dX7_isGood_84 : decode cX7_isGood 84 = .ok (.ifCond .eq 19, 3) := by decide +kernel
theorem dX7_isGood_87 : decode cX7_isGood 87 = .ok (.iload 4, 2) := by decide +kernel
theorem dX7_isGood_89 : decode cX7_isGood 89 = .ok (.iconst 0, 1) := by decide +kernel
theorem dX7_isGood_90 : decode cX7_isGood 90 = .ok (.sipush 2000, 3) := by decide +kernel
theorem dX7_isGood_93 : decode cX7_isGood 93 = .ok (.invokestatic 44, 3) := by decide +kernel
theorem dX7_isGood_96 : decode cX7_isGood 96 = .ok (.ifCond .eq 7, 3) := by decide +kernel
theorem dX7_isGood_99 : decode cX7_isGood 99 = .ok (.iconst 1, 1) := by decide +kernel
theorem dX7_isGood_100 : decode cX7_isGood 100 = .ok (.goto 15, 3) := by decide +kernel
theorem dX7_isGood_103 : decode cX7_isGood 103 = .ok (.iconst 0, 1) := by decide +kernel
theorem dX7_isGood_104 : decode cX7_isGood 104 = .ok (.goto 11, 3) := by decide +kernel
theorem dX7_isGood_107 : decode cX7_isGood 107 = .ok (.iload_n 3, 1) := by decide +kernel
theorem dX7_isGood_108 : decode cX7_isGood 108 = .ok (.iconst 1, 1) := by decide +kernel
theorem dX7_isGood_109 : decode cX7_isGood 109 = .ok (.sipush 999, 3) := by decide +kernel
theorem dX7_isGood_112 : decode cX7_isGood 112 = .ok (.invokestatic 44, 3) := by decide +kernel
theorem dX7_isGood_115 : decode cX7_isGood 115 = .ok (.istore 5, 2) := by decide +kernel
theorem dX7_isGood_117 : decode cX7_isGood 117 = .ok (.iload 5, 2) := by decide +kernel
theorem dX7_isGood_119 : decode cX7_isGood 119 = .ok (.ifCond .eq 27, 3) := by decide +kernel
theorem dX7_isGood_122 : decode cX7_isGood 122 = .ok (.aload_n 0, 1) := by decide +kernel
theorem dX7_isGood_123 : decode cX7_isGood 123 = .ok (.getfield 26, 3) := by decide +kernel
theorem dX7_isGood_126 : decode cX7_isGood 126 = .ok (.iconst 4, 1) := by decide +kernel
theorem dX7_isGood_127 : decode cX7_isGood 127 = .ok (.iload_n 1, 1) := by decide +kernel
theorem dX7_isGood_128 : decode cX7_isGood 128 = .ok (.imul, 1) := by decide +kernel
theorem dX7_isGood_129 : decode cX7_isGood 129 = .ok (.iconst 3, 1) := by decide +kernel
theorem dX7_isGood_130 : decode cX7_isGood 130 = .ok (.iadd, 1) := by decide +kernel
theorem dX7_isGood_131 : decode cX7_isGood 131 = .ok (.iaload, 1) := by decide +kernel
theorem dX7_isGood_132 : decode cX7_isGood 132 = .ok (.iconst 0, 1) := by decide +kernel
theorem dX7_isGood_133 : decode cX7_isGood 133 = .ok (.sipush 999, 3) := by decide +kernel
theorem dX7_isGood_136 : decode cX7_isGood 136 = .ok (.invokestatic 44, 3) := by decide +kernel
theorem dX7_isGood_139 : decode cX7_isGood 139 = .ok (.ifCond .eq 7, 3) := by decide +kernel
theorem dX7_isGood_142 : decode cX7_isGood 142 = .ok (.iconst 1, 1) := by decide +kernel
theorem dX7_isGood_143 : decode cX7_isGood 143 = .ok (.goto 4, 3) := by decide +kernel
theorem dX7_isGood_146 : decode cX7_isGood 146 = .ok (.iconst 0, 1) := by decide +kernel
theorem dX7_isGood_147 : decode cX7_isGood 147 = .ok (.ireturn, 1) := by decide +kernel
set_option maxRecDepth 20000 in
theorem ggX7_readProfile_X7_readsText : GoodIn wsX7_readProfile wsX7_readsText := goodIn_r _ [9, 1, 2, 10, 11, 12, 13, 8, 14, 4, 15, 16, 17, 18, 19, 20, 21, 22, 23, 24, 25, 26, 27, 28, 29, 30, 31, 45, 46, 47, 48, 49, 50, 51, 52, 53, 54, 55, 56] (by decide +kernel) (by decide +kernel)
set_option maxRecDepth 20000 in
theorem gX7_readProfile_X7_readsText : GoodIn wsX7_readProfile (wsV RX7 151 RX7 yX7_readsText wsX7_readsText) := goodIn_app (goodIn_of _ (by decide +kernel)) ggX7_readProfile_X7_readsText
set_option maxRecDepth 20000 in
theorem ggX7_readProfile_X7_isGood : GoodIn wsX7_readProfile wsX7_isGood := goodIn_r _ [35, 4, 25, 26, 8, 27, 45, 46, 47, 48, 49, 50, 51, 52, 53, 54, 55, 56] (by decide +kernel) (by decide +kernel)
set_option maxRecDepth 20000 in
theorem gX7_readProfile_X7_isGood : GoodIn wsX7_readProfile (wsV RX7 154 RX7 yX7_isGood wsX7_isGood) := goodIn_app (goodIn_of _ (by decide +kernel)) ggX7_readProfile_X7_isGood
set_option maxRecDepth 20000 in
theorem ggX7_readProfile_X7_records : GoodIn wsX7_readProfile wsX7_records := goodIn_r _ [39, 40, 41, 3, 42, 43, 8, 44, 45, 46, 47, 48, 49, 50, 51, 52, 53, 54, 55, 56] (by decide +kernel) (by decide +kernel)
set_option maxRecDepth 20000 in
theorem gX7_readProfile_X7_records : GoodIn wsX7_readProfile (wsV RX7 41 RX7 yX7_records wsX7_records) := goodIn_app (goodIn_of _ (by decide +kernel)) ggX7_readProfile_X7_records
theorem dX7_readProfile_0 : decode cX7_readProfile 0 = .ok (.aload_n 0, 1) := by decide +kernel
theorem dX7_readProfile_1 : decode cX7_readProfile 1 = .ok (.invokevirtual 151, 3) := by decide +kernel
theorem dX7_readProfile_4 : decode cX7_readProfile 4 = .ok (.ifCond .ne 11, 3) := by decide +kernel
theorem dX7_readProfile_7 : decode cX7_readProfile 7 = .ok (.bipush (-100), 2) := by decide +kernel
theorem dX7_readProfile_9 : decode cX7_readProfile 9 = .ok (.aload_n 0, 1) := by decide +kernel
theorem dX7_readProfile_10 : decode cX7_readProfile 10 = .ok (.getfield 129, 3) := by decide +kernel
theorem dX7_readProfile_13 : decode cX7_readProfile 13 = .ok (.isub, 1) := by decide +kernel
theorem dX7_readProfile_14 : decode cX7_readProfile 14 = .ok (.ireturn, 1) := by decide +kernel
theorem dX7_readProfile_15 : decode cX7_readProfile 15 = .ok (.iconst 0, 1) := by decide +kernel
theorem dX7_readProfile_16 : decode cX7_readProfile 16 = .ok (.istore_n 1, 1) := by decide +kernel
theorem dX7_readProfile_17 : decode cX7_readProfile 17 = .ok (.iload_n 1, 1) := by decide +kernel
theorem dX7_readProfile_18 : decode cX7_readProfile 18 = .ok (.aload_n 0, 1) := by decide +kernel
theorem dX7_readProfile_19 : decode cX7_readProfile 19 = .ok (.getfield 138, 3) := by decide +kernel
theorem dX7_readProfile_22 : decode cX7_readProfile 22 = .ok (.if_icmp .ge 20, 3) := by decide +kernel
theorem dX7_readProfile_25 : decode cX7_readProfile 25 = .ok (.aload_n 0, 1) := by decide +kernel
theorem dX7_readProfile_26 : decode cX7_readProfile 26 = .ok (.iload_n 1, 1) := by decide +kernel
theorem dX7_readProfile_27 : decode cX7_readProfile 27 = .ok (.invokevirtual 154, 3) := by decide +kernel
theorem dX7_readProfile_30 : decode cX7_readProfile 30 = .ok (.ifCond .ne 6, 3) := by decide +kernel
theorem dX7_readProfile_33 : decode cX7_readProfile 33 = .ok (.bipush (-2), 2) := by decide +kernel
theorem dX7_readProfile_35 : decode cX7_readProfile 35 = .ok (.ireturn, 1) := by decide +kernel
theorem dX7_readProfile_36 : decode cX7_readProfile 36 = .ok (.iinc 1 1, 3) := by decide +kernel
theorem dX7_readProfile_39 : decode cX7_readProfile 39 = .ok (.goto (-22), 3) := by decide +kernel
theorem dX7_readProfile_42 : decode cX7_readProfile 42 = .ok (.aload_n 0, 1) := by decide +kernel
theorem dX7_readProfile_43 : decode cX7_readProfile 43 = .ok (.getfield 7, 3) := by decide +kernel
theorem dX7_readProfile_46 : decode cX7_readProfile 46 = .ok (.bipush 73, 2) := by decide +kernel
theorem dX7_readProfile_48 : decode cX7_readProfile 48 = .ok (.iaload, 1) := by decide +kernel
theorem dX7_readProfile_49 : decode cX7_readProfile 49 = .ok (.iconst 1, 1) := by decide +kernel
theorem dX7_readProfile_50 : decode cX7_readProfile 50 = .ok (.if_icmp .ne 6, 3) := by decide +kernel
theorem dX7_readProfile_53 : decode cX7_readProfile 53 = .ok (.bipush (-4), 2) := by decide +kernel
theorem dX7_readProfile_55 : decode cX7_readProfile 55 = .ok (.ireturn, 1) := by decide +kernel
theorem dX7_readProfile_56 : decode cX7_readProfile 56 = .ok (.aload_n 0, 1) := by decide +kernel
theorem dX7_readProfile_57 : decode cX7_readProfile 57 = .ok (.invokevirtual 41, 3) := by decide +kernel
theorem dX7_readProfile_60 : decode cX7_readProfile 60 = .ok (.iconst 0, 1) := by decide +kernel
theorem dX7_readProfile_61 : decode cX7_readProfile 61 = .ok (.istore_n 1, 1) := by decide +kernel
theorem dX7_readProfile_62 : decode cX7_readProfile 62 = .ok (.iload_n 1, 1) := by decide +kernel
theorem dX7_readProfile_63 : decode cX7_readProfile 63 = .ok (.bipush 20, 2) := by decide +kernel
theorem dX7_readProfile_65 : decode cX7_readProfile 65 = .ok (.if_icmp .ge 38, 3) := by decide +kernel
theorem dX7_readProfile_68 : decode cX7_readProfile 68 = .ok (.aload_n 0, 1) := by decide +kernel
theorem dX7_readProfile_69 : decode cX7_readProfile 69 = .ok (.getfield 7, 3) := by decide +kernel
theorem dX7_readProfile_72 : decode cX7_readProfile 72 = .ok (.bipush 51, 2) := by decide +kernel
theorem dX7_readProfile_74 : decode cX7_readProfile 74 = .ok (.iload_n 1, 1) := by decide +kernel
theorem dX7_readProfile_75 : decode cX7_readProfile 75 = .ok (.iadd, 1) := by decide +kernel
theorem dX7_readProfile_76 : decode cX7_readProfile 76 = .ok (.iload_n 1, 1) := by decide +kernel
theorem dX7_readProfile_77 : decode cX7_readProfile 77 = .ok (.iconst 4, 1) := by decide +kernel
theorem dX7_readProfile_78 : decode cX7_readProfile 78 = .ok (.aload_n 0, 1) := by decide +kernel
theorem dX7_readProfile_79 : decode cX7_readProfile 79 = .ok (.getfield 138, 3) := by decide +kernel
theorem dX7_readProfile_82 : decode cX7_readProfile 82 = .ok (.imul, 1) := by decide +kernel
theorem dX7_readProfile_83 : decode cX7_readProfile 83 = .ok (.if_icmp .ge 12, 3) := by decide +kernel
theorem dX7_readProfile_86 : decode cX7_readProfile 86 = .ok (.aload_n 0, 1) := by decide +kernel
theorem dX7_readProfile_87 : decode cX7_readProfile 87 = .ok (.getfield 26, 3) := by decide +kernel
theorem dX7_readProfile_90 : decode cX7_readProfile 90 = .ok (.iload_n 1, 1) := by decide +kernel
theorem dX7_readProfile_91 : decode cX7_readProfile 91 = .ok (.iaload, 1) := by decide +kernel
theorem dX7_readProfile_92 : decode cX7_readProfile 92 = .ok (.goto 4, 3) := by decide +kernel
theorem dX7_readProfile_95 : decode cX7_readProfile 95 = .ok (.iconst 0, 1) := by decide +kernel
theorem dX7_readProfile_96 : decode cX7_readProfile 96 = .ok (.iastore, 1) := by decide +kernel
theorem dX7_readProfile_97 : decode cX7_readProfile 97 = .ok (.iinc 1 1, 3) := by decide +kernel
theorem dX7_readProfile_100 : decode cX7_readProfile 100 = .ok (.goto (-38), 3) := by decide +kernel
theorem dX7_readProfile_103 : decode cX7_readProfile 103 = .ok (.aload_n 0, 1) := by decide +kernel
theorem dX7_readProfile_104 : decode cX7_readProfile 104 = .ok (.getfield 7, 3) := by decide +kernel
theorem dX7_readProfile_107 : decode cX7_readProfile 107 = .ok (.bipush 72, 2) := by decide +kernel
theorem dX7_readProfile_109 : decode cX7_readProfile 109 = .ok (.aload_n 0, 1) := by decide +kernel
theorem dX7_readProfile_110 : decode cX7_readProfile 110 = .ok (.getfield 138, 3) := by decide +kernel
theorem dX7_readProfile_113 : decode cX7_readProfile 113 = .ok (.iastore, 1) := by decide +kernel
theorem dX7_readProfile_114 : decode cX7_readProfile 114 = .ok (.aload_n 0, 1) := by decide +kernel
theorem dX7_readProfile_115 : decode cX7_readProfile 115 = .ok (.getfield 138, 3) := by decide +kernel
theorem dX7_readProfile_118 : decode cX7_readProfile 118 = .ok (.ireturn, 1) := by decide +kernel
set_option maxRecDepth 20000 in
theorem ggX7_cell_X7_isCell : GoodIn wsX7_cell wsX7_isCell := goodIn_r _ [6, 1, 7, 8, 5, 9, 16, 17, 18, 19, 20, 21, 22, 23, 24, 25, 26, 27] (by decide +kernel) (by decide +kernel)
set_option maxRecDepth 20000 in
theorem gX7_cell_X7_isCell : GoodIn wsX7_cell (wsV RX7 107 RX7 yX7_isCell wsX7_isCell) := goodIn_app (goodIn_of _ (by decide +kernel)) ggX7_cell_X7_isCell
set_option maxRecDepth 20000 in
theorem ggX7_cell_X7_of : GoodIn wsX7_cell wsX7_of := goodIn_r _ [12] (by decide +kernel) (by decide +kernel)
set_option maxRecDepth 20000 in
theorem gX7_cell_X7_of : GoodIn wsX7_cell (va_wsS RX7 48 yX7_of wsX7_of) := goodIn_app (goodIn_of _ (by decide +kernel)) ggX7_cell_X7_of
set_option maxRecDepth 20000 in
theorem ggX7_cell_X7_base : GoodIn wsX7_cell wsX7_base := goodIn_r _ [15, 10, 11, 5, 12] (by decide +kernel) (by decide +kernel)
set_option maxRecDepth 20000 in
theorem gX7_cell_X7_base : GoodIn wsX7_cell (va_wsS RX7 52 yX7_base wsX7_base) := goodIn_app (goodIn_of _ (by decide +kernel)) ggX7_cell_X7_base
theorem dX7_cell_0 : decode cX7_cell 0 = .ok (.aload_n 0, 1) := by decide +kernel
theorem dX7_cell_1 : decode cX7_cell 1 = .ok (.iload_n 1, 1) := by decide +kernel
theorem dX7_cell_2 : decode cX7_cell 2 = .ok (.invokevirtual 107, 3) := by decide +kernel
theorem dX7_cell_5 : decode cX7_cell 5 = .ok (.ifCond .ne 5, 3) := by decide +kernel
theorem dX7_cell_8 : decode cX7_cell 8 = .ok (.iconst (-1), 1) := by decide +kernel
theorem dX7_cell_9 : decode cX7_cell 9 = .ok (.ireturn, 1) := by decide +kernel
theorem dX7_cell_10 : decode cX7_cell 10 = .ok (.iload_n 2, 1) := by decide +kernel
theorem dX7_cell_11 : decode cX7_cell 11 = .ok (.tableswitch 112 0 8 #[49, 59, 68, 78, 78, 78, 78, 78, 92], 49) := by decide +kernel
theorem dX7_cell_60 : decode cX7_cell 60 = .ok (.aload_n 0, 1) := by decide +kernel
theorem dX7_cell_61 : decode cX7_cell 61 = .ok (.getfield 7, 3) := by decide +kernel
theorem dX7_cell_64 : decode cX7_cell 64 = .ok (.iload_n 1, 1) := by decide +kernel
theorem dX7_cell_65 : decode cX7_cell 65 = .ok (.iconst 0, 1) := by decide +kernel
theorem dX7_cell_66 : decode cX7_cell 66 = .ok (.invokestatic 48, 3) := by decide +kernel
theorem dX7_cell_69 : decode cX7_cell 69 = .ok (.ireturn, 1) := by decide +kernel
theorem dX7_cell_70 : decode cX7_cell 70 = .ok (.aload_n 0, 1) := by decide +kernel
theorem dX7_cell_71 : decode cX7_cell 71 = .ok (.getfield 7, 3) := by decide +kernel
theorem dX7_cell_74 : decode cX7_cell 74 = .ok (.iload_n 1, 1) := by decide +kernel
theorem dX7_cell_75 : decode cX7_cell 75 = .ok (.invokestatic 52, 3) := by decide +kernel
theorem dX7_cell_78 : decode cX7_cell 78 = .ok (.ireturn, 1) := by decide +kernel
theorem dX7_cell_79 : decode cX7_cell 79 = .ok (.aload_n 0, 1) := by decide +kernel
theorem dX7_cell_80 : decode cX7_cell 80 = .ok (.getfield 7, 3) := by decide +kernel
theorem dX7_cell_83 : decode cX7_cell 83 = .ok (.iload_n 1, 1) := by decide +kernel
theorem dX7_cell_84 : decode cX7_cell 84 = .ok (.iconst 1, 1) := by decide +kernel
theorem dX7_cell_85 : decode cX7_cell 85 = .ok (.invokestatic 48, 3) := by decide +kernel
theorem dX7_cell_88 : decode cX7_cell 88 = .ok (.ireturn, 1) := by decide +kernel
theorem dX7_cell_89 : decode cX7_cell 89 = .ok (.aload_n 0, 1) := by decide +kernel
theorem dX7_cell_90 : decode cX7_cell 90 = .ok (.getfield 7, 3) := by decide +kernel
theorem dX7_cell_93 : decode cX7_cell 93 = .ok (.iload_n 1, 1) := by decide +kernel
theorem dX7_cell_94 : decode cX7_cell 94 = .ok (.iconst 2, 1) := by decide +kernel
theorem dX7_cell_95 : decode cX7_cell 95 = .ok (.iload_n 2, 1) := by decide +kernel
theorem dX7_cell_96 : decode cX7_cell 96 = .ok (.iadd, 1) := by decide +kernel
theorem dX7_cell_97 : decode cX7_cell 97 = .ok (.iconst 3, 1) := by decide +kernel
theorem dX7_cell_98 : decode cX7_cell 98 = .ok (.isub, 1) := by decide +kernel
theorem dX7_cell_99 : decode cX7_cell 99 = .ok (.invokestatic 48, 3) := by decide +kernel
theorem dX7_cell_102 : decode cX7_cell 102 = .ok (.ireturn, 1) := by decide +kernel
theorem dX7_cell_103 : decode cX7_cell 103 = .ok (.aload_n 0, 1) := by decide +kernel
theorem dX7_cell_104 : decode cX7_cell 104 = .ok (.getfield 7, 3) := by decide +kernel
theorem dX7_cell_107 : decode cX7_cell 107 = .ok (.iload_n 1, 1) := by decide +kernel
theorem dX7_cell_108 : decode cX7_cell 108 = .ok (.iconst 2, 1) := by decide +kernel
theorem dX7_cell_109 : decode cX7_cell 109 = .ok (.invokestatic 48, 3) := by decide +kernel
theorem dX7_cell_112 : decode cX7_cell 112 = .ok (.aload_n 0, 1) := by decide +kernel
theorem dX7_cell_113 : decode cX7_cell 113 = .ok (.getfield 7, 3) := by decide +kernel
theorem dX7_cell_116 : decode cX7_cell 116 = .ok (.iload_n 1, 1) := by decide +kernel
theorem dX7_cell_117 : decode cX7_cell 117 = .ok (.iconst 3, 1) := by decide +kernel
theorem dX7_cell_118 : decode cX7_cell 118 = .ok (.invokestatic 48, 3) := by decide +kernel
theorem dX7_cell_121 : decode cX7_cell 121 = .ok (.isub, 1) := by decide +kernel
theorem dX7_cell_122 : decode cX7_cell 122 = .ok (.ireturn, 1) := by decide +kernel
theorem dX7_cell_123 : decode cX7_cell 123 = .ok (.bipush (-2), 2) := by decide +kernel
theorem dX7_cell_125 : decode cX7_cell 125 = .ok (.ireturn, 1) := by decide +kernel
set_option maxRecDepth 20000 in
theorem ggX7_setting_X7_in : GoodIn wsX7_setting wsX7_in := goodIn_r _ [5] (by decide +kernel) (by decide +kernel)
set_option maxRecDepth 20000 in
theorem gX7_setting_X7_in : GoodIn wsX7_setting (va_wsS RX7 44 yX7_in wsX7_in) := goodIn_app (goodIn_of _ (by decide +kernel)) ggX7_setting_X7_in
theorem dX7_setting_0 : decode cX7_setting 0 = .ok (.iload_n 1, 1) := by decide +kernel
theorem dX7_setting_1 : decode cX7_setting 1 = .ok (.iconst 0, 1) := by decide +kernel
theorem dX7_setting_2 : decode cX7_setting 2 = .ok (.bipush 8, 2) := by decide +kernel
theorem dX7_setting_4 : decode cX7_setting 4 = .ok (.invokestatic 44, 3) := by decide +kernel
theorem dX7_setting_7 : decode cX7_setting 7 = .ok (.ifCond .eq 19, 3) := by decide +kernel
theorem dX7_setting_10 : decode cX7_setting 10 = .ok (.aload_n 0, 1) := by decide +kernel
theorem dX7_setting_11 : decode cX7_setting 11 = .ok (.getfield 7, 3) := by decide +kernel
theorem dX7_setting_14 : decode cX7_setting 14 = .ok (.bipush 42, 2) := by decide +kernel
theorem dX7_setting_16 : decode cX7_setting 16 = .ok (.iload_n 1, 1) := by decide +kernel
theorem dX7_setting_17 : decode cX7_setting 17 = .ok (.iadd, 1) := by decide +kernel
theorem dX7_setting_18 : decode cX7_setting 18 = .ok (.iaload, 1) := by decide +kernel
theorem dX7_setting_19 : decode cX7_setting 19 = .ok (.sipush 1000, 3) := by decide +kernel
theorem dX7_setting_22 : decode cX7_setting 22 = .ok (.iadd, 1) := by decide +kernel
theorem dX7_setting_23 : decode cX7_setting 23 = .ok (.goto 4, 3) := by decide +kernel
theorem dX7_setting_26 : decode cX7_setting 26 = .ok (.iconst (-1), 1) := by decide +kernel
theorem dX7_setting_27 : decode cX7_setting 27 = .ok (.ireturn, 1) := by decide +kernel
set_option maxRecDepth 20000 in
theorem ggX7_stage_X7_in : GoodIn wsX7_stage wsX7_in := goodIn_r _ [5] (by decide +kernel) (by decide +kernel)
set_option maxRecDepth 20000 in
theorem gX7_stage_X7_in : GoodIn wsX7_stage (va_wsS RX7 44 yX7_in wsX7_in) := goodIn_app (goodIn_of _ (by decide +kernel)) ggX7_stage_X7_in
set_option maxRecDepth 20000 in
theorem ggX7_stage_X7_ofStage : GoodIn wsX7_stage wsX7_ofStage := goodIn_r _ [8] (by decide +kernel) (by decide +kernel)
set_option maxRecDepth 20000 in
theorem gX7_stage_X7_ofStage : GoodIn wsX7_stage (va_wsS RX7 56 yX7_ofStage wsX7_ofStage) := goodIn_app (goodIn_of _ (by decide +kernel)) ggX7_stage_X7_ofStage
set_option maxRecDepth 20000 in
theorem ggX7_stage_X7_limit : GoodIn wsX7_stage wsX7_limit := goodIn_r _ [11, 6, 7, 4, 8] (by decide +kernel) (by decide +kernel)
set_option maxRecDepth 20000 in
theorem gX7_stage_X7_limit : GoodIn wsX7_stage (va_wsS RX7 59 yX7_limit wsX7_limit) := goodIn_app (goodIn_of _ (by decide +kernel)) ggX7_stage_X7_limit
theorem dX7_stage_0 : decode cX7_stage 0 = .ok (.iload_n 1, 1) := by decide +kernel
theorem dX7_stage_1 : decode cX7_stage 1 = .ok (.iconst 0, 1) := by decide +kernel
theorem dX7_stage_2 : decode cX7_stage 2 = .ok (.aload_n 0, 1) := by decide +kernel
theorem dX7_stage_3 : decode cX7_stage 3 = .ok (.getfield 7, 3) := by decide +kernel
theorem dX7_stage_6 : decode cX7_stage 6 = .ok (.bipush 72, 2) := by decide +kernel
theorem dX7_stage_8 : decode cX7_stage 8 = .ok (.iaload, 1) := by decide +kernel
theorem dX7_stage_9 : decode cX7_stage 9 = .ok (.iconst 1, 1) := by decide +kernel
theorem dX7_stage_10 : decode cX7_stage 10 = .ok (.isub, 1) := by decide +kernel
theorem dX7_stage_11 : decode cX7_stage 11 = .ok (.invokestatic 44, 3) := by decide +kernel
theorem dX7_stage_14 : decode cX7_stage 14 = .ok (.ifCond .ne 5, 3) := by decide +kernel
theorem dX7_stage_17 : decode cX7_stage 17 = .ok (.iconst (-1), 1) := by decide +kernel
theorem dX7_stage_18 : decode cX7_stage 18 = .ok (.ireturn, 1) := by decide +kernel
theorem dX7_stage_19 : decode cX7_stage 19 = .ok (.iload_n 2, 1) := by decide +kernel
theorem dX7_stage_20 : decode cX7_stage 20 = .ok (.iconst 0, 1) := by decide +kernel
theorem dX7_stage_21 : decode cX7_stage 21 = .ok (.iconst 4, 1) := by decide +kernel
theorem dX7_stage_22 : decode cX7_stage 22 = .ok (.invokestatic 44, 3) := by decide +kernel
theorem dX7_stage_25 : decode cX7_stage 25 = .ok (.ifCond .ne 6, 3) := by decide +kernel
theorem dX7_stage_28 : decode cX7_stage 28 = .ok (.bipush (-2), 2) := by decide +kernel
theorem dX7_stage_30 : decode cX7_stage 30 = .ok (.ireturn, 1) := by decide +kernel
theorem dX7_stage_31 : decode cX7_stage 31 = .ok (.iload_n 2, 1) := by decide +kernel
theorem dX7_stage_32 : decode cX7_stage 32 = .ok (.iconst 4, 1) := by decide +kernel
theorem dX7_stage_33 : decode cX7_stage 33 = .ok (.if_icmp .ne 30, 3) := by decide +kernel
theorem dX7_stage_36 : decode cX7_stage 36 = .ok (.aload_n 0, 1) := by decide +kernel
theorem dX7_stage_37 : decode cX7_stage 37 = .ok (.getfield 7, 3) := by decide +kernel
theorem dX7_stage_40 : decode cX7_stage 40 = .ok (.iload_n 1, 1) := by decide +kernel
theorem dX7_stage_41 : decode cX7_stage 41 = .ok (.iconst 0, 1) := by decide +kernel
theorem dX7_stage_42 : decode cX7_stage 42 = .ok (.invokestatic 56, 3) := by decide +kernel
theorem dX7_stage_45 : decode cX7_stage 45 = .ok (.iconst 2, 1) := by decide +kernel
theorem dX7_stage_46 : decode cX7_stage 46 = .ok (.if_icmp .ne 8, 3) := by decide +kernel
theorem dX7_stage_49 : decode cX7_stage 49 = .ok (.bipush (-5), 2) := by decide +kernel
theorem dX7_stage_51 : decode cX7_stage 51 = .ok (.goto 11, 3) := by decide +kernel
theorem dX7_stage_54 : decode cX7_stage 54 = .ok (.aload_n 0, 1) := by decide +kernel
theorem dX7_stage_55 : decode cX7_stage 55 = .ok (.getfield 7, 3) := by decide +kernel
theorem dX7_stage_58 : decode cX7_stage 58 = .ok (.iload_n 1, 1) := by decide +kernel
theorem dX7_stage_59 : decode cX7_stage 59 = .ok (.invokestatic 59, 3) := by decide +kernel
theorem dX7_stage_62 : decode cX7_stage 62 = .ok (.ireturn, 1) := by decide +kernel
theorem dX7_stage_63 : decode cX7_stage 63 = .ok (.aload_n 0, 1) := by decide +kernel
theorem dX7_stage_64 : decode cX7_stage 64 = .ok (.getfield 7, 3) := by decide +kernel
theorem dX7_stage_67 : decode cX7_stage 67 = .ok (.iload_n 1, 1) := by decide +kernel
theorem dX7_stage_68 : decode cX7_stage 68 = .ok (.iload_n 2, 1) := by decide +kernel
theorem dX7_stage_69 : decode cX7_stage 69 = .ok (.invokestatic 56, 3) := by decide +kernel
theorem dX7_stage_72 : decode cX7_stage 72 = .ok (.ireturn, 1) := by decide +kernel
set_option maxRecDepth 20000 in
theorem ggX7_voltage_X7_in : GoodIn wsX7_voltage wsX7_in := goodIn_r _ [5] (by decide +kernel) (by decide +kernel)
set_option maxRecDepth 20000 in
theorem gX7_voltage_X7_in : GoodIn wsX7_voltage (va_wsS RX7 44 yX7_in wsX7_in) := goodIn_app (goodIn_of _ (by decide +kernel)) ggX7_voltage_X7_in
set_option maxRecDepth 20000 in
theorem ggX7_voltage_X7_highest : GoodIn wsX7_voltage wsX7_highest := goodIn_r _ [8, 9, 10, 4, 11, 12, 13, 14] (by decide +kernel) (by decide +kernel)
set_option maxRecDepth 20000 in
theorem gX7_voltage_X7_highest : GoodIn wsX7_voltage (va_wsS RX7 62 yX7_highest wsX7_highest) := goodIn_app (goodIn_of _ (by decide +kernel)) ggX7_voltage_X7_highest
set_option maxRecDepth 20000 in
theorem ggX7_voltage_X7_more : GoodIn wsX7_voltage wsX7_more := goodIn_r _ [17] (by decide +kernel) (by decide +kernel)
set_option maxRecDepth 20000 in
theorem gX7_voltage_X7_more : GoodIn wsX7_voltage (va_wsS RX7 69 yX7_more wsX7_more) := goodIn_app (goodIn_of _ (by decide +kernel)) ggX7_voltage_X7_more
theorem dX7_voltage_0 : decode cX7_voltage 0 = .ok (.iload_n 1, 1) := by decide +kernel
theorem dX7_voltage_1 : decode cX7_voltage 1 = .ok (.iconst 0, 1) := by decide +kernel
theorem dX7_voltage_2 : decode cX7_voltage 2 = .ok (.sipush 2000, 3) := by decide +kernel
theorem dX7_voltage_5 : decode cX7_voltage 5 = .ok (.invokestatic 44, 3) := by decide +kernel
theorem dX7_voltage_8 : decode cX7_voltage 8 = .ok (.ifCond .eq 22, 3) := by decide +kernel
theorem dX7_voltage_11 : decode cX7_voltage 11 = .ok (.aload_n 0, 1) := by decide +kernel
theorem dX7_voltage_12 : decode cX7_voltage 12 = .ok (.getfield 7, 3) := by decide +kernel
theorem dX7_voltage_15 : decode cX7_voltage 15 = .ok (.invokestatic 62, 3) := by decide +kernel
theorem dX7_voltage_18 : decode cX7_voltage 18 = .ok (.aload_n 0, 1) := by decide +kernel
theorem dX7_voltage_19 : decode cX7_voltage 19 = .ok (.getfield 7, 3) := by decide +kernel
theorem dX7_voltage_22 : decode cX7_voltage 22 = .ok (.iload_n 1, 1) := by decide +kernel
theorem dX7_voltage_23 : decode cX7_voltage 23 = .ok (.invokestatic 69, 3) := by decide +kernel
theorem dX7_voltage_26 : decode cX7_voltage 26 = .ok (.iadd, 1) := by decide +kernel
theorem dX7_voltage_27 : decode cX7_voltage 27 = .ok (.goto 5, 3) := by decide +kernel
theorem dX7_voltage_30 : decode cX7_voltage 30 = .ok (.bipush (-2), 2) := by decide +kernel
theorem dX7_voltage_32 : decode cX7_voltage 32 = .ok (.ireturn, 1) := by decide +kernel
set_option maxRecDepth 20000 in
theorem ggX7_current_X7_isOut : GoodIn wsX7_current wsX7_isOut := goodIn_r _ [5, 6, 7, 4, 8] (by decide +kernel) (by decide +kernel)
set_option maxRecDepth 20000 in
theorem gX7_current_X7_isOut : GoodIn wsX7_current (va_wsS RX7 97 yX7_isOut wsX7_isOut) := goodIn_app (goodIn_of _ (by decide +kernel)) ggX7_current_X7_isOut
set_option maxRecDepth 20000 in
theorem ggX7_current_X7_told : GoodIn wsX7_current wsX7_told := goodIn_r _ [11, 12, 13, 4, 14, 15, 16, 17, 18, 19, 20, 21, 22, 23, 24, 25, 26, 27, 28, 29] (by decide +kernel) (by decide +kernel)
set_option maxRecDepth 20000 in
theorem gX7_current_X7_told : GoodIn wsX7_current (va_wsS RX7 76 yX7_told wsX7_told) := goodIn_app (goodIn_of _ (by decide +kernel)) ggX7_current_X7_told
set_option maxRecDepth 20000 in
theorem ggX7_current_X7_endsAtOnce : GoodIn wsX7_current wsX7_endsAtOnce := goodIn_r _ [32, 12, 13, 4, 14] (by decide +kernel) (by decide +kernel)
set_option maxRecDepth 20000 in
theorem gX7_current_X7_endsAtOnce : GoodIn wsX7_current (va_wsS RX7 79 yX7_endsAtOnce wsX7_endsAtOnce) := goodIn_app (goodIn_of _ (by decide +kernel)) ggX7_current_X7_endsAtOnce
theorem dX7_current_0 : decode cX7_current 0 = .ok (.aload_n 0, 1) := by decide +kernel
theorem dX7_current_1 : decode cX7_current 1 = .ok (.getfield 7, 3) := by decide +kernel
theorem dX7_current_4 : decode cX7_current 4 = .ok (.bipush 73, 2) := by decide +kernel
theorem dX7_current_6 : decode cX7_current 6 = .ok (.iaload, 1) := by decide +kernel
theorem dX7_current_7 : decode cX7_current 7 = .ok (.iconst 1, 1) := by decide +kernel
theorem dX7_current_8 : decode cX7_current 8 = .ok (.if_icmp .ne 13, 3) := by decide +kernel
theorem dX7_current_11 : decode cX7_current 11 = .ok (.aload_n 0, 1) := by decide +kernel
theorem dX7_current_12 : decode cX7_current 12 = .ok (.getfield 7, 3) := by decide +kernel
theorem dX7_current_15 : decode cX7_current 15 = .ok (.invokestatic 97, 3) := by decide +kernel
theorem dX7_current_18 : decode cX7_current 18 = .ok (.ifCond .eq 5, 3) := by decide +kernel
theorem dX7_current_21 : decode cX7_current 21 = .ok (.iconst 0, 1) := by decide +kernel
theorem dX7_current_22 : decode cX7_current 22 = .ok (.ireturn, 1) := by decide +kernel
theorem dX7_current_23 : decode cX7_current 23 = .ok (.aload_n 0, 1) := by decide +kernel
theorem dX7_current_24 : decode cX7_current 24 = .ok (.getfield 7, 3) := by decide +kernel
theorem dX7_current_27 : decode cX7_current 27 = .ok (.invokestatic 76, 3) := by decide +kernel
theorem dX7_current_30 : decode cX7_current 30 = .ok (.istore_n 1, 1) := by decide +kernel
theorem dX7_current_31 : decode cX7_current 31 = .ok (.aload_n 0, 1) := by decide +kernel
theorem dX7_current_32 : decode cX7_current 32 = .ok (.getfield 7, 3) := by decide +kernel
theorem dX7_current_35 : decode cX7_current 35 = .ok (.iload_n 1, 1) := by decide +kernel
theorem dX7_current_36 : decode cX7_current 36 = .ok (.invokestatic 79, 3) := by decide +kernel
theorem dX7_current_39 : decode cX7_current 39 = .ok (.ifCond .eq 7, 3) := by decide +kernel
theorem dX7_current_42 : decode cX7_current 42 = .ok (.iconst 0, 1) := by decide +kernel
theorem dX7_current_43 : decode cX7_current 43 = .ok (.goto 4, 3) := by decide +kernel
theorem dX7_current_46 : decode cX7_current 46 = .ok (.iload_n 1, 1) := by decide +kernel
theorem dX7_current_47 : decode cX7_current 47 = .ok (.ireturn, 1) := by decide +kernel
set_option maxRecDepth 20000 in
theorem ggX7_doneBy_X7_tick : GoodIn wsX7_doneBy wsX7_tick := goodIn_r _ [5, 6, 7, 4, 8, 9, 10, 11, 12, 13, 14, 15, 16, 17, 18, 19, 20, 21, 22, 23, 24, 25, 26, 27, 28, 29, 30, 31, 32, 33, 34, 35, 36, 37, 38, 39, 40, 41, 42, 43, 44, 45, 46, 47, 48, 49, 50, 51, 52, 53, 54, 55, 56, 57, 58, 59] (by decide +kernel) (by decide +kernel)
set_option maxRecDepth 20000 in
theorem gX7_doneBy_X7_tick : GoodIn wsX7_doneBy (va_wsS RX7 123 yX7_tick wsX7_tick) := goodIn_app (goodIn_of _ (by decide +kernel)) ggX7_doneBy_X7_tick
theorem dX7_doneBy_0 : decode cX7_doneBy 0 = .ok (.iconst 1, 1) := by decide +kernel
theorem dX7_doneBy_1 : decode cX7_doneBy 1 = .ok (.istore_n 2, 1) := by decide +kernel
theorem dX7_doneBy_2 : decode cX7_doneBy 2 = .ok (.iload_n 2, 1) := by decide +kernel
theorem dX7_doneBy_3 : decode cX7_doneBy 3 = .ok (.iload_n 1, 1) := by decide +kernel
theorem dX7_doneBy_4 : decode cX7_doneBy 4 = .ok (.if_icmp .gt 40, 3) := by decide +kernel
theorem dX7_doneBy_7 : decode cX7_doneBy 7 = .ok (.aload_n 0, 1) := by decide +kernel
theorem dX7_doneBy_8 : decode cX7_doneBy 8 = .ok (.getfield 13, 3) := by decide +kernel
theorem dX7_doneBy_11 : decode cX7_doneBy 11 = .ok (.bipush 73, 2) := by decide +kernel
theorem dX7_doneBy_13 : decode cX7_doneBy 13 = .ok (.iaload, 1) := by decide +kernel
theorem dX7_doneBy_14 : decode cX7_doneBy 14 = .ok (.iconst 1, 1) := by decide +kernel
theorem dX7_doneBy_15 : decode cX7_doneBy 15 = .ok (.if_icmp .ne 29, 3) := by decide +kernel
theorem dX7_doneBy_18 : decode cX7_doneBy 18 = .ok (.aload_n 0, 1) := by decide +kernel
theorem dX7_doneBy_19 : decode cX7_doneBy 19 = .ok (.getfield 13, 3) := by decide +kernel
theorem dX7_doneBy_22 : decode cX7_doneBy 22 = .ok (.invokestatic 123, 3) := by decide +kernel
theorem dX7_doneBy_25 : decode cX7_doneBy 25 = .ok (.aload_n 0, 1) := by decide +kernel
theorem dX7_doneBy_26 : decode cX7_doneBy 26 = .ok (.getfield 13, 3) := by decide +kernel
theorem dX7_doneBy_29 : decode cX7_doneBy 29 = .ok (.bipush 73, 2) := by decide +kernel
theorem dX7_doneBy_31 : decode cX7_doneBy 31 = .ok (.iaload, 1) := by decide +kernel
theorem dX7_doneBy_32 : decode cX7_doneBy 32 = .ok (.iconst 2, 1) := by decide +kernel
theorem dX7_doneBy_33 : decode cX7_doneBy 33 = .ok (.if_icmp .ne 5, 3) := by decide +kernel
theorem dX7_doneBy_36 : decode cX7_doneBy 36 = .ok (.iload_n 2, 1) := by decide +kernel
theorem dX7_doneBy_37 : decode cX7_doneBy 37 = .ok (.ireturn, 1) := by decide +kernel
theorem dX7_doneBy_38 : decode cX7_doneBy 38 = .ok (.iinc 2 1, 3) := by decide +kernel
theorem dX7_doneBy_41 : decode cX7_doneBy 41 = .ok (.goto (-39), 3) := by decide +kernel
theorem dX7_doneBy_44 : decode cX7_doneBy 44 = .ok (.bipush (-5), 2) := by decide +kernel
theorem dX7_doneBy_46 : decode cX7_doneBy 46 = .ok (.ireturn, 1) := by decide +kernel
set_option maxRecDepth 20000 in
theorem ggX7_doneIn_X7_copies : GoodIn wsX7_doneIn wsX7_copies := goodIn_r _ [6] (by decide +kernel) (by decide +kernel)
set_option maxRecDepth 20000 in
theorem gX7_doneIn_X7_copies : GoodIn wsX7_doneIn (va_wsS RX7 33 yX7_copies wsX7_copies) := goodIn_app (goodIn_of _ (by decide +kernel)) ggX7_doneIn_X7_copies
set_option maxRecDepth 20000 in
theorem ggX7_doneIn_X7_doneBy : GoodIn wsX7_doneIn wsX7_doneBy := goodIn_r _ [10, 2, 11, 12, 5, 13, 14, 15, 16, 17, 18, 19, 20, 21, 22, 23, 24, 25, 26, 27, 28, 29, 30, 31, 32, 33, 34, 35, 36, 37, 38, 39, 40, 41, 42, 43, 44, 45, 46, 47, 48, 49, 50, 51, 52, 53, 54, 55, 56, 57, 58, 59, 60, 61, 62, 63, 64, 65, 66, 67, 68, 69, 70, 71, 72, 73, 74, 75, 76, 77, 78, 79] (by decide +kernel) (by decide +kernel)
set_option maxRecDepth 20000 in
theorem gX7_doneIn_X7_doneBy : GoodIn wsX7_doneIn (wsV RX7 157 RX7 yX7_doneBy wsX7_doneBy) := goodIn_app (goodIn_of _ (by decide +kernel)) ggX7_doneIn_X7_doneBy
theorem dX7_doneIn_0 : decode cX7_doneIn 0 = .ok (.aload_n 0, 1) := by decide +kernel
theorem dX7_doneIn_1 : decode cX7_doneIn 1 = .ok (.getfield 7, 3) := by decide +kernel
theorem dX7_doneIn_4 : decode cX7_doneIn 4 = .ok (.aload_n 0, 1) := by decide +kernel
theorem dX7_doneIn_5 : decode cX7_doneIn 5 = .ok (.getfield 13, 3) := by decide +kernel
theorem dX7_doneIn_8 : decode cX7_doneIn 8 = .ok (.iconst 0, 1) := by decide +kernel
theorem dX7_doneIn_9 : decode cX7_doneIn 9 = .ok (.invokestatic 33, 3) := by decide +kernel
theorem dX7_doneIn_12 : decode cX7_doneIn 12 = .ok (.aload_n 0, 1) := by decide +kernel
theorem dX7_doneIn_13 : decode cX7_doneIn 13 = .ok (.getfield 7, 3) := by decide +kernel
theorem dX7_doneIn_16 : decode cX7_doneIn 16 = .ok (.bipush 73, 2) := by decide +kernel
theorem dX7_doneIn_18 : decode cX7_doneIn 18 = .ok (.iaload, 1) := by decide +kernel
theorem dX7_doneIn_19 : decode cX7_doneIn 19 = .ok (.iconst 2, 1) := by decide +kernel
theorem dX7_doneIn_20 : decode cX7_doneIn 20 = .ok (.if_icmp .ne 7, 3) := by decide +kernel
theorem dX7_doneIn_23 : decode cX7_doneIn 23 = .ok (.iconst 0, 1) := by decide +kernel
theorem dX7_doneIn_24 : decode cX7_doneIn 24 = .ok (.goto 10, 3) := by decide +kernel
theorem dX7_doneIn_27 : decode cX7_doneIn 27 = .ok (.aload_n 0, 1) := by decide +kernel
theorem dX7_doneIn_28 : decode cX7_doneIn 28 = .ok (.sipush 2000, 3) := by decide +kernel
theorem dX7_doneIn_31 : decode cX7_doneIn 31 = .ok (.invokevirtual 157, 3) := by decide +kernel
theorem dX7_doneIn_34 : decode cX7_doneIn 34 = .ok (.ireturn, 1) := by decide +kernel
set_option maxRecDepth 20000 in
theorem ggX7_chargeIn_X7_isCell : GoodIn wsX7_chargeIn wsX7_isCell := goodIn_r _ [7, 1, 8, 9, 6, 10, 68, 69, 70, 71, 72, 73, 74, 75, 76, 77, 78, 79] (by decide +kernel) (by decide +kernel)
set_option maxRecDepth 20000 in
theorem gX7_chargeIn_X7_isCell : GoodIn wsX7_chargeIn (wsV RX7 107 RX7 yX7_isCell wsX7_isCell) := goodIn_app (goodIn_of _ (by decide +kernel)) ggX7_chargeIn_X7_isCell
set_option maxRecDepth 20000 in
theorem ggX7_chargeIn_X7_in : GoodIn wsX7_chargeIn wsX7_in := goodIn_r _ [10] (by decide +kernel) (by decide +kernel)
set_option maxRecDepth 20000 in
theorem gX7_chargeIn_X7_in : GoodIn wsX7_chargeIn (va_wsS RX7 44 yX7_in wsX7_in) := goodIn_app (goodIn_of _ (by decide +kernel)) ggX7_chargeIn_X7_in
set_option maxRecDepth 20000 in
theorem ggX7_chargeIn_X7_copies : GoodIn wsX7_chargeIn wsX7_copies := goodIn_r _ [13] (by decide +kernel) (by decide +kernel)
set_option maxRecDepth 20000 in
theorem gX7_chargeIn_X7_copies : GoodIn wsX7_chargeIn (va_wsS RX7 33 yX7_copies wsX7_copies) := goodIn_app (goodIn_of _ (by decide +kernel)) ggX7_chargeIn_X7_copies
set_option maxRecDepth 20000 in
theorem ggX7_chargeIn_X7_tick : GoodIn wsX7_chargeIn wsX7_tick := goodIn_r _ [16, 17, 18, 6, 19, 8, 9, 10, 20, 21, 22, 23, 24, 25, 26, 27, 28, 29, 30, 31, 32, 33, 34, 35, 36, 37, 38, 39, 40, 41, 42, 43, 44, 45, 46, 47, 48, 49, 50, 51, 52, 53, 54, 55, 56, 57, 58, 59, 60, 61, 62, 63, 64, 65, 66, 67] (by decide +kernel) (by decide +kernel)
set_option maxRecDepth 20000 in
theorem gX7_chargeIn_X7_tick : GoodIn wsX7_chargeIn (va_wsS RX7 123 yX7_tick wsX7_tick) := goodIn_app (goodIn_of _ (by decide +kernel)) ggX7_chargeIn_X7_tick
set_option maxRecDepth 20000 in
theorem ggX7_chargeIn_X7_of : GoodIn wsX7_chargeIn wsX7_of := goodIn_r _ [46] (by decide +kernel) (by decide +kernel)
set_option maxRecDepth 20000 in
theorem gX7_chargeIn_X7_of : GoodIn wsX7_chargeIn (va_wsS RX7 48 yX7_of wsX7_of) := goodIn_app (goodIn_of _ (by decide +kernel)) ggX7_chargeIn_X7_of
theorem dX7_chargeIn_0 : decode cX7_chargeIn 0 = .ok (.aload_n 0, 1) := by decide +kernel
theorem dX7_chargeIn_1 : decode cX7_chargeIn 1 = .ok (.iload_n 1, 1) := by decide +kernel
theorem dX7_chargeIn_2 : decode cX7_chargeIn 2 = .ok (.invokevirtual 107, 3) := by decide +kernel
theorem dX7_chargeIn_5 : decode cX7_chargeIn 5 = .ok (.ifCond .ne 5, 3) := by decide +kernel
theorem dX7_chargeIn_8 : decode cX7_chargeIn 8 = .ok (.iconst (-1), 1) := by decide +kernel
theorem dX7_chargeIn_9 : decode cX7_chargeIn 9 = .ok (.ireturn, 1) := by decide +kernel
theorem dX7_chargeIn_10 : decode cX7_chargeIn 10 = .ok (.iload_n 2, 1) := by decide +kernel
theorem dX7_chargeIn_11 : decode cX7_chargeIn 11 = .ok (.iconst 0, 1) := by decide +kernel
theorem dX7_chargeIn_12 : decode cX7_chargeIn 12 = .ok (.sipush 200, 3) := by decide +kernel
theorem dX7_chargeIn_15 : decode cX7_chargeIn 15 = .ok (.invokestatic 44, 3) := by decide +kernel
theorem dX7_chargeIn_18 : decode cX7_chargeIn 18 = .ok (.ifCond .ne 6, 3) := by decide +kernel
theorem dX7_chargeIn_21 : decode cX7_chargeIn 21 = .ok (.bipush (-2), 2) := by decide +kernel
theorem dX7_chargeIn_23 : decode cX7_chargeIn 23 = .ok (.ireturn, 1) := by decide +kernel
theorem dX7_chargeIn_24 : decode cX7_chargeIn 24 = .ok (.aload_n 0, 1) := by decide +kernel
theorem dX7_chargeIn_25 : decode cX7_chargeIn 25 = .ok (.getfield 7, 3) := by decide +kernel
theorem dX7_chargeIn_28 : decode cX7_chargeIn 28 = .ok (.aload_n 0, 1) := by decide +kernel
theorem dX7_chargeIn_29 : decode cX7_chargeIn 29 = .ok (.getfield 13, 3) := by decide +kernel
theorem dX7_chargeIn_32 : decode cX7_chargeIn 32 = .ok (.iconst 0, 1) := by decide +kernel
theorem dX7_chargeIn_33 : decode cX7_chargeIn 33 = .ok (.invokestatic 33, 3) := by decide +kernel
theorem dX7_chargeIn_36 : decode cX7_chargeIn 36 = .ok (.iconst 0, 1) := by decide +kernel
theorem dX7_chargeIn_37 : decode cX7_chargeIn 37 = .ok (.istore_n 3, 1) := by decide +kernel
theorem dX7_chargeIn_38 : decode cX7_chargeIn 38 = .ok (.iload_n 3, 1) := by decide +kernel
theorem dX7_chargeIn_39 : decode cX7_chargeIn 39 = .ok (.iload_n 2, 1) := by decide +kernel
theorem dX7_chargeIn_40 : decode cX7_chargeIn 40 = .ok (.if_icmp .ge 16, 3) := by decide +kernel
theorem dX7_chargeIn_43 : decode cX7_chargeIn 43 = .ok (.aload_n 0, 1) := by decide +kernel
theorem dX7_chargeIn_44 : decode cX7_chargeIn 44 = .ok (.getfield 13, 3) := by decide +kernel
theorem dX7_chargeIn_47 : decode cX7_chargeIn 47 = .ok (.invokestatic 123, 3) := by decide +kernel
theorem dX7_chargeIn_50 : decode cX7_chargeIn 50 = .ok (.iinc 3 1, 3) := by decide +kernel
theorem dX7_chargeIn_53 : decode cX7_chargeIn 53 = .ok (.goto (-15), 3) := by decide +kernel
theorem dX7_chargeIn_56 : decode cX7_chargeIn 56 = .ok (.aload_n 0, 1) := by decide +kernel
theorem dX7_chargeIn_57 : decode cX7_chargeIn 57 = .ok (.getfield 13, 3) := by decide +kernel
theorem dX7_chargeIn_60 : decode cX7_chargeIn 60 = .ok (.iload_n 1, 1) := by decide +kernel
theorem dX7_chargeIn_61 : decode cX7_chargeIn 61 = .ok (.iconst 0, 1) := by decide +kernel
theorem dX7_chargeIn_62 : decode cX7_chargeIn 62 = .ok (.invokestatic 48, 3) := by decide +kernel
theorem dX7_chargeIn_65 : decode cX7_chargeIn 65 = .ok (.ireturn, 1) := by decide +kernel
set_option maxRecDepth 20000 in
theorem ggX7_warmest_X7_copies : GoodIn wsX7_warmest wsX7_copies := goodIn_r _ [6] (by decide +kernel) (by decide +kernel)
set_option maxRecDepth 20000 in
theorem gX7_warmest_X7_copies : GoodIn wsX7_warmest (va_wsS RX7 33 yX7_copies wsX7_copies) := goodIn_app (goodIn_of _ (by decide +kernel)) ggX7_warmest_X7_copies
set_option maxRecDepth 20000 in
theorem ggX7_warmest_X7_doneBy : GoodIn wsX7_warmest wsX7_doneBy := goodIn_r _ [10, 2, 11, 12, 5, 13, 14, 15, 16, 17, 18, 19, 20, 21, 22, 23, 24, 25, 26, 27, 28, 29, 30, 31, 32, 33, 34, 35, 36, 37, 38, 39, 40, 41, 42, 43, 44, 45, 46, 47, 48, 49, 50, 51, 52, 53, 54, 55, 56, 57, 58, 59, 60, 61, 62, 63, 64, 65, 66, 67, 68, 69, 70, 71, 72, 73, 74, 75, 76, 77, 78, 79] (by decide +kernel) (by decide +kernel)
set_option maxRecDepth 20000 in
theorem gX7_warmest_X7_doneBy : GoodIn wsX7_warmest (wsV RX7 157 RX7 yX7_doneBy wsX7_doneBy) := goodIn_app (goodIn_of _ (by decide +kernel)) ggX7_warmest_X7_doneBy
theorem dX7_warmest_0 : decode cX7_warmest 0 = .ok (.aload_n 0, 1) := by decide +kernel
theorem dX7_warmest_1 : decode cX7_warmest 1 = .ok (.getfield 7, 3) := by decide +kernel
theorem dX7_warmest_4 : decode cX7_warmest 4 = .ok (.bipush 73, 2) := by decide +kernel
theorem dX7_warmest_6 : decode cX7_warmest 6 = .ok (.iaload, 1) := by decide +kernel
theorem dX7_warmest_7 : decode cX7_warmest 7 = .ok (.iconst 1, 1) := by decide +kernel
theorem dX7_warmest_8 : decode cX7_warmest 8 = .ok (.if_icmp .eq 6, 3) := by decide +kernel
theorem dX7_warmest_11 : decode cX7_warmest 11 = .ok (.bipush (-4), 2) := by decide +kernel
theorem dX7_warmest_13 : decode cX7_warmest 13 = .ok (.ireturn, 1) := by decide +kernel
theorem dX7_warmest_14 : decode cX7_warmest 14 = .ok (.aload_n 0, 1) := by decide +kernel
theorem dX7_warmest_15 : decode cX7_warmest 15 = .ok (.getfield 7, 3) := by decide +kernel
theorem dX7_warmest_18 : decode cX7_warmest 18 = .ok (.bipush 48, 2) := by decide +kernel
theorem dX7_warmest_20 : decode cX7_warmest 20 = .ok (.iaload, 1) := by decide +kernel
theorem dX7_warmest_21 : decode cX7_warmest 21 = .ok (.istore_n 1, 1) := by decide +kernel
theorem dX7_warmest_22 : decode cX7_warmest 22 = .ok (.iload_n 1, 1) := by decide +kernel
theorem dX7_warmest_23 : decode cX7_warmest 23 = .ok (.aload_n 0, 1) := by decide +kernel
theorem dX7_warmest_24 : decode cX7_warmest 24 = .ok (.getfield 7, 3) := by decide +kernel
theorem dX7_warmest_27 : decode cX7_warmest 27 = .ok (.bipush 47, 2) := by decide +kernel
theorem dX7_warmest_29 : decode cX7_warmest 29 = .ok (.iaload, 1) := by decide +kernel
theorem dX7_warmest_30 : decode cX7_warmest 30 = .ok (.if_icmp .lt 45, 3) := by decide +kernel
theorem dX7_warmest_33 : decode cX7_warmest 33 = .ok (.aload_n 0, 1) := by decide +kernel
theorem dX7_warmest_34 : decode cX7_warmest 34 = .ok (.getfield 7, 3) := by decide +kernel
theorem dX7_warmest_37 : decode cX7_warmest 37 = .ok (.aload_n 0, 1) := by decide +kernel
theorem dX7_warmest_38 : decode cX7_warmest 38 = .ok (.getfield 13, 3) := by decide +kernel
theorem dX7_warmest_41 : decode cX7_warmest 41 = .ok (.iconst 0, 1) := by decide +kernel
theorem dX7_warmest_42 : decode cX7_warmest 42 = .ok (.invokestatic 33, 3) := by decide +kernel
theorem dX7_warmest_45 : decode cX7_warmest 45 = .ok (.aload_n 0, 1) := by decide +kernel
theorem dX7_warmest_46 : decode cX7_warmest 46 = .ok (.getfield 13, 3) := by decide +kernel
theorem dX7_warmest_49 : decode cX7_warmest 49 = .ok (.bipush 45, 2) := by decide +kernel
theorem dX7_warmest_51 : decode cX7_warmest 51 = .ok (.iload_n 1, 1) := by decide +kernel
theorem dX7_warmest_52 : decode cX7_warmest 52 = .ok (.iastore, 1) := by decide +kernel
theorem dX7_warmest_53 : decode cX7_warmest 53 = .ok (.aload_n 0, 1) := by decide +kernel
theorem dX7_warmest_54 : decode cX7_warmest 54 = .ok (.sipush 500, 3) := by decide +kernel
theorem dX7_warmest_57 : decode cX7_warmest 57 = .ok (.invokevirtual 157, 3) := by decide +kernel
theorem dX7_warmest_60 : decode cX7_warmest 60 = .ok (.ifCond .le 9, 3) := by decide +kernel
theorem dX7_warmest_63 : decode cX7_warmest 63 = .ok (.iload_n 1, 1) := by decide +kernel
theorem dX7_warmest_64 : decode cX7_warmest 64 = .ok (.sipush 1000, 3) := by decide +kernel
theorem dX7_warmest_67 : decode cX7_warmest 67 = .ok (.iadd, 1) := by decide +kernel
theorem dX7_warmest_68 : decode cX7_warmest 68 = .ok (.ireturn, 1) := by decide +kernel
theorem dX7_warmest_69 : decode cX7_warmest 69 = .ok (.iinc 1 (-1), 3) := by decide +kernel
theorem dX7_warmest_72 : decode cX7_warmest 72 = .ok (.goto (-50), 3) := by decide +kernel
theorem dX7_warmest_75 : decode cX7_warmest 75 = .ok (.bipush (-5), 2) := by decide +kernel
theorem dX7_warmest_77 : decode cX7_warmest 77 = .ok (.ireturn, 1) := by decide +kernel
set_option maxRecDepth 20000 in
theorem ggX7_event_X7_in : GoodIn wsX7_event wsX7_in := goodIn_r _ [5] (by decide +kernel) (by decide +kernel)
set_option maxRecDepth 20000 in
theorem gX7_event_X7_in : GoodIn wsX7_event (va_wsS RX7 44 yX7_in wsX7_in) := goodIn_app (goodIn_of _ (by decide +kernel)) ggX7_event_X7_in
theorem dX7_event_0 : decode cX7_event 0 = .ok (.iload_n 1, 1) := by decide +kernel
theorem dX7_event_1 : decode cX7_event 1 = .ok (.ifCond .lt 12, 3) := by decide +kernel
theorem dX7_event_4 : decode cX7_event 4 = .ok (.iload_n 2, 1) := by decide +kernel
theorem dX7_event_5 : decode cX7_event 5 = .ok (.iconst 0, 1) := by decide +kernel
theorem dX7_event_6 : decode cX7_event 6 = .ok (.iconst 2, 1) := by decide +kernel
theorem dX7_event_7 : decode cX7_event 7 = .ok (.invokestatic 44, 3) := by decide +kernel
theorem dX7_event_10 : decode cX7_event 10 = .ok (.ifCond .ne 6, 3) := by decide +kernel
theorem dX7_event_13 : decode cX7_event 13 = .ok (.bipush (-2), 2) := by decide +kernel
theorem dX7_event_15 : decode cX7_event 15 = .ok (.ireturn, 1) := by decide +kernel
theorem dX7_event_16 : decode cX7_event 16 = .ok (.iload_n 1, 1) := by decide +kernel
theorem dX7_event_17 : decode cX7_event 17 = .ok (.aload_n 0, 1) := by decide +kernel
theorem dX7_event_18 : decode cX7_event 18 = .ok (.getfield 7, 3) := by decide +kernel
theorem dX7_event_21 : decode cX7_event 21 = .ok (.bipush 81, 2) := by decide +kernel
theorem dX7_event_23 : decode cX7_event 23 = .ok (.iaload, 1) := by decide +kernel
theorem dX7_event_24 : decode cX7_event 24 = .ok (.if_icmp .ge 29, 3) := by decide +kernel
theorem dX7_event_27 : decode cX7_event 27 = .ok (.aload_n 0, 1) := by decide +kernel
theorem dX7_event_28 : decode cX7_event 28 = .ok (.getfield 7, 3) := by decide +kernel
theorem dX7_event_31 : decode cX7_event 31 = .ok (.bipush 82, 2) := by decide +kernel
theorem dX7_event_33 : decode cX7_event 33 = .ok (.iconst 3, 1) := by decide +kernel
theorem dX7_event_34 : decode cX7_event 34 = .ok (.aload_n 0, 1) := by decide +kernel
theorem dX7_event_35 : decode cX7_event 35 = .ok (.getfield 7, 3) := by decide +kernel
theorem dX7_event_38 : decode cX7_event 38 = .ok (.bipush 81, 2) := by decide +kernel
theorem dX7_event_40 : decode cX7_event 40 = .ok (.iaload, 1) := by decide +kernel
theorem dX7_event_41 : decode cX7_event 41 = .ok (.iconst 1, 1) := by decide +kernel
theorem dX7_event_42 : decode cX7_event 42 = .ok (.isub, 1) := by decide +kernel
theorem dX7_event_43 : decode cX7_event 43 = .ok (.iload_n 1, 1) := by decide +kernel
theorem dX7_event_44 : decode cX7_event 44 = .ok (.isub, 1) := by decide +kernel
theorem dX7_event_45 : decode cX7_event 45 = .ok (.imul, 1) := by decide +kernel
theorem dX7_event_46 : decode cX7_event 46 = .ok (.iadd, 1) := by decide +kernel
theorem dX7_event_47 : decode cX7_event 47 = .ok (.iload_n 2, 1) := by decide +kernel
theorem dX7_event_48 : decode cX7_event 48 = .ok (.iadd, 1) := by decide +kernel
theorem dX7_event_49 : decode cX7_event 49 = .ok (.iaload, 1) := by decide +kernel
theorem dX7_event_50 : decode cX7_event 50 = .ok (.goto 5, 3) := by decide +kernel
theorem dX7_event_53 : decode cX7_event 53 = .ok (.bipush (-5), 2) := by decide +kernel
theorem dX7_event_55 : decode cX7_event 55 = .ok (.ireturn, 1) := by decide +kernel
set_option maxRecDepth 20000 in
theorem ggX7_count_X7_charged : GoodIn wsX7_count wsX7_charged := goodIn_r _ [7, 8, 9, 6, 10] (by decide +kernel) (by decide +kernel)
set_option maxRecDepth 20000 in
theorem gX7_count_X7_charged : GoodIn wsX7_count (va_wsS RX7 111 yX7_charged wsX7_charged) := goodIn_app (goodIn_of _ (by decide +kernel)) ggX7_count_X7_charged
set_option maxRecDepth 20000 in
theorem ggX7_count_X7_isOut : GoodIn wsX7_count wsX7_isOut := goodIn_r _ [13, 14, 15, 6, 16] (by decide +kernel) (by decide +kernel)
set_option maxRecDepth 20000 in
theorem gX7_count_X7_isOut : GoodIn wsX7_count (va_wsS RX7 97 yX7_isOut wsX7_isOut) := goodIn_app (goodIn_of _ (by decide +kernel)) ggX7_count_X7_isOut
theorem dX7_count_0 : decode cX7_count 0 = .ok (.iload_n 1, 1) := by decide +kernel
theorem dX7_count_1 : decode cX7_count 1 = .ok (.tableswitch 230 0 13 #[71, 79, 87, 95, 103, 127, 150, 158, 158, 177, 204, 212, 220, 225], 71) := by decide +kernel
theorem dX7_count_72 : decode cX7_count 72 = .ok (.aload_n 0, 1) := by decide +kernel
theorem dX7_count_73 : decode cX7_count 73 = .ok (.getfield 7, 3) := by decide +kernel
theorem dX7_count_76 : decode cX7_count 76 = .ok (.bipush 76, 2) := by decide +kernel
theorem dX7_count_78 : decode cX7_count 78 = .ok (.iaload, 1) := by decide +kernel
theorem dX7_count_79 : decode cX7_count 79 = .ok (.ireturn, 1) := by decide +kernel
theorem dX7_count_80 : decode cX7_count 80 = .ok (.aload_n 0, 1) := by decide +kernel
theorem dX7_count_81 : decode cX7_count 81 = .ok (.getfield 7, 3) := by decide +kernel
theorem dX7_count_84 : decode cX7_count 84 = .ok (.bipush 71, 2) := by decide +kernel
theorem dX7_count_86 : decode cX7_count 86 = .ok (.iaload, 1) := by decide +kernel
theorem dX7_count_87 : decode cX7_count 87 = .ok (.ireturn, 1) := by decide +kernel
theorem dX7_count_88 : decode cX7_count 88 = .ok (.aload_n 0, 1) := by decide +kernel
theorem dX7_count_89 : decode cX7_count 89 = .ok (.getfield 7, 3) := by decide +kernel
theorem dX7_count_92 : decode cX7_count 92 = .ok (.bipush 72, 2) := by decide +kernel
theorem dX7_count_94 : decode cX7_count 94 = .ok (.iaload, 1) := by decide +kernel
theorem dX7_count_95 : decode cX7_count 95 = .ok (.ireturn, 1) := by decide +kernel
theorem dX7_count_96 : decode cX7_count 96 = .ok (.aload_n 0, 1) := by decide +kernel
theorem dX7_count_97 : decode cX7_count 97 = .ok (.getfield 7, 3) := by decide +kernel
theorem dX7_count_100 : decode cX7_count 100 = .ok (.bipush 73, 2) := by decide +kernel
theorem dX7_count_102 : decode cX7_count 102 = .ok (.iaload, 1) := by decide +kernel
theorem dX7_count_103 : decode cX7_count 103 = .ok (.ireturn, 1) := by decide +kernel
theorem dX7_count_104 : decode cX7_count 104 = .ok (.aload_n 0, 1) := by decide +kernel
theorem dX7_count_105 : decode cX7_count 105 = .ok (.getfield 7, 3) := by decide +kernel
theorem dX7_count_108 : decode cX7_count 108 = .ok (.bipush 73, 2) := by decide +kernel
theorem dX7_count_110 : decode cX7_count 110 = .ok (.iaload, 1) := by decide +kernel
theorem dX7_count_111 : decode cX7_count 111 = .ok (.iconst 1, 1) := by decide +kernel
theorem dX7_count_112 : decode cX7_count 112 = .ok (.if_icmp .ne 13, 3) := by decide +kernel
theorem dX7_count_115 : decode cX7_count 115 = .ok (.aload_n 0, 1) := by decide +kernel
theorem dX7_count_116 : decode cX7_count 116 = .ok (.getfield 7, 3) := by decide +kernel
theorem dX7_count_119 : decode cX7_count 119 = .ok (.bipush 74, 2) := by decide +kernel
theorem dX7_count_121 : decode cX7_count 121 = .ok (.iaload, 1) := by decide +kernel
theorem dX7_count_122 : decode cX7_count 122 = .ok (.goto 5, 3) := by decide +kernel
theorem dX7_count_125 : decode cX7_count 125 = .ok (.bipush (-5), 2) := by decide +kernel
theorem dX7_count_127 : decode cX7_count 127 = .ok (.ireturn, 1) := by decide +kernel
theorem dX7_count_128 : decode cX7_count 128 = .ok (.aload_n 0, 1) := by decide +kernel
theorem dX7_count_129 : decode cX7_count 129 = .ok (.getfield 7, 3) := by decide +kernel
theorem dX7_count_132 : decode cX7_count 132 = .ok (.bipush 73, 2) := by decide +kernel
theorem dX7_count_134 : decode cX7_count 134 = .ok (.iaload, 1) := by decide +kernel
theorem dX7_count_135 : decode cX7_count 135 = .ok (.iconst 1, 1) := by decide +kernel
theorem dX7_count_136 : decode cX7_count 136 = .ok (.if_icmp .ne 13, 3) := by decide +kernel
theorem dX7_count_139 : decode cX7_count 139 = .ok (.aload_n 0, 1) := by decide +kernel
theorem dX7_count_140 : decode cX7_count 140 = .ok (.getfield 7, 3) := by decide +kernel
theorem dX7_count_143 : decode cX7_count 143 = .ok (.bipush 75, 2) := by decide +kernel
theorem dX7_count_145 : decode cX7_count 145 = .ok (.iaload, 1) := by decide +kernel
theorem dX7_count_146 : decode cX7_count 146 = .ok (.goto 4, 3) := by decide +kernel
theorem dX7_count_149 : decode cX7_count 149 = .ok (.iconst 0, 1) := by decide +kernel
theorem dX7_count_150 : decode cX7_count 150 = .ok (.ireturn, 1) := by decide +kernel
theorem dX7_count_151 : decode cX7_count 151 = .ok (.aload_n 0, 1) := by decide +kernel
theorem dX7_count_152 : decode cX7_count 152 = .ok (.getfield 7, 3) := by decide +kernel
theorem dX7_count_155 : decode cX7_count 155 = .ok (.bipush 77, 2) := by decide +kernel
theorem dX7_count_157 : decode cX7_count 157 = .ok (.iaload, 1) := by decide +kernel
theorem dX7_count_158 : decode cX7_count 158 = .ok (.ireturn, 1) := by decide +kernel
theorem dX7_count_159 : decode cX7_count 159 = .ok (.aload_n 0, 1) := by decide +kernel
theorem dX7_count_160 : decode cX7_count 160 = .ok (.getfield 7, 3) := by decide +kernel
theorem dX7_count_163 : decode cX7_count 163 = .ok (.iload_n 1, 1) := by decide +kernel
theorem dX7_count_164 : decode cX7_count 164 = .ok (.bipush 8, 2) := by decide +kernel
theorem dX7_count_166 : decode cX7_count 166 = .ok (.if_icmp .ne 7, 3) := by decide +kernel
theorem dX7_count_169 : decode cX7_count 169 = .ok (.iconst 1, 1) := by decide +kernel
theorem dX7_count_170 : decode cX7_count 170 = .ok (.goto 4, 3) := by decide +kernel
theorem dX7_count_173 : decode cX7_count 173 = .ok (.iconst 0, 1) := by decide +kernel
theorem dX7_count_174 : decode cX7_count 174 = .ok (.invokestatic 111, 3) := by decide +kernel
theorem dX7_count_177 : decode cX7_count 177 = .ok (.ireturn, 1) := by decide +kernel
theorem dX7_count_178 : decode cX7_count 178 = .ok (.aload_n 0, 1) := by decide +kernel
theorem dX7_count_179 : decode cX7_count 179 = .ok (.getfield 7, 3) := by decide +kernel
theorem dX7_count_182 : decode cX7_count 182 = .ok (.bipush 73, 2) := by decide +kernel
theorem dX7_count_184 : decode cX7_count 184 = .ok (.iaload, 1) := by decide +kernel
theorem dX7_count_185 : decode cX7_count 185 = .ok (.iconst 1, 1) := by decide +kernel
theorem dX7_count_186 : decode cX7_count 186 = .ok (.if_icmp .ne 17, 3) := by decide +kernel
theorem dX7_count_189 : decode cX7_count 189 = .ok (.aload_n 0, 1) := by decide +kernel
theorem dX7_count_190 : decode cX7_count 190 = .ok (.getfield 7, 3) := by decide +kernel
theorem dX7_count_193 : decode cX7_count 193 = .ok (.invokestatic 97, 3) := by decide +kernel
theorem dX7_count_196 : decode cX7_count 196 = .ok (.ifCond .eq 7, 3) := by decide +kernel
theorem dX7_count_199 : decode cX7_count 199 = .ok (.iconst 1, 1) := by decide +kernel
theorem dX7_count_200 : decode cX7_count 200 = .ok (.goto 4, 3) := by decide +kernel
theorem dX7_count_203 : decode cX7_count 203 = .ok (.iconst 0, 1) := by decide +kernel
theorem dX7_count_204 : decode cX7_count 204 = .ok (.ireturn, 1) := by decide +kernel
theorem dX7_count_205 : decode cX7_count 205 = .ok (.aload_n 0, 1) := by decide +kernel
theorem dX7_count_206 : decode cX7_count 206 = .ok (.getfield 7, 3) := by decide +kernel
theorem dX7_count_209 : decode cX7_count 209 = .ok (.bipush 78, 2) := by decide +kernel
theorem dX7_count_211 : decode cX7_count 211 = .ok (.iaload, 1) := by decide +kernel
theorem dX7_count_212 : decode cX7_count 212 = .ok (.ireturn, 1) := by decide +kernel
theorem dX7_count_213 : decode cX7_count 213 = .ok (.aload_n 0, 1) := by decide +kernel
theorem dX7_count_214 : decode cX7_count 214 = .ok (.getfield 7, 3) := by decide +kernel
theorem dX7_count_217 : decode cX7_count 217 = .ok (.bipush 79, 2) := by decide +kernel
theorem dX7_count_219 : decode cX7_count 219 = .ok (.iaload, 1) := by decide +kernel
theorem dX7_count_220 : decode cX7_count 220 = .ok (.ireturn, 1) := by decide +kernel
theorem dX7_count_221 : decode cX7_count 221 = .ok (.aload_n 0, 1) := by decide +kernel
theorem dX7_count_222 : decode cX7_count 222 = .ok (.getfield 29, 3) := by decide +kernel
theorem dX7_count_225 : decode cX7_count 225 = .ok (.ireturn, 1) := by decide +kernel
theorem dX7_count_226 : decode cX7_count 226 = .ok (.aload_n 0, 1) := by decide +kernel
theorem dX7_count_227 : decode cX7_count 227 = .ok (.getfield 126, 3) := by decide +kernel
theorem dX7_count_230 : decode cX7_count 230 = .ok (.ireturn, 1) := by decide +kernel
theorem dX7_count_231 : decode cX7_count 231 = .ok (.bipush (-2), 2) := by decide +kernel
theorem dX7_count_233 : decode cX7_count 233 = .ok (.ireturn, 1) := by decide +kernel
theorem dJ9_floorMod_7cf53_0 : decode cJ9_floorMod_7cf53 0 = .ok (.iload_n 0, 1) := by decide +kernel
theorem dJ9_floorMod_7cf53_1 : decode cJ9_floorMod_7cf53 1 = .ok (.iload_n 1, 1) := by decide +kernel
theorem dJ9_floorMod_7cf53_2 : decode cJ9_floorMod_7cf53 2 = .ok (.irem, 1) := by decide +kernel
theorem dJ9_floorMod_7cf53_3 : decode cJ9_floorMod_7cf53 3 = .ok (.istore_n 2, 1) := by decide +kernel
theorem dJ9_floorMod_7cf53_4 : decode cJ9_floorMod_7cf53 4 = .ok (.iload_n 0, 1) := by decide +kernel
theorem dJ9_floorMod_7cf53_5 : decode cJ9_floorMod_7cf53 5 = .ok (.iload_n 1, 1) := by decide +kernel
theorem dJ9_floorMod_7cf53_6 : decode cJ9_floorMod_7cf53 6 = .ok (.ixor, 1) := by decide +kernel
theorem dJ9_floorMod_7cf53_7 : decode cJ9_floorMod_7cf53 7 = .ok (.ifCond .ge 11, 3) := by decide +kernel
theorem dJ9_floorMod_7cf53_10 : decode cJ9_floorMod_7cf53 10 = .ok (.iload_n 2, 1) := by decide +kernel
theorem dJ9_floorMod_7cf53_11 : decode cJ9_floorMod_7cf53 11 = .ok (.ifCond .eq 7, 3) := by decide +kernel
theorem dJ9_floorMod_7cf53_14 : decode cJ9_floorMod_7cf53 14 = .ok (.iload_n 2, 1) := by decide +kernel
theorem dJ9_floorMod_7cf53_15 : decode cJ9_floorMod_7cf53 15 = .ok (.iload_n 1, 1) := by decide +kernel
theorem dJ9_floorMod_7cf53_16 : decode cJ9_floorMod_7cf53 16 = .ok (.iadd, 1) := by decide +kernel
theorem dJ9_floorMod_7cf53_17 : decode cJ9_floorMod_7cf53 17 = .ok (.ireturn, 1) := by decide +kernel
theorem dJ9_floorMod_7cf53_18 : decode cJ9_floorMod_7cf53 18 = .ok (.iload_n 2, 1) := by decide +kernel
theorem dJ9_floorMod_7cf53_19 : decode cJ9_floorMod_7cf53 19 = .ok (.ireturn, 1) := by decide +kernel
theorem dJ9_max_7cf53_0 : decode cJ9_max_7cf53 0 = .ok (.iload_n 0, 1) := by decide +kernel
theorem dJ9_max_7cf53_1 : decode cJ9_max_7cf53 1 = .ok (.iload_n 1, 1) := by decide +kernel
theorem dJ9_max_7cf53_2 : decode cJ9_max_7cf53 2 = .ok (.if_icmp .lt 7, 3) := by decide +kernel
theorem dJ9_max_7cf53_5 : decode cJ9_max_7cf53 5 = .ok (.iload_n 0, 1) := by decide +kernel
theorem dJ9_max_7cf53_6 : decode cJ9_max_7cf53 6 = .ok (.goto 4, 3) := by decide +kernel
theorem dJ9_max_7cf53_9 : decode cJ9_max_7cf53 9 = .ok (.iload_n 1, 1) := by decide +kernel
theorem dJ9_max_7cf53_10 : decode cJ9_max_7cf53 10 = .ok (.ireturn, 1) := by decide +kernel
theorem dJ9_min_7cf53_0 : decode cJ9_min_7cf53 0 = .ok (.iload_n 0, 1) := by decide +kernel
theorem dJ9_min_7cf53_1 : decode cJ9_min_7cf53 1 = .ok (.iload_n 1, 1) := by decide +kernel
theorem dJ9_min_7cf53_2 : decode cJ9_min_7cf53 2 = .ok (.if_icmp .gt 7, 3) := by decide +kernel
theorem dJ9_min_7cf53_5 : decode cJ9_min_7cf53 5 = .ok (.iload_n 0, 1) := by decide +kernel
theorem dJ9_min_7cf53_6 : decode cJ9_min_7cf53 6 = .ok (.goto 4, 3) := by decide +kernel
theorem dJ9_min_7cf53_9 : decode cJ9_min_7cf53 9 = .ok (.iload_n 1, 1) := by decide +kernel
theorem dJ9_min_7cf53_10 : decode cJ9_min_7cf53 10 = .ok (.ireturn, 1) := by decide +kernel
