theorem dX6_count_169 : decode cX6_count 169 = .ok (.getfield 50, 3) := by decide +kernel
theorem dX6_count_172 : decode cX6_count 172 = .ok (.invokevirtual 85, 3) := by decide +kernel
theorem dX6_count_175 : decode cX6_count 175 = .ok (.ireturn, 1) := by decide +kernel
theorem dX6_count_176 : decode cX6_count 176 = .ok (.aload_n 0, 1) := by decide +kernel
theorem dX6_count_177 : decode cX6_count 177 = .ok (.getfield 10, 3) := by decide +kernel
theorem dX6_count_180 : decode cX6_count 180 = .ok (.getfield 50, 3) := by decide +kernel
theorem dX6_count_183 : decode cX6_count 183 = .ok (.invokevirtual 229, 3) := by decide +kernel
theorem dX6_count_186 : decode cX6_count 186 = .ok (.ireturn, 1) := by decide +kernel
theorem dX6_count_187 : decode cX6_count 187 = .ok (.aload_n 0, 1) := by decide +kernel
theorem dX6_count_188 : decode cX6_count 188 = .ok (.getfield 10, 3) := by decide +kernel
theorem dX6_count_191 : decode cX6_count 191 = .ok (.invokevirtual 189, 3) := by decide +kernel
theorem dX6_count_194 : decode cX6_count 194 = .ok (.ifCond .eq 7, 3) := by decide +kernel
theorem dX6_count_197 : decode cX6_count 197 = .ok (.iconst 1, 1) := by decide +kernel
theorem dX6_count_198 : decode cX6_count 198 = .ok (.goto 4, 3) := by decide +kernel
theorem dX6_count_201 : decode cX6_count 201 = .ok (.iconst 0, 1) := by decide +kernel
theorem dX6_count_202 : decode cX6_count 202 = .ok (.ireturn, 1) := by decide +kernel
theorem dX6_count_203 : decode cX6_count 203 = .ok (.aload_n 0, 1) := by decide +kernel
theorem dX6_count_204 : decode cX6_count 204 = .ok (.getfield 10, 3) := by decide +kernel
theorem dX6_count_207 : decode cX6_count 207 = .ok (.getfield 232, 3) := by decide +kernel
theorem dX6_count_210 : decode cX6_count 210 = .ok (.ireturn, 1) := by decide +kernel
theorem dX6_count_211 : decode cX6_count 211 = .ok (.aload_n 0, 1) := by decide +kernel
theorem dX6_count_212 : decode cX6_count 212 = .ok (.getfield 10, 3) := by decide +kernel
theorem dX6_count_215 : decode cX6_count 215 = .ok (.getfield 235, 3) := by decide +kernel
theorem dX6_count_218 : decode cX6_count 218 = .ok (.ireturn, 1) := by decide +kernel
theorem dX6_count_219 : decode cX6_count 219 = .ok (.aload_n 0, 1) := by decide +kernel
theorem dX6_count_220 : decode cX6_count 220 = .ok (.getfield 29, 3) := by decide +kernel
theorem dX6_count_223 : decode cX6_count 223 = .ok (.getfield 142, 3) := by decide +kernel
theorem dX6_count_226 : decode cX6_count 226 = .ok (.ireturn, 1) := by decide +kernel
theorem dX6_count_227 : decode cX6_count 227 = .ok (.aload_n 0, 1) := by decide +kernel
theorem dX6_count_228 : decode cX6_count 228 = .ok (.getfield 36, 3) := by decide +kernel
theorem dX6_count_231 : decode cX6_count 231 = .ok (.getfield 136, 3) := by decide +kernel
theorem dX6_count_234 : decode cX6_count 234 = .ok (.ireturn, 1) := by decide +kernel
theorem dX6_count_235 : decode cX6_count 235 = .ok (.bipush (-2), 2) := by decide +kernel
theorem dX6_count_237 : decode cX6_count 237 = .ok (.ireturn, 1) := by decide +kernel
theorem dX6_isSetting_0 : decode cX6_isSetting 0 = .ok (.iload_n 0, 1) := by decide +kernel
theorem dX6_isSetting_1 : decode cX6_isSetting 1 = .ok (.ifCond .lt 13, 3) := by decide +kernel
theorem dX6_isSetting_4 : decode cX6_isSetting 4 = .ok (.iload_n 0, 1) := by decide +kernel
theorem dX6_isSetting_5 : decode cX6_isSetting 5 = .ok (.bipush 9, 2) := by decide +kernel
theorem dX6_isSetting_7 : decode cX6_isSetting 7 = .ok (.if_icmp .ge 7, 3) := by decide +kernel
theorem dX6_isSetting_10 : decode cX6_isSetting 10 = .ok (.iconst 1, 1) := by decide +kernel
theorem dX6_isSetting_11 : decode cX6_isSetting 11 = .ok (.goto 4, 3) := by decide +kernel
theorem dX6_isSetting_14 : decode cX6_isSetting 14 = .ok (.iconst 0, 1) := by decide +kernel
theorem dX6_isSetting_15 : decode cX6_isSetting 15 = .ok (.ireturn, 1) := by decide +kernel
theorem dX6_isIn_0 : decode cX6_isIn 0 = .ok (.iload_n 0, 1) := by decide +kernel
theorem dX6_isIn_1 : decode cX6_isIn 1 = .ok (.iload_n 1, 1) := by decide +kernel
theorem dX6_isIn_2 : decode cX6_isIn 2 = .ok (.if_icmp .lt 12, 3) := by decide +kernel
theorem dX6_isIn_5 : decode cX6_isIn 5 = .ok (.iload_n 0, 1) := by decide +kernel
theorem dX6_isIn_6 : decode cX6_isIn 6 = .ok (.iload_n 2, 1) := by decide +kernel
theorem dX6_isIn_7 : decode cX6_isIn 7 = .ok (.if_icmp .gt 7, 3) := by decide +kernel
theorem dX6_isIn_10 : decode cX6_isIn 10 = .ok (.iconst 1, 1) := by decide +kernel
theorem dX6_isIn_11 : decode cX6_isIn 11 = .ok (.goto 4, 3) := by decide +kernel
theorem dX6_isIn_14 : decode cX6_isIn 14 = .ok (.iconst 0, 1) := by decide +kernel
theorem dX6_isIn_15 : decode cX6_isIn 15 = .ok (.ireturn, 1) := by decide +kernel
theorem dX6_baseVoltage_0 : decode cX6_baseVoltage 0 = .ok (.iload_n 1, 1) := by decide +kernel
theorem dX6_baseVoltage_1 : decode cX6_baseVoltage 1 = .ok (.ifCond .le 17, 3) := by decide +kernel
theorem dX6_baseVoltage_4 : decode cX6_baseVoltage 4 = .ok (.sipush 3000, 3) := by decide +kernel
theorem dX6_baseVoltage_7 : decode cX6_baseVoltage 7 = .ok (.sipush 1200, 3) := by decide +kernel
theorem dX6_baseVoltage_10 : decode cX6_baseVoltage 10 = .ok (.iload_n 0, 1) := by decide +kernel
theorem dX6_baseVoltage_11 : decode cX6_baseVoltage 11 = .ok (.imul, 1) := by decide +kernel
theorem dX6_baseVoltage_12 : decode cX6_baseVoltage 12 = .ok (.iload_n 1, 1) := by decide +kernel
theorem dX6_baseVoltage_13 : decode cX6_baseVoltage 13 = .ok (.idiv, 1) := by decide +kernel
theorem dX6_baseVoltage_14 : decode cX6_baseVoltage 14 = .ok (.iadd, 1) := by decide +kernel
theorem dX6_baseVoltage_15 : decode cX6_baseVoltage 15 = .ok (.goto 6, 3) := by decide +kernel
theorem dX6_baseVoltage_18 : decode cX6_baseVoltage 18 = .ok (.sipush 3000, 3) := by decide +kernel
theorem dX6_baseVoltage_21 : decode cX6_baseVoltage 21 = .ok (.ireturn, 1) := by decide +kernel
theorem dX7_init_0 : decode cX7_init 0 = .ok (.aload_n 0, 1) := by decide +kernel
theorem dX7_init_1 : decode cX7_init 1 = .ok (.invokespecial 1, 3) := by decide +kernel
theorem dX7_init_4 : decode cX7_init 4 = .ok (.aload_n 0, 1) := by decide +kernel
theorem dX7_init_5 : decode cX7_init 5 = .ok (.bipush 112, 2) := by decide +kernel
theorem dX7_init_7 : decode cX7_init 7 = .ok (.newarray .int, 2) := by decide +kernel
theorem dX7_init_9 : decode cX7_init 9 = .ok (.putfield 7, 3) := by decide +kernel
theorem dX7_init_12 : decode cX7_init 12 = .ok (.aload_n 0, 1) := by decide +kernel
theorem dX7_init_13 : decode cX7_init 13 = .ok (.bipush 112, 2) := by decide +kernel
theorem dX7_init_15 : decode cX7_init 15 = .ok (.newarray .int, 2) := by decide +kernel
theorem dX7_init_17 : decode cX7_init 17 = .ok (.putfield 13, 3) := by decide +kernel
theorem dX7_init_20 : decode cX7_init 20 = .ok (.aload_n 0, 1) := by decide +kernel
theorem dX7_init_21 : decode cX7_init 21 = .ok (.sipush 448, 3) := by decide +kernel
theorem dX7_init_24 : decode cX7_init 24 = .ok (.newarray .int, 2) := by decide +kernel
theorem dX7_init_26 : decode cX7_init 26 = .ok (.putfield 16, 3) := by decide +kernel
theorem dX7_init_29 : decode cX7_init 29 = .ok (.aload_n 0, 1) := by decide +kernel
theorem dX7_init_30 : decode cX7_init 30 = .ok (.bipush 112, 2) := by decide +kernel
theorem dX7_init_32 : decode cX7_init 32 = .ok (.newarray .int, 2) := by decide +kernel
theorem dX7_init_34 : decode cX7_init 34 = .ok (.putfield 19, 3) := by decide +kernel
theorem dX7_init_37 : decode cX7_init 37 = .ok (.aload_n 0, 1) := by decide +kernel
theorem dX7_init_38 : decode cX7_init 38 = .ok (.bipush 60, 2) := by decide +kernel
theorem dX7_init_40 : decode cX7_init 40 = .ok (.newarray .char, 2) := by decide +kernel
theorem dX7_init_42 : decode cX7_init 42 = .ok (.putfield 22, 3) := by decide +kernel
theorem dX7_init_45 : decode cX7_init 45 = .ok (.aload_n 0, 1) := by decide +kernel
theorem dX7_init_46 : decode cX7_init 46 = .ok (.bipush 20, 2) := by decide +kernel
theorem dX7_init_48 : decode cX7_init 48 = .ok (.newarray .int, 2) := by decide +kernel
theorem dX7_init_50 : decode cX7_init 50 = .ok (.putfield 26, 3) := by decide +kernel
theorem dX7_init_53 : decode cX7_init 53 = .ok (.aload_n 0, 1) := by decide +kernel
theorem dX7_init_54 : decode cX7_init 54 = .ok (.getfield 7, 3) := by decide +kernel
theorem dX7_init_57 : decode cX7_init 57 = .ok (.bipush 71, 2) := by decide +kernel
theorem dX7_init_59 : decode cX7_init 59 = .ok (.iconst 3, 1) := by decide +kernel
theorem dX7_init_60 : decode cX7_init 60 = .ok (.iastore, 1) := by decide +kernel
theorem dX7_init_61 : decode cX7_init 61 = .ok (.aload_n 0, 1) := by decide +kernel
theorem dX7_init_62 : decode cX7_init 62 = .ok (.getfield 7, 3) := by decide +kernel
theorem dX7_init_65 : decode cX7_init 65 = .ok (.bipush 42, 2) := by decide +kernel
theorem dX7_init_67 : decode cX7_init 67 = .ok (.sipush 1000, 3) := by decide +kernel
theorem dX7_init_70 : decode cX7_init 70 = .ok (.iastore, 1) := by decide +kernel
theorem dX7_init_71 : decode cX7_init 71 = .ok (.aload_n 0, 1) := by decide +kernel
theorem dX7_init_72 : decode cX7_init 72 = .ok (.getfield 7, 3) := by decide +kernel
theorem dX7_init_75 : decode cX7_init 75 = .ok (.bipush 43, 2) := by decide +kernel
theorem dX7_init_77 : decode cX7_init 77 = .ok (.bipush 100, 2) := by decide +kernel
theorem dX7_init_79 : decode cX7_init 79 = .ok (.iastore, 1) := by decide +kernel
theorem dX7_init_80 : decode cX7_init 80 = .ok (.aload_n 0, 1) := by decide +kernel
theorem dX7_init_81 : decode cX7_init 81 = .ok (.getfield 7, 3) := by decide +kernel
theorem dX7_init_84 : decode cX7_init 84 = .ok (.bipush 44, 2) := by decide +kernel
theorem dX7_init_86 : decode cX7_init 86 = .ok (.bipush 90, 2) := by decide +kernel
theorem dX7_init_88 : decode cX7_init 88 = .ok (.iastore, 1) := by decide +kernel
theorem dX7_init_89 : decode cX7_init 89 = .ok (.aload_n 0, 1) := by decide +kernel
theorem dX7_init_90 : decode cX7_init 90 = .ok (.getfield 7, 3) := by decide +kernel
theorem dX7_init_93 : decode cX7_init 93 = .ok (.bipush 45, 2) := by decide +kernel
theorem dX7_init_95 : decode cX7_init 95 = .ok (.bipush 25, 2) := by decide +kernel
theorem dX7_init_97 : decode cX7_init 97 = .ok (.iastore, 1) := by decide +kernel
theorem dX7_init_98 : decode cX7_init 98 = .ok (.aload_n 0, 1) := by decide +kernel
theorem dX7_init_99 : decode cX7_init 99 = .ok (.getfield 7, 3) := by decide +kernel
theorem dX7_init_102 : decode cX7_init 102 = .ok (.bipush 46, 2) := by decide +kernel
theorem dX7_init_104 : decode cX7_init 104 = .ok (.iconst 3, 1) := by decide +kernel
theorem dX7_init_105 : decode cX7_init 105 = .ok (.iastore, 1) := by decide +kernel
theorem dX7_init_106 : decode cX7_init 106 = .ok (.aload_n 0, 1) := by decide +kernel
theorem dX7_init_107 : decode cX7_init 107 = .ok (.getfield 7, 3) := by decide +kernel
theorem dX7_init_110 : decode cX7_init 110 = .ok (.bipush 48, 2) := by decide +kernel
theorem dX7_init_112 : decode cX7_init 112 = .ok (.bipush 45, 2) := by decide +kernel
theorem dX7_init_114 : decode cX7_init 114 = .ok (.iastore, 1) := by decide +kernel
theorem dX7_init_115 : decode cX7_init 115 = .ok (.aload_n 0, 1) := by decide +kernel
theorem dX7_init_116 : decode cX7_init 116 = .ok (.getfield 7, 3) := by decide +kernel
theorem dX7_init_119 : decode cX7_init 119 = .ok (.bipush 49, 2) := by decide +kernel
theorem dX7_init_121 : decode cX7_init 121 = .ok (.bipush 20, 2) := by decide +kernel
theorem dX7_init_123 : decode cX7_init 123 = .ok (.iastore, 1) := by decide +kernel
theorem dX7_init_124 : decode cX7_init 124 = .ok (.return_, 1) := by decide +kernel
theorem dX7_in_0 : decode cX7_in 0 = .ok (.iload_n 0, 1) := by decide +kernel
theorem dX7_in_1 : decode cX7_in 1 = .ok (.iload_n 1, 1) := by decide +kernel
theorem dX7_in_2 : decode cX7_in 2 = .ok (.if_icmp .lt 12, 3) := by decide +kernel
theorem dX7_in_5 : decode cX7_in 5 = .ok (.iload_n 0, 1) := by decide +kernel
theorem dX7_in_6 : decode cX7_in 6 = .ok (.iload_n 2, 1) := by decide +kernel
theorem dX7_in_7 : decode cX7_in 7 = .ok (.if_icmp .gt 7, 3) := by decide +kernel
theorem dX7_in_10 : decode cX7_in 10 = .ok (.iconst 1, 1) := by decide +kernel
theorem dX7_in_11 : decode cX7_in 11 = .ok (.goto 4, 3) := by decide +kernel
theorem dX7_in_14 : decode cX7_in 14 = .ok (.iconst 0, 1) := by decide +kernel
theorem dX7_in_15 : decode cX7_in 15 = .ok (.ireturn, 1) := by decide +kernel
theorem dX7_copies_0 : decode cX7_copies 0 = .ok (.iconst 0, 1) := by decide +kernel
theorem dX7_copies_1 : decode cX7_copies 1 = .ok (.istore_n 3, 1) := by decide +kernel
theorem dX7_copies_2 : decode cX7_copies 2 = .ok (.iload_n 3, 1) := by decide +kernel
theorem dX7_copies_3 : decode cX7_copies 3 = .ok (.bipush 112, 2) := by decide +kernel
theorem dX7_copies_5 : decode cX7_copies 5 = .ok (.if_icmp .ge 17, 3) := by decide +kernel
theorem dX7_copies_8 : decode cX7_copies 8 = .ok (.aload_n 1, 1) := by decide +kernel
theorem dX7_copies_9 : decode cX7_copies 9 = .ok (.iload_n 2, 1) := by decide +kernel
theorem dX7_copies_10 : decode cX7_copies 10 = .ok (.iload_n 3, 1) := by decide +kernel
theorem dX7_copies_11 : decode cX7_copies 11 = .ok (.iadd, 1) := by decide +kernel
theorem dX7_copies_12 : decode cX7_copies 12 = .ok (.aload_n 0, 1) := by decide +kernel
theorem dX7_copies_13 : decode cX7_copies 13 = .ok (.iload_n 3, 1) := by decide +kernel
theorem dX7_copies_14 : decode cX7_copies 14 = .ok (.iaload, 1) := by decide +kernel
theorem dX7_copies_15 : decode cX7_copies 15 = .ok (.iastore, 1) := by decide +kernel
theorem dX7_copies_16 : decode cX7_copies 16 = .ok (.iinc 3 1, 3) := by decide +kernel
theorem dX7_copies_19 : decode cX7_copies 19 = .ok (.goto (-17), 3) := by decide +kernel
theorem dX7_copies_22 : decode cX7_copies 22 = .ok (.return_, 1) := by decide +kernel
set_option maxRecDepth 20000 in
theorem ggX7_records_X7_copies : GoodIn wsX7_records wsX7_copies := goodIn_r _ [7] (by decide +kernel) (by decide +kernel)
set_option maxRecDepth 20000 in
theorem gX7_records_X7_copies : GoodIn wsX7_records (va_wsS RX7 33 yX7_copies wsX7_copies) := goodIn_app (goodIn_of _ (by decide +kernel)) ggX7_records_X7_copies
theorem dX7_records_0 : decode cX7_records 0 = .ok (.aload_n 0, 1) := by decide +kernel
theorem dX7_records_1 : decode cX7_records 1 = .ok (.getfield 29, 3) := by decide +kernel
theorem dX7_records_4 : decode cX7_records 4 = .ok (.iconst 4, 1) := by decide +kernel
theorem dX7_records_5 : decode cX7_records 5 = .ok (.if_icmp .ne 43, 3) := by decide +kernel
theorem dX7_records_8 : decode cX7_records 8 = .ok (.iconst 0, 1) := by decide +kernel
theorem dX7_records_9 : decode cX7_records 9 = .ok (.istore_n 1, 1) := by decide +kernel
theorem dX7_records_10 : decode cX7_records 10 = .ok (.iload_n 1, 1) := by decide +kernel
theorem dX7_records_11 : decode cX7_records 11 = .ok (.sipush 336, 3) := by decide +kernel
theorem dX7_records_14 : decode cX7_records 14 = .ok (.if_icmp .ge 24, 3) := by decide +kernel
theorem dX7_records_17 : decode cX7_records 17 = .ok (.aload_n 0, 1) := by decide +kernel
theorem dX7_records_18 : decode cX7_records 18 = .ok (.getfield 16, 3) := by decide +kernel
theorem dX7_records_21 : decode cX7_records 21 = .ok (.iload_n 1, 1) := by decide +kernel
theorem dX7_records_22 : decode cX7_records 22 = .ok (.aload_n 0, 1) := by decide +kernel
theorem dX7_records_23 : decode cX7_records 23 = .ok (.getfield 16, 3) := by decide +kernel
theorem dX7_records_26 : decode cX7_records 26 = .ok (.iload_n 1, 1) := by decide +kernel
theorem dX7_records_27 : decode cX7_records 27 = .ok (.bipush 112, 2) := by decide +kernel
theorem dX7_records_29 : decode cX7_records 29 = .ok (.iadd, 1) := by decide +kernel
theorem dX7_records_30 : decode cX7_records 30 = .ok (.iaload, 1) := by decide +kernel
theorem dX7_records_31 : decode cX7_records 31 = .ok (.iastore, 1) := by decide +kernel
theorem dX7_records_32 : decode cX7_records 32 = .ok (.iinc 1 1, 3) := by decide +kernel
theorem dX7_records_35 : decode cX7_records 35 = .ok (.goto (-25), 3) := by decide +kernel
theorem dX7_records_38 : decode cX7_records 38 = .ok (.aload_n 0, 1) := by decide +kernel
theorem dX7_records_39 : decode cX7_records 39 = .ok (.dup, 1) := by decide +kernel
theorem dX7_records_40 : decode cX7_records 40 = .ok (.getfield 29, 3) := by decide +kernel
theorem dX7_records_43 : decode cX7_records 43 = .ok (.iconst 1, 1) := by decide +kernel
theorem dX7_records_44 : decode cX7_records 44 = .ok (.isub, 1) := by decide +kernel
theorem dX7_records_45 : decode cX7_records 45 = .ok (.putfield 29, 3) := by decide +kernel
theorem dX7_records_48 : decode cX7_records 48 = .ok (.aload_n 0, 1) := by decide +kernel
theorem dX7_records_49 : decode cX7_records 49 = .ok (.getfield 7, 3) := by decide +kernel
theorem dX7_records_52 : decode cX7_records 52 = .ok (.aload_n 0, 1) := by decide +kernel
theorem dX7_records_53 : decode cX7_records 53 = .ok (.getfield 16, 3) := by decide +kernel
theorem dX7_records_56 : decode cX7_records 56 = .ok (.bipush 112, 2) := by decide +kernel
theorem dX7_records_58 : decode cX7_records 58 = .ok (.aload_n 0, 1) := by decide +kernel
theorem dX7_records_59 : decode cX7_records 59 = .ok (.getfield 29, 3) := by decide +kernel
theorem dX7_records_62 : decode cX7_records 62 = .ok (.imul, 1) := by decide +kernel
theorem dX7_records_63 : decode cX7_records 63 = .ok (.invokestatic 33, 3) := by decide +kernel
theorem dX7_records_66 : decode cX7_records 66 = .ok (.aload_n 0, 1) := by decide +kernel
theorem dX7_records_67 : decode cX7_records 67 = .ok (.dup, 1) := by decide +kernel
theorem dX7_records_68 : decode cX7_records 68 = .ok (.getfield 29, 3) := by decide +kernel
theorem dX7_records_71 : decode cX7_records 71 = .ok (.iconst 1, 1) := by decide +kernel
theorem dX7_records_72 : decode cX7_records 72 = .ok (.iadd, 1) := by decide +kernel
theorem dX7_records_73 : decode cX7_records 73 = .ok (.putfield 29, 3) := by decide +kernel
theorem dX7_records_76 : decode cX7_records 76 = .ok (.return_, 1) := by decide +kernel
theorem dX7_undo_0 : decode cX7_undo 0 = .ok (.aload_n 0, 1) := by decide +kernel
theorem dX7_undo_1 : decode cX7_undo 1 = .ok (.getfield 29, 3) := by decide +kernel
theorem dX7_undo_4 : decode cX7_undo 4 = .ok (.ifCond .ne 6, 3) := by decide +kernel
theorem dX7_undo_7 : decode cX7_undo 7 = .ok (.bipush (-5), 2) := by decide +kernel
theorem dX7_undo_9 : decode cX7_undo 9 = .ok (.ireturn, 1) := by decide +kernel
theorem dX7_undo_10 : decode cX7_undo 10 = .ok (.aload_n 0, 1) := by decide +kernel
theorem dX7_undo_11 : decode cX7_undo 11 = .ok (.dup, 1) := by decide +kernel
theorem dX7_undo_12 : decode cX7_undo 12 = .ok (.getfield 29, 3) := by decide +kernel
theorem dX7_undo_15 : decode cX7_undo 15 = .ok (.iconst 1, 1) := by decide +kernel
theorem dX7_undo_16 : decode cX7_undo 16 = .ok (.isub, 1) := by decide +kernel
theorem dX7_undo_17 : decode cX7_undo 17 = .ok (.putfield 29, 3) := by decide +kernel
theorem dX7_undo_20 : decode cX7_undo 20 = .ok (.iconst 0, 1) := by decide +kernel
theorem dX7_undo_21 : decode cX7_undo 21 = .ok (.istore_n 1, 1) := by decide +kernel
theorem dX7_undo_22 : decode cX7_undo 22 = .ok (.iload_n 1, 1) := by decide +kernel
theorem dX7_undo_23 : decode cX7_undo 23 = .ok (.bipush 112, 2) := by decide +kernel
theorem dX7_undo_25 : decode cX7_undo 25 = .ok (.if_icmp .ge 29, 3) := by decide +kernel
theorem dX7_undo_28 : decode cX7_undo 28 = .ok (.aload_n 0, 1) := by decide +kernel
theorem dX7_undo_29 : decode cX7_undo 29 = .ok (.getfield 7, 3) := by decide +kernel
theorem dX7_undo_32 : decode cX7_undo 32 = .ok (.iload_n 1, 1) := by decide +kernel
theorem dX7_undo_33 : decode cX7_undo 33 = .ok (.aload_n 0, 1) := by decide +kernel
theorem dX7_undo_34 : decode cX7_undo 34 = .ok (.getfield 16, 3) := by decide +kernel
theorem dX7_undo_37 : decode cX7_undo 37 = .ok (.bipush 112, 2) := by decide +kernel
theorem dX7_undo_39 : decode cX7_undo 39 = .ok (.aload_n 0, 1) := by decide +kernel
theorem dX7_undo_40 : decode cX7_undo 40 = .ok (.getfield 29, 3) := by decide +kernel
theorem dX7_undo_43 : decode cX7_undo 43 = .ok (.imul, 1) := by decide +kernel
theorem dX7_undo_44 : decode cX7_undo 44 = .ok (.iload_n 1, 1) := by decide +kernel
theorem dX7_undo_45 : decode cX7_undo 45 = .ok (.iadd, 1) := by decide +kernel
theorem dX7_undo_46 : decode cX7_undo 46 = .ok (.iaload, 1) := by decide +kernel
theorem dX7_undo_47 : decode cX7_undo 47 = .ok (.iastore, 1) := by decide +kernel
theorem dX7_undo_48 : decode cX7_undo 48 = .ok (.iinc 1 1, 3) := by decide +kernel
theorem dX7_undo_51 : decode cX7_undo 51 = .ok (.goto (-29), 3) := by decide +kernel
theorem dX7_undo_54 : decode cX7_undo 54 = .ok (.aload_n 0, 1) := by decide +kernel
theorem dX7_undo_55 : decode cX7_undo 55 = .ok (.getfield 29, 3) := by decide +kernel
theorem dX7_undo_58 : decode cX7_undo 58 = .ok (.ireturn, 1) := by decide +kernel
set_option maxRecDepth 20000 in
theorem ggX7_keep_X7_copies : GoodIn wsX7_keep wsX7_copies := goodIn_r _ [7] (by decide +kernel) (by decide +kernel)
set_option maxRecDepth 20000 in
theorem gX7_keep_X7_copies : GoodIn wsX7_keep (va_wsS RX7 33 yX7_copies wsX7_copies) := goodIn_app (goodIn_of _ (by decide +kernel)) ggX7_keep_X7_copies
theorem dX7_keep_0 : decode cX7_keep 0 = .ok (.aload_n 0, 1) := by decide +kernel
theorem dX7_keep_1 : decode cX7_keep 1 = .ok (.getfield 7, 3) := by decide +kernel
theorem dX7_keep_4 : decode cX7_keep 4 = .ok (.aload_n 0, 1) := by decide +kernel
theorem dX7_keep_5 : decode cX7_keep 5 = .ok (.getfield 19, 3) := by decide +kernel
theorem dX7_keep_8 : decode cX7_keep 8 = .ok (.iconst 0, 1) := by decide +kernel
theorem dX7_keep_9 : decode cX7_keep 9 = .ok (.invokestatic 33, 3) := by decide +kernel
theorem dX7_keep_12 : decode cX7_keep 12 = .ok (.aload_n 0, 1) := by decide +kernel
theorem dX7_keep_13 : decode cX7_keep 13 = .ok (.iconst 1, 1) := by decide +kernel
theorem dX7_keep_14 : decode cX7_keep 14 = .ok (.putfield 37, 3) := by decide +kernel
theorem dX7_keep_17 : decode cX7_keep 17 = .ok (.aload_n 0, 1) := by decide +kernel
theorem dX7_keep_18 : decode cX7_keep 18 = .ok (.getfield 7, 3) := by decide +kernel
theorem dX7_keep_21 : decode cX7_keep 21 = .ok (.bipush 76, 2) := by decide +kernel
theorem dX7_keep_23 : decode cX7_keep 23 = .ok (.iaload, 1) := by decide +kernel
theorem dX7_keep_24 : decode cX7_keep 24 = .ok (.ireturn, 1) := by decide +kernel
set_option maxRecDepth 20000 in
theorem ggX7_restore_X7_records : GoodIn wsX7_restore wsX7_records := goodIn_r _ [8, 9, 10, 3, 11, 12, 7, 13, 14, 15, 16, 17, 18, 19, 20, 21, 22, 23, 24, 25] (by decide +kernel) (by decide +kernel)
set_option maxRecDepth 20000 in
theorem gX7_restore_X7_records : GoodIn wsX7_restore (wsV RX7 41 RX7 yX7_records wsX7_records) := goodIn_app (goodIn_of _ (by decide +kernel)) ggX7_restore_X7_records
set_option maxRecDepth 20000 in
theorem ggX7_restore_X7_copies : GoodIn wsX7_restore wsX7_copies := goodIn_r _ [13] (by decide +kernel) (by decide +kernel)
set_option maxRecDepth 20000 in
theorem gX7_restore_X7_copies : GoodIn wsX7_restore (va_wsS RX7 33 yX7_copies wsX7_copies) := goodIn_app (goodIn_of _ (by decide +kernel)) ggX7_restore_X7_copies
theorem dX7_restore_0 : decode cX7_restore 0 = .ok (.aload_n 0, 1) := by decide +kernel
theorem dX7_restore_1 : decode cX7_restore 1 = .ok (.getfield 37, 3) := by decide +kernel
theorem dX7_restore_4 : decode cX7_restore 4 = .ok (.ifCond .ne 6, 3) := by decide +kernel
theorem dX7_restore_7 : decode cX7_restore 7 = .ok (.bipush (-5), 2) := by decide +kernel
theorem dX7_restore_9 : decode cX7_restore 9 = .ok (.ireturn, 1) := by decide +kernel
theorem dX7_restore_10 : decode cX7_restore 10 = .ok (.aload_n 0, 1) := by decide +kernel
theorem dX7_restore_11 : decode cX7_restore 11 = .ok (.invokevirtual 41, 3) := by decide +kernel
theorem dX7_restore_14 : decode cX7_restore 14 = .ok (.aload_n 0, 1) := by decide +kernel
theorem dX7_restore_15 : decode cX7_restore 15 = .ok (.getfield 19, 3) := by decide +kernel
theorem dX7_restore_18 : decode cX7_restore 18 = .ok (.aload_n 0, 1) := by decide +kernel
theorem dX7_restore_19 : decode cX7_restore 19 = .ok (.getfield 7, 3) := by decide +kernel
theorem dX7_restore_22 : decode cX7_restore 22 = .ok (.iconst 0, 1) := by decide +kernel
theorem dX7_restore_23 : decode cX7_restore 23 = .ok (.invokestatic 33, 3) := by decide +kernel
theorem dX7_restore_26 : decode cX7_restore 26 = .ok (.aload_n 0, 1) := by decide +kernel
theorem dX7_restore_27 : decode cX7_restore 27 = .ok (.getfield 7, 3) := by decide +kernel
theorem dX7_restore_30 : decode cX7_restore 30 = .ok (.bipush 76, 2) := by decide +kernel
theorem dX7_restore_32 : decode cX7_restore 32 = .ok (.iaload, 1) := by decide +kernel
theorem dX7_restore_33 : decode cX7_restore 33 = .ok (.ireturn, 1) := by decide +kernel
set_option maxRecDepth 20000 in
theorem ggX7_isCell_X7_in : GoodIn wsX7_isCell wsX7_in := goodIn_r _ [5] (by decide +kernel) (by decide +kernel)
set_option maxRecDepth 20000 in
theorem gX7_isCell_X7_in : GoodIn wsX7_isCell (va_wsS RX7 44 yX7_in wsX7_in) := goodIn_app (goodIn_of _ (by decide +kernel)) ggX7_isCell_X7_in
theorem dX7_isCell_0 : decode cX7_isCell 0 = .ok (.iload_n 1, 1) := by decide +kernel
theorem dX7_isCell_1 : decode cX7_isCell 1 = .ok (.iconst 0, 1) := by decide +kernel
theorem dX7_isCell_2 : decode cX7_isCell 2 = .ok (.aload_n 0, 1) := by decide +kernel
theorem dX7_isCell_3 : decode cX7_isCell 3 = .ok (.getfield 7, 3) := by decide +kernel
theorem dX7_isCell_6 : decode cX7_isCell 6 = .ok (.bipush 71, 2) := by decide +kernel
theorem dX7_isCell_8 : decode cX7_isCell 8 = .ok (.iaload, 1) := by decide +kernel
theorem dX7_isCell_9 : decode cX7_isCell 9 = .ok (.iconst 1, 1) := by decide +kernel
theorem dX7_isCell_10 : decode cX7_isCell 10 = .ok (.isub, 1) := by decide +kernel
theorem dX7_isCell_11 : decode cX7_isCell 11 = .ok (.invokestatic 44, 3) := by decide +kernel
theorem dX7_isCell_14 : decode cX7_isCell 14 = .ok (.ireturn, 1) := by decide +kernel
theorem dX7_of_0 : decode cX7_of 0 = .ok (.aload_n 0, 1) := by decide +kernel
theorem dX7_of_1 : decode cX7_of 1 = .ok (.bipush 7, 2) := by decide +kernel
theorem dX7_of_3 : decode cX7_of 3 = .ok (.iload_n 1, 1) := by decide +kernel
theorem dX7_of_4 : decode cX7_of 4 = .ok (.imul, 1) := by decide +kernel
theorem dX7_of_5 : decode cX7_of 5 = .ok (.iload_n 2, 1) := by decide +kernel
theorem dX7_of_6 : decode cX7_of 6 = .ok (.iadd, 1) := by decide +kernel
theorem dX7_of_7 : decode cX7_of 7 = .ok (.iaload, 1) := by decide +kernel
theorem dX7_of_8 : decode cX7_of 8 = .ok (.ireturn, 1) := by decide +kernel
set_option maxRecDepth 20000 in
theorem ggX7_base_X7_of : GoodIn wsX7_base wsX7_of := goodIn_r _ [4] (by decide +kernel) (by decide +kernel)
set_option maxRecDepth 20000 in
theorem gX7_base_X7_of : GoodIn wsX7_base (va_wsS RX7 48 yX7_of wsX7_of) := goodIn_app (goodIn_of _ (by decide +kernel)) ggX7_base_X7_of
theorem dX7_base_0 : decode cX7_base 0 = .ok (.sipush 3000, 3) := by decide +kernel
theorem dX7_base_3 : decode cX7_base 3 = .ok (.sipush 1200, 3) := by decide +kernel
theorem dX7_base_6 : decode cX7_base 6 = .ok (.aload_n 0, 1) := by decide +kernel
theorem dX7_base_7 : decode cX7_base 7 = .ok (.iload_n 1, 1) := by decide +kernel
theorem dX7_base_8 : decode cX7_base 8 = .ok (.iconst 0, 1) := by decide +kernel
theorem dX7_base_9 : decode cX7_base 9 = .ok (.invokestatic 48, 3) := by decide +kernel
theorem dX7_base_12 : decode cX7_base 12 = .ok (.imul, 1) := by decide +kernel
theorem dX7_base_13 : decode cX7_base 13 = .ok (.aload_n 0, 1) := by decide +kernel
theorem dX7_base_14 : decode cX7_base 14 = .ok (.bipush 42, 2) := by decide +kernel
theorem dX7_base_16 : decode cX7_base 16 = .ok (.iaload, 1) := by decide +kernel
theorem dX7_base_17 : decode cX7_base 17 = .ok (.idiv, 1) := by decide +kernel
theorem dX7_base_18 : decode cX7_base 18 = .ok (.iadd, 1) := by decide +kernel
theorem dX7_base_19 : decode cX7_base 19 = .ok (.ireturn, 1) := by decide +kernel
set_option maxRecDepth 20000 in
theorem ggX7_highest_X7_base : GoodIn wsX7_highest wsX7_base := goodIn_r _ [4, 5, 6, 3, 7] (by decide +kernel) (by decide +kernel)
set_option maxRecDepth 20000 in
theorem gX7_highest_X7_base : GoodIn wsX7_highest (va_wsS RX7 52 yX7_base wsX7_base) := goodIn_app (goodIn_of _ (by decide +kernel)) ggX7_highest_X7_base
theorem dX7_highest_0 : decode cX7_highest 0 = .ok (.iconst 0, 1) := by decide +kernel
theorem dX7_highest_1 : decode cX7_highest 1 = .ok (.istore_n 1, 1) := by decide +kernel
theorem dX7_highest_2 : decode cX7_highest 2 = .ok (.iconst 0, 1) := by decide +kernel
theorem dX7_highest_3 : decode cX7_highest 3 = .ok (.istore_n 2, 1) := by decide +kernel
theorem dX7_highest_4 : decode cX7_highest 4 = .ok (.iload_n 2, 1) := by decide +kernel
theorem dX7_highest_5 : decode cX7_highest 5 = .ok (.aload_n 0, 1) := by decide +kernel
theorem dX7_highest_6 : decode cX7_highest 6 = .ok (.bipush 71, 2) := by decide +kernel
theorem dX7_highest_8 : decode cX7_highest 8 = .ok (.iaload, 1) := by decide +kernel
theorem dX7_highest_9 : decode cX7_highest 9 = .ok (.if_icmp .ge 28, 3) := by decide +kernel
theorem dX7_highest_12 : decode cX7_highest 12 = .ok (.aload_n 0, 1) := by decide +kernel
theorem dX7_highest_13 : decode cX7_highest 13 = .ok (.iload_n 2, 1) := by decide +kernel
theorem dX7_highest_14 : decode cX7_highest 14 = .ok (.invokestatic 52, 3) := by decide +kernel
theorem dX7_highest_17 : decode cX7_highest 17 = .ok (.iload_n 1, 1) := by decide +kernel
theorem dX7_highest_18 : decode cX7_highest 18 = .ok (.if_icmp .le 11, 3) := by decide +kernel
theorem dX7_highest_21 : decode cX7_highest 21 = .ok (.aload_n 0, 1) := by decide +kernel
theorem dX7_highest_22 : decode cX7_highest 22 = .ok (.iload_n 2, 1) := by decide +kernel
theorem dX7_highest_23 : decode cX7_highest 23 = .ok (.invokestatic 52, 3) := by decide +kernel
theorem dX7_highest_26 : decode cX7_highest 26 = .ok (.goto 4, 3) := by decide +kernel
theorem dX7_highest_29 : decode cX7_highest 29 = .ok (.iload_n 1, 1) := by decide +kernel
theorem dX7_highest_30 : decode cX7_highest 30 = .ok (.istore_n 1, 1) := by decide +kernel
theorem dX7_highest_31 : decode cX7_highest 31 = .ok (.iinc 2 1, 3) := by decide +kernel
theorem dX7_highest_34 : decode cX7_highest 34 = .ok (.goto (-30), 3) := by decide +kernel
theorem dX7_highest_37 : decode cX7_highest 37 = .ok (.iload_n 1, 1) := by decide +kernel
theorem dX7_highest_38 : decode cX7_highest 38 = .ok (.ireturn, 1) := by decide +kernel
set_option maxRecDepth 20000 in
theorem ggX7_lowest_X7_base : GoodIn wsX7_lowest wsX7_base := goodIn_r _ [4, 5, 6, 3, 7] (by decide +kernel) (by decide +kernel)
set_option maxRecDepth 20000 in
theorem gX7_lowest_X7_base : GoodIn wsX7_lowest (va_wsS RX7 52 yX7_base wsX7_base) := goodIn_app (goodIn_of _ (by decide +kernel)) ggX7_lowest_X7_base
theorem dX7_lowest_0 : decode cX7_lowest 0 = .ok (.aload_n 0, 1) := by decide +kernel
theorem dX7_lowest_1 : decode cX7_lowest 1 = .ok (.iconst 0, 1) := by decide +kernel
theorem dX7_lowest_2 : decode cX7_lowest 2 = .ok (.invokestatic 52, 3) := by decide +kernel
theorem dX7_lowest_5 : decode cX7_lowest 5 = .ok (.istore_n 1, 1) := by decide +kernel
theorem dX7_lowest_6 : decode cX7_lowest 6 = .ok (.iconst 1, 1) := by decide +kernel
theorem dX7_lowest_7 : decode cX7_lowest 7 = .ok (.istore_n 2, 1) := by decide +kernel
theorem dX7_lowest_8 : decode cX7_lowest 8 = .ok (.iload_n 2, 1) := by decide +kernel
theorem dX7_lowest_9 : decode cX7_lowest 9 = .ok (.aload_n 0, 1) := by decide +kernel
theorem dX7_lowest_10 : decode cX7_lowest 10 = .ok (.bipush 71, 2) := by decide +kernel
theorem dX7_lowest_12 : decode cX7_lowest 12 = .ok (.iaload, 1) := by decide +kernel
theorem dX7_lowest_13 : decode cX7_lowest 13 = .ok (.if_icmp .ge 28, 3) := by decide +kernel
theorem dX7_lowest_16 : decode cX7_lowest 16 = .ok (.aload_n 0, 1) := by decide +kernel
theorem dX7_lowest_17 : decode cX7_lowest 17 = .ok (.iload_n 2, 1) := by decide +kernel
theorem dX7_lowest_18 : decode cX7_lowest 18 = .ok (.invokestatic 52, 3) := by decide +kernel
theorem dX7_lowest_21 : decode cX7_lowest 21 = .ok (.iload_n 1, 1) := by decide +kernel
theorem dX7_lowest_22 : decode cX7_lowest 22 = .ok (.if_icmp .ge 11, 3) := by decide +kernel
theorem dX7_lowest_25 : decode cX7_lowest 25 = .ok (.aload_n 0, 1) := by decide +kernel
theorem dX7_lowest_26 : decode cX7_lowest 26 = .ok (.iload_n 2, 1) := by decide +kernel
theorem dX7_lowest_27 : decode cX7_lowest 27 = .ok (.invokestatic 52, 3) := by decide +kernel
theorem dX7_lowest_30 : decode cX7_lowest 30 = .ok (.goto 4, 3) := by decide +kernel
theorem dX7_lowest_33 : decode cX7_lowest 33 = .ok (.iload_n 1, 1) := by decide +kernel
theorem dX7_lowest_34 : decode cX7_lowest 34 = .ok (.istore_n 1, 1) := by decide +kernel
theorem dX7_lowest_35 : decode cX7_lowest 35 = .ok (.iinc 2 1, 3) := by decide +kernel
theorem dX7_lowest_38 : decode cX7_lowest 38 = .ok (.goto (-30), 3) := by decide +kernel
theorem dX7_lowest_41 : decode cX7_lowest 41 = .ok (.iload_n 1, 1) := by decide +kernel
theorem dX7_lowest_42 : decode cX7_lowest 42 = .ok (.ireturn, 1) := by decide +kernel
theorem dX7_more_0 : decode cX7_more 0 = .ok (.iload_n 1, 1) := by decide +kernel
theorem dX7_more_1 : decode cX7_more 1 = .ok (.aload_n 0, 1) := by decide +kernel
theorem dX7_more_2 : decode cX7_more 2 = .ok (.bipush 43, 2) := by decide +kernel
theorem dX7_more_4 : decode cX7_more 4 = .ok (.iaload, 1) := by decide +kernel
theorem dX7_more_5 : decode cX7_more 5 = .ok (.imul, 1) := by decide +kernel
theorem dX7_more_6 : decode cX7_more 6 = .ok (.sipush 1000, 3) := by decide +kernel
theorem dX7_more_9 : decode cX7_more 9 = .ok (.idiv, 1) := by decide +kernel
theorem dX7_more_10 : decode cX7_more 10 = .ok (.ireturn, 1) := by decide +kernel
set_option maxRecDepth 20000 in
theorem ggX7_charged_X7_of : GoodIn wsX7_charged wsX7_of := goodIn_r _ [4] (by decide +kernel) (by decide +kernel)
set_option maxRecDepth 20000 in
theorem gX7_charged_X7_of : GoodIn wsX7_charged (va_wsS RX7 48 yX7_of wsX7_of) := goodIn_app (goodIn_of _ (by decide +kernel)) ggX7_charged_X7_of
theorem dX7_charged_0 : decode cX7_charged 0 = .ok (.aload_n 0, 1) := by decide +kernel
theorem dX7_charged_1 : decode cX7_charged 1 = .ok (.iconst 0, 1) := by decide +kernel
theorem dX7_charged_2 : decode cX7_charged 2 = .ok (.iconst 0, 1) := by decide +kernel
theorem dX7_charged_3 : decode cX7_charged 3 = .ok (.invokestatic 48, 3) := by decide +kernel
theorem dX7_charged_6 : decode cX7_charged 6 = .ok (.istore_n 2, 1) := by decide +kernel
theorem dX7_charged_7 : decode cX7_charged 7 = .ok (.iconst 1, 1) := by decide +kernel
theorem dX7_charged_8 : decode cX7_charged 8 = .ok (.istore_n 3, 1) := by decide +kernel
theorem dX7_charged_9 : decode cX7_charged 9 = .ok (.iload_n 3, 1) := by decide +kernel
theorem dX7_charged_10 : decode cX7_charged 10 = .ok (.aload_n 0, 1) := by decide +kernel
theorem dX7_charged_11 : decode cX7_charged 11 = .ok (.bipush 71, 2) := by decide +kernel
theorem dX7_charged_13 : decode cX7_charged 13 = .ok (.iaload, 1) := by decide +kernel
theorem dX7_charged_14 : decode cX7_charged 14 = .ok (.if_icmp .ge 43, 3) := by decide +kernel
theorem dX7_charged_17 : decode cX7_charged 17 = .ok (.aload_n 0, 1) := by decide +kernel
theorem dX7_charged_18 : decode cX7_charged 18 = .ok (.iload_n 3, 1) := by decide +kernel
theorem dX7_charged_19 : decode cX7_charged 19 = .ok (.iconst 0, 1) := by decide +kernel
theorem dX7_charged_20 : decode cX7_charged 20 = .ok (.invokestatic 48, 3) := by decide +kernel
theorem dX7_charged_23 : decode cX7_charged 23 = .ok (.istore 4, 2) := by decide +kernel
theorem dX7_charged_25 : decode cX7_charged 25 = .ok (.iload_n 1, 1) := by decide +kernel
theorem dX7_charged_26 : decode cX7_charged 26 = .ok (.ifCond .eq 12, 3) := by decide +kernel
theorem dX7_charged_29 : decode cX7_charged 29 = .ok (.iload 4, 2) := by decide +kernel
theorem dX7_charged_31 : decode cX7_charged 31 = .ok (.iload_n 2, 1) := by decide +kernel
theorem dX7_charged_32 : decode cX7_charged 32 = .ok (.if_icmp .le 17, 3) := by decide +kernel
theorem dX7_charged_35 : decode cX7_charged 35 = .ok (.goto 9, 3) := by decide +kernel
theorem dX7_charged_38 : decode cX7_charged 38 = .ok (.iload 4, 2) := by decide +kernel
theorem dX7_charged_40 : decode cX7_charged 40 = .ok (.iload_n 2, 1) := by decide +kernel
theorem dX7_charged_41 : decode cX7_charged 41 = .ok (.if_icmp .ge 8, 3) := by decide +kernel
theorem dX7_charged_44 : decode cX7_charged 44 = .ok (.iload 4, 2) := by decide +kernel
theorem dX7_charged_46 : decode cX7_charged 46 = .ok (.goto 4, 3) := by decide +kernel
theorem dX7_charged_49 : decode cX7_charged 49 = .ok (.iload_n 2, 1) := by decide +kernel
theorem dX7_charged_50 : decode cX7_charged 50 = .ok (.istore_n 2, 1) := by decide +kernel
theorem dX7_charged_51 : decode cX7_charged 51 = .ok (.iinc 3 1, 3) := by decide +kernel
theorem dX7_charged_54 : decode cX7_charged 54 = .ok (.goto (-45), 3) := by decide +kernel
theorem dX7_charged_57 : decode cX7_charged 57 = .ok (.iload_n 2, 1) := by decide +kernel
theorem dX7_charged_58 : decode cX7_charged 58 = .ok (.ireturn, 1) := by decide +kernel
theorem dX7_logs_0 : decode cX7_logs 0 = .ok (.aload_n 0, 1) := by decide +kernel
theorem dX7_logs_1 : decode cX7_logs 1 = .ok (.bipush 81, 2) := by decide +kernel
theorem dX7_logs_3 : decode cX7_logs 3 = .ok (.iaload, 1) := by decide +kernel
theorem dX7_logs_4 : decode cX7_logs 4 = .ok (.bipush 10, 2) := by decide +kernel
theorem dX7_logs_6 : decode cX7_logs 6 = .ok (.if_icmp .ne 34, 3) := by decide +kernel
theorem dX7_logs_9 : decode cX7_logs 9 = .ok (.bipush 82, 2) := by decide +kernel
theorem dX7_logs_11 : decode cX7_logs 11 = .ok (.istore_n 2, 1) := by decide +kernel
theorem dX7_logs_12 : decode cX7_logs 12 = .ok (.iload_n 2, 1) := by decide +kernel
theorem dX7_logs_13 : decode cX7_logs 13 = .ok (.bipush 109, 2) := by decide +kernel
theorem dX7_logs_15 : decode cX7_logs 15 = .ok (.if_icmp .ge 17, 3) := by decide +kernel
theorem dX7_logs_18 : decode cX7_logs 18 = .ok (.aload_n 0, 1) := by decide +kernel
theorem dX7_logs_19 : decode cX7_logs 19 = .ok (.iload_n 2, 1) := by decide +kernel
theorem dX7_logs_20 : decode cX7_logs 20 = .ok (.aload_n 0, 1) := by decide +kernel
theorem dX7_logs_21 : decode cX7_logs 21 = .ok (.iload_n 2, 1) := by decide +kernel
theorem dX7_logs_22 : decode cX7_logs 22 = .ok (.iconst 3, 1) := by decide +kernel
theorem dX7_logs_23 : decode cX7_logs 23 = .ok (.iadd, 1) := by decide +kernel
theorem dX7_logs_24 : decode cX7_logs 24 = .ok (.iaload, 1) := by decide +kernel
theorem dX7_logs_25 : decode cX7_logs 25 = .ok (.iastore, 1) := by decide +kernel
theorem dX7_logs_26 : decode cX7_logs 26 = .ok (.iinc 2 1, 3) := by decide +kernel
theorem dX7_logs_29 : decode cX7_logs 29 = .ok (.goto (-17), 3) := by decide +kernel
theorem dX7_logs_32 : decode cX7_logs 32 = .ok (.aload_n 0, 1) := by decide +kernel
theorem dX7_logs_33 : decode cX7_logs 33 = .ok (.bipush 81, 2) := by decide +kernel
theorem dX7_logs_35 : decode cX7_logs 35 = .ok (.dup2, 1) := by decide +kernel
theorem dX7_logs_36 : decode cX7_logs 36 = .ok (.iaload, 1) := by decide +kernel
theorem dX7_logs_37 : decode cX7_logs 37 = .ok (.iconst 1, 1) := by decide +kernel
theorem dX7_logs_38 : decode cX7_logs 38 = .ok (.isub, 1) := by decide +kernel
theorem dX7_logs_39 : decode cX7_logs 39 = .ok (.iastore, 1) := by decide +kernel
theorem dX7_logs_40 : decode cX7_logs 40 = .ok (.bipush 82, 2) := by decide +kernel
theorem dX7_logs_42 : decode cX7_logs 42 = .ok (.iconst 3, 1) := by decide +kernel
theorem dX7_logs_43 : decode cX7_logs 43 = .ok (.aload_n 0, 1) := by decide +kernel
theorem dX7_logs_44 : decode cX7_logs 44 = .ok (.bipush 81, 2) := by decide +kernel
theorem dX7_logs_46 : decode cX7_logs 46 = .ok (.iaload, 1) := by decide +kernel
theorem dX7_logs_47 : decode cX7_logs 47 = .ok (.imul, 1) := by decide +kernel
theorem dX7_logs_48 : decode cX7_logs 48 = .ok (.iadd, 1) := by decide +kernel
theorem dX7_logs_49 : decode cX7_logs 49 = .ok (.istore_n 2, 1) := by decide +kernel
theorem dX7_logs_50 : decode cX7_logs 50 = .ok (.aload_n 0, 1) := by decide +kernel
theorem dX7_logs_51 : decode cX7_logs 51 = .ok (.iload_n 2, 1) := by decide +kernel
theorem dX7_logs_52 : decode cX7_logs 52 = .ok (.iload_n 1, 1) := by decide +kernel
theorem dX7_logs_53 : decode cX7_logs 53 = .ok (.iastore, 1) := by decide +kernel
theorem dX7_logs_54 : decode cX7_logs 54 = .ok (.aload_n 0, 1) := by decide +kernel
theorem dX7_logs_55 : decode cX7_logs 55 = .ok (.iload_n 2, 1) := by decide +kernel
theorem dX7_logs_56 : decode cX7_logs 56 = .ok (.iconst 1, 1) := by decide +kernel
theorem dX7_logs_57 : decode cX7_logs 57 = .ok (.iadd, 1) := by decide +kernel
theorem dX7_logs_58 : decode cX7_logs 58 = .ok (.aload_n 0, 1) := by decide +kernel
theorem dX7_logs_59 : decode cX7_logs 59 = .ok (.bipush 76, 2) := by decide +kernel
theorem dX7_logs_61 : decode cX7_logs 61 = .ok (.iaload, 1) := by decide +kernel
theorem dX7_logs_62 : decode cX7_logs 62 = .ok (.iastore, 1) := by decide +kernel
theorem dX7_logs_63 : decode cX7_logs 63 = .ok (.aload_n 0, 1) := by decide +kernel
theorem dX7_logs_64 : decode cX7_logs 64 = .ok (.iload_n 2, 1) := by decide +kernel
theorem dX7_logs_65 : decode cX7_logs 65 = .ok (.iconst 2, 1) := by decide +kernel
theorem dX7_logs_66 : decode cX7_logs 66 = .ok (.iadd, 1) := by decide +kernel
theorem dX7_logs_67 : decode cX7_logs 67 = .ok (.aload_n 0, 1) := by decide +kernel
theorem dX7_logs_68 : decode cX7_logs 68 = .ok (.bipush 74, 2) := by decide +kernel
theorem dX7_logs_70 : decode cX7_logs 70 = .ok (.iaload, 1) := by decide +kernel
theorem dX7_logs_71 : decode cX7_logs 71 = .ok (.iastore, 1) := by decide +kernel
theorem dX7_logs_72 : decode cX7_logs 72 = .ok (.aload_n 0, 1) := by decide +kernel
theorem dX7_logs_73 : decode cX7_logs 73 = .ok (.bipush 81, 2) := by decide +kernel
theorem dX7_logs_75 : decode cX7_logs 75 = .ok (.dup2, 1) := by decide +kernel
theorem dX7_logs_76 : decode cX7_logs 76 = .ok (.iaload, 1) := by decide +kernel
theorem dX7_logs_77 : decode cX7_logs 77 = .ok (.iconst 1, 1) := by decide +kernel
theorem dX7_logs_78 : decode cX7_logs 78 = .ok (.iadd, 1) := by decide +kernel
theorem dX7_logs_79 : decode cX7_logs 79 = .ok (.iastore, 1) := by decide +kernel
theorem dX7_logs_80 : decode cX7_logs 80 = .ok (.return_, 1) := by decide +kernel
set_option maxRecDepth 20000 in
theorem ggX7_isOut_X7_in : GoodIn wsX7_isOut wsX7_in := goodIn_r _ [4] (by decide +kernel) (by decide +kernel)
set_option maxRecDepth 20000 in
theorem gX7_isOut_X7_in : GoodIn wsX7_isOut (va_wsS RX7 44 yX7_in wsX7_in) := goodIn_app (goodIn_of _ (by decide +kernel)) ggX7_isOut_X7_in
theorem dX7_isOut_0 : decode cX7_isOut 0 = .ok (.aload_n 0, 1) := by decide +kernel
theorem dX7_isOut_1 : decode cX7_isOut 1 = .ok (.bipush 45, 2) := by decide +kernel
theorem dX7_isOut_3 : decode cX7_isOut 3 = .ok (.iaload, 1) := by decide +kernel
theorem dX7_isOut_4 : decode cX7_isOut 4 = .ok (.aload_n 0, 1) := by decide +kernel
theorem dX7_isOut_5 : decode cX7_isOut 5 = .ok (.bipush 47, 2) := by decide +kernel
theorem dX7_isOut_7 : decode cX7_isOut 7 = .ok (.iaload, 1) := by decide +kernel
theorem dX7_isOut_8 : decode cX7_isOut 8 = .ok (.aload_n 0, 1) := by decide +kernel
theorem dX7_isOut_9 : decode cX7_isOut 9 = .ok (.bipush 48, 2) := by decide +kernel
theorem dX7_isOut_11 : decode cX7_isOut 11 = .ok (.iaload, 1) := by decide +kernel
theorem dX7_isOut_12 : decode cX7_isOut 12 = .ok (.invokestatic 44, 3) := by decide +kernel
theorem dX7_isOut_15 : decode cX7_isOut 15 = .ok (.ifCond .ne 7, 3) := by decide +kernel
theorem dX7_isOut_18 : decode cX7_isOut 18 = .ok (.iconst 1, 1) := by decide +kernel
theorem dX7_isOut_19 : decode cX7_isOut 19 = .ok (.goto 4, 3) := by decide +kernel
theorem dX7_isOut_22 : decode cX7_isOut 22 = .ok (.iconst 0, 1) := by decide +kernel
theorem dX7_isOut_23 : decode cX7_isOut 23 = .ok (.ireturn, 1) := by decide +kernel
theorem dX7_ofStage_0 : decode cX7_ofStage 0 = .ok (.aload_n 0, 1) := by decide +kernel
theorem dX7_ofStage_1 : decode cX7_ofStage 1 = .ok (.bipush 51, 2) := by decide +kernel
theorem dX7_ofStage_3 : decode cX7_ofStage 3 = .ok (.iconst 4, 1) := by decide +kernel
theorem dX7_ofStage_4 : decode cX7_ofStage 4 = .ok (.iload_n 1, 1) := by decide +kernel
theorem dX7_ofStage_5 : decode cX7_ofStage 5 = .ok (.imul, 1) := by decide +kernel
theorem dX7_ofStage_6 : decode cX7_ofStage 6 = .ok (.iadd, 1) := by decide +kernel
theorem dX7_ofStage_7 : decode cX7_ofStage 7 = .ok (.iload_n 2, 1) := by decide +kernel
theorem dX7_ofStage_8 : decode cX7_ofStage 8 = .ok (.iadd, 1) := by decide +kernel
theorem dX7_ofStage_9 : decode cX7_ofStage 9 = .ok (.iaload, 1) := by decide +kernel
theorem dX7_ofStage_10 : decode cX7_ofStage 10 = .ok (.ireturn, 1) := by decide +kernel
set_option maxRecDepth 20000 in
theorem ggX7_limit_X7_ofStage : GoodIn wsX7_limit wsX7_ofStage := goodIn_r _ [4] (by decide +kernel) (by decide +kernel)
set_option maxRecDepth 20000 in
theorem gX7_limit_X7_ofStage : GoodIn wsX7_limit (va_wsS RX7 56 yX7_ofStage wsX7_ofStage) := goodIn_app (goodIn_of _ (by decide +kernel)) ggX7_limit_X7_ofStage
theorem dX7_limit_0 : decode cX7_limit 0 = .ok (.aload_n 0, 1) := by decide +kernel
theorem dX7_limit_1 : decode cX7_limit 1 = .ok (.iload_n 1, 1) := by decide +kernel
theorem dX7_limit_2 : decode cX7_limit 2 = .ok (.aload_n 0, 1) := by decide +kernel
theorem dX7_limit_3 : decode cX7_limit 3 = .ok (.iload_n 1, 1) := by decide +kernel
theorem dX7_limit_4 : decode cX7_limit 4 = .ok (.iconst 0, 1) := by decide +kernel
theorem dX7_limit_5 : decode cX7_limit 5 = .ok (.invokestatic 56, 3) := by decide +kernel
theorem dX7_limit_8 : decode cX7_limit 8 = .ok (.ifCond .ne 7, 3) := by decide +kernel
theorem dX7_limit_11 : decode cX7_limit 11 = .ok (.iconst 2, 1) := by decide +kernel
theorem dX7_limit_12 : decode cX7_limit 12 = .ok (.goto 4, 3) := by decide +kernel
theorem dX7_limit_15 : decode cX7_limit 15 = .ok (.iconst 1, 1) := by decide +kernel
theorem dX7_limit_16 : decode cX7_limit 16 = .ok (.invokestatic 56, 3) := by decide +kernel
theorem dX7_limit_19 : decode cX7_limit 19 = .ok (.istore_n 2, 1) := by decide +kernel
theorem dX7_limit_20 : decode cX7_limit 20 = .ok (.iload_n 2, 1) := by decide +kernel
theorem dX7_limit_21 : decode cX7_limit 21 = .ok (.aload_n 0, 1) := by decide +kernel
theorem dX7_limit_22 : decode cX7_limit 22 = .ok (.bipush 46, 2) := by decide +kernel
theorem dX7_limit_24 : decode cX7_limit 24 = .ok (.iaload, 1) := by decide +kernel
theorem dX7_limit_25 : decode cX7_limit 25 = .ok (.aload_n 0, 1) := by decide +kernel
theorem dX7_limit_26 : decode cX7_limit 26 = .ok (.bipush 45, 2) := by decide +kernel
theorem dX7_limit_28 : decode cX7_limit 28 = .ok (.iaload, 1) := by decide +kernel
theorem dX7_limit_29 : decode cX7_limit 29 = .ok (.bipush 25, 2) := by decide +kernel
theorem dX7_limit_31 : decode cX7_limit 31 = .ok (.isub, 1) := by decide +kernel
theorem dX7_limit_32 : decode cX7_limit 32 = .ok (.imul, 1) := by decide +kernel
theorem dX7_limit_33 : decode cX7_limit 33 = .ok (.isub, 1) := by decide +kernel
theorem dX7_limit_34 : decode cX7_limit 34 = .ok (.ireturn, 1) := by decide +kernel
set_option maxRecDepth 20000 in
theorem ggX7_held_X7_limit : GoodIn wsX7_held wsX7_limit := goodIn_r _ [4, 5, 6, 3, 7] (by decide +kernel) (by decide +kernel)
set_option maxRecDepth 20000 in
theorem gX7_held_X7_limit : GoodIn wsX7_held (va_wsS RX7 59 yX7_limit wsX7_limit) := goodIn_app (goodIn_of _ (by decide +kernel)) ggX7_held_X7_limit
set_option maxRecDepth 20000 in
theorem ggX7_held_X7_highest : GoodIn wsX7_held wsX7_highest := goodIn_r _ [10, 11, 12, 3, 13, 14, 15, 16] (by decide +kernel) (by decide +kernel)
set_option maxRecDepth 20000 in
theorem gX7_held_X7_highest : GoodIn wsX7_held (va_wsS RX7 62 yX7_highest wsX7_highest) := goodIn_app (goodIn_of _ (by decide +kernel)) ggX7_held_X7_highest
theorem dX7_held_0 : decode cX7_held 0 = .ok (.aload_n 0, 1) := by decide +kernel
theorem dX7_held_1 : decode cX7_held 1 = .ok (.aload_n 0, 1) := by decide +kernel
theorem dX7_held_2 : decode cX7_held 2 = .ok (.bipush 74, 2) := by decide +kernel
theorem dX7_held_4 : decode cX7_held 4 = .ok (.iaload, 1) := by decide +kernel
theorem dX7_held_5 : decode cX7_held 5 = .ok (.invokestatic 59, 3) := by decide +kernel
theorem dX7_held_8 : decode cX7_held 8 = .ok (.aload_n 0, 1) := by decide +kernel
theorem dX7_held_9 : decode cX7_held 9 = .ok (.invokestatic 62, 3) := by decide +kernel
theorem dX7_held_12 : decode cX7_held 12 = .ok (.isub, 1) := by decide +kernel
theorem dX7_held_13 : decode cX7_held 13 = .ok (.istore_n 1, 1) := by decide +kernel
theorem dX7_held_14 : decode cX7_held 14 = .ok (.iload_n 1, 1) := by decide +kernel
theorem dX7_held_15 : decode cX7_held 15 = .ok (.ifCond .ge 5, 3) := by decide +kernel
theorem dX7_held_18 : decode cX7_held 18 = .ok (.iconst 0, 1) := by decide +kernel
theorem dX7_held_19 : decode cX7_held 19 = .ok (.ireturn, 1) := by decide +kernel
theorem dX7_held_20 : decode cX7_held 20 = .ok (.aload_n 0, 1) := by decide +kernel
theorem dX7_held_21 : decode cX7_held 21 = .ok (.bipush 43, 2) := by decide +kernel
theorem dX7_held_23 : decode cX7_held 23 = .ok (.iaload, 1) := by decide +kernel
theorem dX7_held_24 : decode cX7_held 24 = .ok (.ifCond .ne 7, 3) := by decide +kernel
theorem dX7_held_27 : decode cX7_held 27 = .ok (.sipush 2000, 3) := by decide +kernel
theorem dX7_held_30 : decode cX7_held 30 = .ok (.ireturn, 1) := by decide +kernel
theorem dX7_held_31 : decode cX7_held 31 = .ok (.sipush 1000, 3) := by decide +kernel
theorem dX7_held_34 : decode cX7_held 34 = .ok (.iload_n 1, 1) := by decide +kernel
theorem dX7_held_35 : decode cX7_held 35 = .ok (.imul, 1) := by decide +kernel
theorem dX7_held_36 : decode cX7_held 36 = .ok (.sipush 999, 3) := by decide +kernel
theorem dX7_held_39 : decode cX7_held 39 = .ok (.iadd, 1) := by decide +kernel
theorem dX7_held_40 : decode cX7_held 40 = .ok (.aload_n 0, 1) := by decide +kernel
theorem dX7_held_41 : decode cX7_held 41 = .ok (.bipush 43, 2) := by decide +kernel
theorem dX7_held_43 : decode cX7_held 43 = .ok (.iaload, 1) := by decide +kernel
theorem dX7_held_44 : decode cX7_held 44 = .ok (.idiv, 1) := by decide +kernel
theorem dX7_held_45 : decode cX7_held 45 = .ok (.istore_n 2, 1) := by decide +kernel
theorem dX7_held_46 : decode cX7_held 46 = .ok (.iload_n 2, 1) := by decide +kernel
theorem dX7_held_47 : decode cX7_held 47 = .ok (.sipush 2000, 3) := by decide +kernel
theorem dX7_held_50 : decode cX7_held 50 = .ok (.if_icmp .le 9, 3) := by decide +kernel
theorem dX7_held_53 : decode cX7_held 53 = .ok (.sipush 2000, 3) := by decide +kernel
theorem dX7_held_56 : decode cX7_held 56 = .ok (.goto 4, 3) := by decide +kernel
theorem dX7_held_59 : decode cX7_held 59 = .ok (.iload_n 2, 1) := by decide +kernel
theorem dX7_held_60 : decode cX7_held 60 = .ok (.ireturn, 1) := by decide +kernel
set_option maxRecDepth 20000 in
theorem ggX7_told_X7_ofStage : GoodIn wsX7_told wsX7_ofStage := goodIn_r _ [4] (by decide +kernel) (by decide +kernel)
set_option maxRecDepth 20000 in
theorem gX7_told_X7_ofStage : GoodIn wsX7_told (va_wsS RX7 56 yX7_ofStage wsX7_ofStage) := goodIn_app (goodIn_of _ (by decide +kernel)) ggX7_told_X7_ofStage
set_option maxRecDepth 20000 in
theorem ggX7_told_X7_held : GoodIn wsX7_told wsX7_held := goodIn_r _ [7, 8, 9, 3, 10, 1, 2, 4, 11, 12, 13, 14, 15, 16, 17, 18, 19] (by decide +kernel) (by decide +kernel)
set_option maxRecDepth 20000 in
theorem gX7_told_X7_held : GoodIn wsX7_told (va_wsS RX7 66 yX7_held wsX7_held) := goodIn_app (goodIn_of _ (by decide +kernel)) ggX7_told_X7_held
theorem dX7_told_0 : decode cX7_told 0 = .ok (.aload_n 0, 1) := by decide +kernel
theorem dX7_told_1 : decode cX7_told 1 = .ok (.aload_n 0, 1) := by decide +kernel
theorem dX7_told_2 : decode cX7_told 2 = .ok (.bipush 74, 2) := by decide +kernel
theorem dX7_told_4 : decode cX7_told 4 = .ok (.iaload, 1) := by decide +kernel
theorem dX7_told_5 : decode cX7_told 5 = .ok (.iconst 0, 1) := by decide +kernel
theorem dX7_told_6 : decode cX7_told 6 = .ok (.invokestatic 56, 3) := by decide +kernel
theorem dX7_told_9 : decode cX7_told 9 = .ok (.istore_n 1, 1) := by decide +kernel
theorem dX7_told_10 : decode cX7_told 10 = .ok (.iload_n 1, 1) := by decide +kernel
theorem dX7_told_11 : decode cX7_told 11 = .ok (.ifCond .ne 15, 3) := by decide +kernel
theorem dX7_told_14 : decode cX7_told 14 = .ok (.aload_n 0, 1) := by decide +kernel
theorem dX7_told_15 : decode cX7_told 15 = .ok (.aload_n 0, 1) := by decide +kernel
theorem dX7_told_16 : decode cX7_told 16 = .ok (.bipush 74, 2) := by decide +kernel
theorem dX7_told_18 : decode cX7_told 18 = .ok (.iaload, 1) := by decide +kernel
theorem dX7_told_19 : decode cX7_told 19 = .ok (.iconst 1, 1) := by decide +kernel
theorem dX7_told_20 : decode cX7_told 20 = .ok (.invokestatic 56, 3) := by decide +kernel
theorem dX7_told_23 : decode cX7_told 23 = .ok (.goto 16, 3) := by decide +kernel
theorem dX7_told_26 : decode cX7_told 26 = .ok (.iload_n 1, 1) := by decide +kernel
theorem dX7_told_27 : decode cX7_told 27 = .ok (.iconst 1, 1) := by decide +kernel
theorem dX7_told_28 : decode cX7_told 28 = .ok (.if_icmp .ne 10, 3) := by decide +kernel
theorem dX7_told_31 : decode cX7_told 31 = .ok (.aload_n 0, 1) := by decide +kernel
theorem dX7_told_32 : decode cX7_told 32 = .ok (.invokestatic 66, 3) := by decide +kernel
theorem dX7_told_35 : decode cX7_told 35 = .ok (.goto 4, 3) := by decide +kernel
theorem dX7_told_38 : decode cX7_told 38 = .ok (.iconst 0, 1) := by decide +kernel
theorem dX7_told_39 : decode cX7_told 39 = .ok (.ireturn, 1) := by decide +kernel
set_option maxRecDepth 20000 in
theorem ggX7_endsAtOnce_X7_ofStage : GoodIn wsX7_endsAtOnce wsX7_ofStage := goodIn_r _ [4] (by decide +kernel) (by decide +kernel)
set_option maxRecDepth 20000 in
theorem gX7_endsAtOnce_X7_ofStage : GoodIn wsX7_endsAtOnce (va_wsS RX7 56 yX7_ofStage wsX7_ofStage) := goodIn_app (goodIn_of _ (by decide +kernel)) ggX7_endsAtOnce_X7_ofStage
theorem dX7_endsAtOnce_0 : decode cX7_endsAtOnce 0 = .ok (.aload_n 0, 1) := by decide +kernel
theorem dX7_endsAtOnce_1 : decode cX7_endsAtOnce 1 = .ok (.aload_n 0, 1) := by decide +kernel
theorem dX7_endsAtOnce_2 : decode cX7_endsAtOnce 2 = .ok (.bipush 74, 2) := by decide +kernel
theorem dX7_endsAtOnce_4 : decode cX7_endsAtOnce 4 = .ok (.iaload, 1) := by decide +kernel
theorem dX7_endsAtOnce_5 : decode cX7_endsAtOnce 5 = .ok (.iconst 0, 1) := by decide +kernel
theorem dX7_endsAtOnce_6 : decode cX7_endsAtOnce 6 = .ok (.invokestatic 56, 3) := by decide +kernel
theorem dX7_endsAtOnce_9 : decode cX7_endsAtOnce 9 = .ok (.iconst 1, 1) := by decide +kernel
theorem dX7_endsAtOnce_10 : decode cX7_endsAtOnce 10 = .ok (.if_icmp .ne 20, 3) := by decide +kernel
theorem dX7_endsAtOnce_13 : decode cX7_endsAtOnce 13 = .ok (.iload_n 1, 1) := by decide +kernel
theorem dX7_endsAtOnce_14 : decode cX7_endsAtOnce 14 = .ok (.aload_n 0, 1) := by decide +kernel
theorem dX7_endsAtOnce_15 : decode cX7_endsAtOnce 15 = .ok (.aload_n 0, 1) := by decide +kernel
theorem dX7_endsAtOnce_16 : decode cX7_endsAtOnce 16 = .ok (.bipush 74, 2) := by decide +kernel
theorem dX7_endsAtOnce_18 : decode cX7_endsAtOnce 18 = .ok (.iaload, 1) := by decide +kernel
theorem dX7_endsAtOnce_19 : decode cX7_endsAtOnce 19 = .ok (.iconst 2, 1) := by decide +kernel
theorem dX7_endsAtOnce_20 : decode cX7_endsAtOnce 20 = .ok (.invokestatic 56, 3) := by decide +kernel
theorem dX7_endsAtOnce_23 : decode cX7_endsAtOnce 23 = .ok (.if_icmp .gt 7, 3) := by decide +kernel
theorem dX7_endsAtOnce_26 : decode cX7_endsAtOnce 26 = .ok (.iconst 1, 1) := by decide +kernel
theorem dX7_endsAtOnce_27 : decode cX7_endsAtOnce 27 = .ok (.goto 4, 3) := by decide +kernel
theorem dX7_endsAtOnce_30 : decode cX7_endsAtOnce 30 = .ok (.iconst 0, 1) := by decide +kernel
theorem dX7_endsAtOnce_31 : decode cX7_endsAtOnce 31 = .ok (.ireturn, 1) := by decide +kernel
theorem dX7_takesIn_0 : decode cX7_takesIn 0 = .ok (.bipush 7, 2) := by decide +kernel
theorem dX7_takesIn_2 : decode cX7_takesIn 2 = .ok (.iload_n 1, 1) := by decide +kernel
theorem dX7_takesIn_3 : decode cX7_takesIn 3 = .ok (.imul, 1) := by decide +kernel
theorem dX7_takesIn_4 : decode cX7_takesIn 4 = .ok (.istore_n 3, 1) := by decide +kernel
theorem dX7_takesIn_5 : decode cX7_takesIn 5 = .ok (.aload_n 0, 1) := by decide +kernel
theorem dX7_takesIn_6 : decode cX7_takesIn 6 = .ok (.iload_n 3, 1) := by decide +kernel
theorem dX7_takesIn_7 : decode cX7_takesIn 7 = .ok (.iconst 2, 1) := by decide +kernel
theorem dX7_takesIn_8 : decode cX7_takesIn 8 = .ok (.iadd, 1) := by decide +kernel
theorem dX7_takesIn_9 : decode cX7_takesIn 9 = .ok (.dup2, 1) := by decide +kernel
theorem dX7_takesIn_10 : decode cX7_takesIn 10 = .ok (.iaload, 1) := by decide +kernel
theorem dX7_takesIn_11 : decode cX7_takesIn 11 = .ok (.iload_n 2, 1) := by decide +kernel
theorem dX7_takesIn_12 : decode cX7_takesIn 12 = .ok (.iadd, 1) := by decide +kernel
theorem dX7_takesIn_13 : decode cX7_takesIn 13 = .ok (.iastore, 1) := by decide +kernel
theorem dX7_takesIn_14 : decode cX7_takesIn 14 = .ok (.aload_n 0, 1) := by decide +kernel
theorem dX7_takesIn_15 : decode cX7_takesIn 15 = .ok (.iload_n 3, 1) := by decide +kernel
theorem dX7_takesIn_16 : decode cX7_takesIn 16 = .ok (.iconst 1, 1) := by decide +kernel
theorem dX7_takesIn_17 : decode cX7_takesIn 17 = .ok (.iadd, 1) := by decide +kernel
theorem dX7_takesIn_18 : decode cX7_takesIn 18 = .ok (.dup2, 1) := by decide +kernel
theorem dX7_takesIn_19 : decode cX7_takesIn 19 = .ok (.iaload, 1) := by decide +kernel
theorem dX7_takesIn_20 : decode cX7_takesIn 20 = .ok (.iload_n 2, 1) := by decide +kernel
theorem dX7_takesIn_21 : decode cX7_takesIn 21 = .ok (.aload_n 0, 1) := by decide +kernel
theorem dX7_takesIn_22 : decode cX7_takesIn 22 = .ok (.bipush 44, 2) := by decide +kernel
theorem dX7_takesIn_24 : decode cX7_takesIn 24 = .ok (.iaload, 1) := by decide +kernel
theorem dX7_takesIn_25 : decode cX7_takesIn 25 = .ok (.imul, 1) := by decide +kernel
theorem dX7_takesIn_26 : decode cX7_takesIn 26 = .ok (.iadd, 1) := by decide +kernel
theorem dX7_takesIn_27 : decode cX7_takesIn 27 = .ok (.iastore, 1) := by decide +kernel
theorem dX7_takesIn_28 : decode cX7_takesIn 28 = .ok (.aload_n 0, 1) := by decide +kernel
theorem dX7_takesIn_29 : decode cX7_takesIn 29 = .ok (.iload_n 3, 1) := by decide +kernel
theorem dX7_takesIn_30 : decode cX7_takesIn 30 = .ok (.iconst 1, 1) := by decide +kernel
theorem dX7_takesIn_31 : decode cX7_takesIn 31 = .ok (.iadd, 1) := by decide +kernel
theorem dX7_takesIn_32 : decode cX7_takesIn 32 = .ok (.iaload, 1) := by decide +kernel
theorem dX7_takesIn_33 : decode cX7_takesIn 33 = .ok (.bipush 100, 2) := by decide +kernel
theorem dX7_takesIn_35 : decode cX7_takesIn 35 = .ok (.idiv, 1) := by decide +kernel
theorem dX7_takesIn_36 : decode cX7_takesIn 36 = .ok (.istore 4, 2) := by decide +kernel
theorem dX7_takesIn_38 : decode cX7_takesIn 38 = .ok (.aload_n 0, 1) := by decide +kernel
theorem dX7_takesIn_39 : decode cX7_takesIn 39 = .ok (.iload_n 3, 1) := by decide +kernel
theorem dX7_takesIn_40 : decode cX7_takesIn 40 = .ok (.iconst 1, 1) := by decide +kernel
theorem dX7_takesIn_41 : decode cX7_takesIn 41 = .ok (.iadd, 1) := by decide +kernel
theorem dX7_takesIn_42 : decode cX7_takesIn 42 = .ok (.dup2, 1) := by decide +kernel
theorem dX7_takesIn_43 : decode cX7_takesIn 43 = .ok (.iaload, 1) := by decide +kernel
theorem dX7_takesIn_44 : decode cX7_takesIn 44 = .ok (.bipush 100, 2) := by decide +kernel
theorem dX7_takesIn_46 : decode cX7_takesIn 46 = .ok (.irem, 1) := by decide +kernel
theorem dX7_takesIn_47 : decode cX7_takesIn 47 = .ok (.iastore, 1) := by decide +kernel
theorem dX7_takesIn_48 : decode cX7_takesIn 48 = .ok (.aload_n 0, 1) := by decide +kernel
theorem dX7_takesIn_49 : decode cX7_takesIn 49 = .ok (.iload_n 3, 1) := by decide +kernel
theorem dX7_takesIn_50 : decode cX7_takesIn 50 = .ok (.iconst 3, 1) := by decide +kernel
theorem dX7_takesIn_51 : decode cX7_takesIn 51 = .ok (.iadd, 1) := by decide +kernel
theorem dX7_takesIn_52 : decode cX7_takesIn 52 = .ok (.dup2, 1) := by decide +kernel
theorem dX7_takesIn_53 : decode cX7_takesIn 53 = .ok (.iaload, 1) := by decide +kernel
theorem dX7_takesIn_54 : decode cX7_takesIn 54 = .ok (.iload 4, 2) := by decide +kernel
theorem dX7_takesIn_56 : decode cX7_takesIn 56 = .ok (.iadd, 1) := by decide +kernel
theorem dX7_takesIn_57 : decode cX7_takesIn 57 = .ok (.iastore, 1) := by decide +kernel
theorem dX7_takesIn_58 : decode cX7_takesIn 58 = .ok (.aload_n 0, 1) := by decide +kernel
theorem dX7_takesIn_59 : decode cX7_takesIn 59 = .ok (.iload_n 3, 1) := by decide +kernel
theorem dX7_takesIn_60 : decode cX7_takesIn 60 = .ok (.iconst 0, 1) := by decide +kernel
theorem dX7_takesIn_61 : decode cX7_takesIn 61 = .ok (.iadd, 1) := by decide +kernel
theorem dX7_takesIn_62 : decode cX7_takesIn 62 = .ok (.iaload, 1) := by decide +kernel
theorem dX7_takesIn_63 : decode cX7_takesIn 63 = .ok (.iload 4, 2) := by decide +kernel
theorem dX7_takesIn_65 : decode cX7_takesIn 65 = .ok (.iadd, 1) := by decide +kernel
theorem dX7_takesIn_66 : decode cX7_takesIn 66 = .ok (.istore 5, 2) := by decide +kernel
theorem dX7_takesIn_68 : decode cX7_takesIn 68 = .ok (.iload 5, 2) := by decide +kernel
theorem dX7_takesIn_70 : decode cX7_takesIn 70 = .ok (.aload_n 0, 1) := by decide +kernel
theorem dX7_takesIn_71 : decode cX7_takesIn 71 = .ok (.bipush 42, 2) := by decide +kernel
theorem dX7_takesIn_73 : decode cX7_takesIn 73 = .ok (.iaload, 1) := by decide +kernel
theorem dX7_takesIn_74 : decode cX7_takesIn 74 = .ok (.if_icmp .le 13, 3) := by decide +kernel
theorem dX7_takesIn_77 : decode cX7_takesIn 77 = .ok (.iload 5, 2) := by decide +kernel
theorem dX7_takesIn_79 : decode cX7_takesIn 79 = .ok (.aload_n 0, 1) := by decide +kernel
theorem dX7_takesIn_80 : decode cX7_takesIn 80 = .ok (.bipush 42, 2) := by decide +kernel
theorem dX7_takesIn_82 : decode cX7_takesIn 82 = .ok (.iaload, 1) := by decide +kernel
theorem dX7_takesIn_83 : decode cX7_takesIn 83 = .ok (.isub, 1) := by decide +kernel
theorem dX7_takesIn_84 : decode cX7_takesIn 84 = .ok (.goto 4, 3) := by decide +kernel
theorem dX7_takesIn_87 : decode cX7_takesIn 87 = .ok (.iconst 0, 1) := by decide +kernel
theorem dX7_takesIn_88 : decode cX7_takesIn 88 = .ok (.istore 6, 2) := by decide +kernel
theorem dX7_takesIn_90 : decode cX7_takesIn 90 = .ok (.aload_n 0, 1) := by decide +kernel
theorem dX7_takesIn_91 : decode cX7_takesIn 91 = .ok (.iload_n 3, 1) := by decide +kernel
theorem dX7_takesIn_92 : decode cX7_takesIn 92 = .ok (.iconst 0, 1) := by decide +kernel
theorem dX7_takesIn_93 : decode cX7_takesIn 93 = .ok (.iadd, 1) := by decide +kernel
theorem dX7_takesIn_94 : decode cX7_takesIn 94 = .ok (.iload 5, 2) := by decide +kernel
theorem dX7_takesIn_96 : decode cX7_takesIn 96 = .ok (.iload 6, 2) := by decide +kernel
theorem dX7_takesIn_98 : decode cX7_takesIn 98 = .ok (.isub, 1) := by decide +kernel
theorem dX7_takesIn_99 : decode cX7_takesIn 99 = .ok (.iastore, 1) := by decide +kernel
theorem dX7_takesIn_100 : decode cX7_takesIn 100 = .ok (.aload_n 0, 1) := by decide +kernel
theorem dX7_takesIn_101 : decode cX7_takesIn 101 = .ok (.iload_n 3, 1) := by decide +kernel
theorem dX7_takesIn_102 : decode cX7_takesIn 102 = .ok (.iconst 4, 1) := by decide +kernel
theorem dX7_takesIn_103 : decode cX7_takesIn 103 = .ok (.iadd, 1) := by decide +kernel
theorem dX7_takesIn_104 : decode cX7_takesIn 104 = .ok (.dup2, 1) := by decide +kernel
theorem dX7_takesIn_105 : decode cX7_takesIn 105 = .ok (.iaload, 1) := by decide +kernel
theorem dX7_takesIn_106 : decode cX7_takesIn 106 = .ok (.iload 6, 2) := by decide +kernel
theorem dX7_takesIn_108 : decode cX7_takesIn 108 = .ok (.iadd, 1) := by decide +kernel
theorem dX7_takesIn_109 : decode cX7_takesIn 109 = .ok (.iastore, 1) := by decide +kernel
theorem dX7_takesIn_110 : decode cX7_takesIn 110 = .ok (.return_, 1) := by decide +kernel
set_option maxRecDepth 20000 in
theorem ggX7_endsBehind_X7_ofStage : GoodIn wsX7_endsBehind wsX7_ofStage := goodIn_r _ [4] (by decide +kernel) (by decide +kernel)
set_option maxRecDepth 20000 in
theorem gX7_endsBehind_X7_ofStage : GoodIn wsX7_endsBehind (va_wsS RX7 56 yX7_ofStage wsX7_ofStage) := goodIn_app (goodIn_of _ (by decide +kernel)) ggX7_endsBehind_X7_ofStage
set_option maxRecDepth 20000 in
theorem ggX7_endsBehind_X7_highest : GoodIn wsX7_endsBehind wsX7_highest := goodIn_r _ [7, 8, 9, 3, 10, 11, 12, 13] (by decide +kernel) (by decide +kernel)
set_option maxRecDepth 20000 in
theorem gX7_endsBehind_X7_highest : GoodIn wsX7_endsBehind (va_wsS RX7 62 yX7_highest wsX7_highest) := goodIn_app (goodIn_of _ (by decide +kernel)) ggX7_endsBehind_X7_highest
set_option maxRecDepth 20000 in
theorem ggX7_endsBehind_X7_more : GoodIn wsX7_endsBehind wsX7_more := goodIn_r _ [16] (by decide +kernel) (by decide +kernel)
set_option maxRecDepth 20000 in
theorem gX7_endsBehind_X7_more : GoodIn wsX7_endsBehind (va_wsS RX7 69 yX7_more wsX7_more) := goodIn_app (goodIn_of _ (by decide +kernel)) ggX7_endsBehind_X7_more
set_option maxRecDepth 20000 in
theorem ggX7_endsBehind_X7_limit : GoodIn wsX7_endsBehind wsX7_limit := goodIn_r _ [19, 1, 2, 3, 4] (by decide +kernel) (by decide +kernel)
set_option maxRecDepth 20000 in
theorem gX7_endsBehind_X7_limit : GoodIn wsX7_endsBehind (va_wsS RX7 59 yX7_limit wsX7_limit) := goodIn_app (goodIn_of _ (by decide +kernel)) ggX7_endsBehind_X7_limit
theorem dX7_endsBehind_0 : decode cX7_endsBehind 0 = .ok (.aload_n 0, 1) := by decide +kernel
theorem dX7_endsBehind_1 : decode cX7_endsBehind 1 = .ok (.aload_n 0, 1) := by decide +kernel
theorem dX7_endsBehind_2 : decode cX7_endsBehind 2 = .ok (.bipush 74, 2) := by decide +kernel
theorem dX7_endsBehind_4 : decode cX7_endsBehind 4 = .ok (.iaload, 1) := by decide +kernel
theorem dX7_endsBehind_5 : decode cX7_endsBehind 5 = .ok (.iconst 0, 1) := by decide +kernel
theorem dX7_endsBehind_6 : decode cX7_endsBehind 6 = .ok (.invokestatic 56, 3) := by decide +kernel
theorem dX7_endsBehind_9 : decode cX7_endsBehind 9 = .ok (.istore_n 2, 1) := by decide +kernel
theorem dX7_endsBehind_10 : decode cX7_endsBehind 10 = .ok (.iload_n 2, 1) := by decide +kernel
theorem dX7_endsBehind_11 : decode cX7_endsBehind 11 = .ok (.ifCond .ne 30, 3) := by decide +kernel
theorem dX7_endsBehind_14 : decode cX7_endsBehind 14 = .ok (.aload_n 0, 1) := by decide +kernel
theorem dX7_endsBehind_15 : decode cX7_endsBehind 15 = .ok (.invokestatic 62, 3) := by decide +kernel
theorem dX7_endsBehind_18 : decode cX7_endsBehind 18 = .ok (.aload_n 0, 1) := by decide +kernel
theorem dX7_endsBehind_19 : decode cX7_endsBehind 19 = .ok (.iload_n 1, 1) := by decide +kernel
theorem dX7_endsBehind_20 : decode cX7_endsBehind 20 = .ok (.invokestatic 69, 3) := by decide +kernel
theorem dX7_endsBehind_23 : decode cX7_endsBehind 23 = .ok (.iadd, 1) := by decide +kernel
theorem dX7_endsBehind_24 : decode cX7_endsBehind 24 = .ok (.aload_n 0, 1) := by decide +kernel
theorem dX7_endsBehind_25 : decode cX7_endsBehind 25 = .ok (.aload_n 0, 1) := by decide +kernel
theorem dX7_endsBehind_26 : decode cX7_endsBehind 26 = .ok (.bipush 74, 2) := by decide +kernel
theorem dX7_endsBehind_28 : decode cX7_endsBehind 28 = .ok (.iaload, 1) := by decide +kernel
theorem dX7_endsBehind_29 : decode cX7_endsBehind 29 = .ok (.invokestatic 59, 3) := by decide +kernel
theorem dX7_endsBehind_32 : decode cX7_endsBehind 32 = .ok (.if_icmp .lt 7, 3) := by decide +kernel
theorem dX7_endsBehind_35 : decode cX7_endsBehind 35 = .ok (.iconst 1, 1) := by decide +kernel
theorem dX7_endsBehind_36 : decode cX7_endsBehind 36 = .ok (.goto 4, 3) := by decide +kernel
theorem dX7_endsBehind_39 : decode cX7_endsBehind 39 = .ok (.iconst 0, 1) := by decide +kernel
theorem dX7_endsBehind_40 : decode cX7_endsBehind 40 = .ok (.ireturn, 1) := by decide +kernel
theorem dX7_endsBehind_41 : decode cX7_endsBehind 41 = .ok (.iload_n 2, 1) := by decide +kernel
theorem dX7_endsBehind_42 : decode cX7_endsBehind 42 = .ok (.iconst 2, 1) := by decide +kernel
theorem dX7_endsBehind_43 : decode cX7_endsBehind 43 = .ok (.if_icmp .ne 23, 3) := by decide +kernel
theorem dX7_endsBehind_46 : decode cX7_endsBehind 46 = .ok (.aload_n 0, 1) := by decide +kernel
theorem dX7_endsBehind_47 : decode cX7_endsBehind 47 = .ok (.bipush 75, 2) := by decide +kernel
theorem dX7_endsBehind_49 : decode cX7_endsBehind 49 = .ok (.iaload, 1) := by decide +kernel
theorem dX7_endsBehind_50 : decode cX7_endsBehind 50 = .ok (.aload_n 0, 1) := by decide +kernel
theorem dX7_endsBehind_51 : decode cX7_endsBehind 51 = .ok (.aload_n 0, 1) := by decide +kernel
theorem dX7_endsBehind_52 : decode cX7_endsBehind 52 = .ok (.bipush 74, 2) := by decide +kernel
theorem dX7_endsBehind_54 : decode cX7_endsBehind 54 = .ok (.iaload, 1) := by decide +kernel
theorem dX7_endsBehind_55 : decode cX7_endsBehind 55 = .ok (.iconst 1, 1) := by decide +kernel
theorem dX7_endsBehind_56 : decode cX7_endsBehind 56 = .ok (.invokestatic 56, 3) := by decide +kernel
theorem dX7_endsBehind_59 : decode cX7_endsBehind 59 = .ok (.if_icmp .lt 7, 3) := by decide +kernel
theorem dX7_endsBehind_62 : decode cX7_endsBehind 62 = .ok (.iconst 1, 1) := by decide +kernel
theorem dX7_endsBehind_63 : decode cX7_endsBehind 63 = .ok (.goto 4, 3) := by decide +kernel
theorem dX7_endsBehind_66 : decode cX7_endsBehind 66 = .ok (.iconst 0, 1) := by decide +kernel
theorem dX7_endsBehind_67 : decode cX7_endsBehind 67 = .ok (.ireturn, 1) := by decide +kernel
set_option maxRecDepth 20000 in
theorem ggX7_goesOn_X7_logs : GoodIn wsX7_goesOn wsX7_logs := goodIn_r _ [4] (by decide +kernel) (by decide +kernel)
set_option maxRecDepth 20000 in
theorem gX7_goesOn_X7_logs : GoodIn wsX7_goesOn (va_wsS RX7 72 yX7_logs wsX7_logs) := goodIn_app (goodIn_of _ (by decide +kernel)) ggX7_goesOn_X7_logs
theorem dX7_goesOn_0 : decode cX7_goesOn 0 = .ok (.aload_n 0, 1) := by decide +kernel
theorem dX7_goesOn_1 : decode cX7_goesOn 1 = .ok (.bipush 74, 2) := by decide +kernel
theorem dX7_goesOn_3 : decode cX7_goesOn 3 = .ok (.iaload, 1) := by decide +kernel
theorem dX7_goesOn_4 : decode cX7_goesOn 4 = .ok (.iconst 1, 1) := by decide +kernel
theorem dX7_goesOn_5 : decode cX7_goesOn 5 = .ok (.iadd, 1) := by decide +kernel
theorem dX7_goesOn_6 : decode cX7_goesOn 6 = .ok (.aload_n 0, 1) := by decide +kernel
theorem dX7_goesOn_7 : decode cX7_goesOn 7 = .ok (.bipush 72, 2) := by decide +kernel
theorem dX7_goesOn_9 : decode cX7_goesOn 9 = .ok (.iaload, 1) := by decide +kernel
theorem dX7_goesOn_10 : decode cX7_goesOn 10 = .ok (.if_icmp .ge 24, 3) := by decide +kernel
theorem dX7_goesOn_13 : decode cX7_goesOn 13 = .ok (.aload_n 0, 1) := by decide +kernel
theorem dX7_goesOn_14 : decode cX7_goesOn 14 = .ok (.bipush 74, 2) := by decide +kernel
theorem dX7_goesOn_16 : decode cX7_goesOn 16 = .ok (.dup2, 1) := by decide +kernel
theorem dX7_goesOn_17 : decode cX7_goesOn 17 = .ok (.iaload, 1) := by decide +kernel
theorem dX7_goesOn_18 : decode cX7_goesOn 18 = .ok (.iconst 1, 1) := by decide +kernel
theorem dX7_goesOn_19 : decode cX7_goesOn 19 = .ok (.iadd, 1) := by decide +kernel
theorem dX7_goesOn_20 : decode cX7_goesOn 20 = .ok (.iastore, 1) := by decide +kernel
theorem dX7_goesOn_21 : decode cX7_goesOn 21 = .ok (.aload_n 0, 1) := by decide +kernel
theorem dX7_goesOn_22 : decode cX7_goesOn 22 = .ok (.bipush 75, 2) := by decide +kernel
theorem dX7_goesOn_24 : decode cX7_goesOn 24 = .ok (.iconst 0, 1) := by decide +kernel
theorem dX7_goesOn_25 : decode cX7_goesOn 25 = .ok (.iastore, 1) := by decide +kernel
theorem dX7_goesOn_26 : decode cX7_goesOn 26 = .ok (.aload_n 0, 1) := by decide +kernel
theorem dX7_goesOn_27 : decode cX7_goesOn 27 = .ok (.iconst 0, 1) := by decide +kernel
theorem dX7_goesOn_28 : decode cX7_goesOn 28 = .ok (.invokestatic 72, 3) := by decide +kernel
theorem dX7_goesOn_31 : decode cX7_goesOn 31 = .ok (.goto 21, 3) := by decide +kernel
theorem dX7_goesOn_34 : decode cX7_goesOn 34 = .ok (.aload_n 0, 1) := by decide +kernel
theorem dX7_goesOn_35 : decode cX7_goesOn 35 = .ok (.bipush 73, 2) := by decide +kernel
theorem dX7_goesOn_37 : decode cX7_goesOn 37 = .ok (.iconst 2, 1) := by decide +kernel
theorem dX7_goesOn_38 : decode cX7_goesOn 38 = .ok (.iastore, 1) := by decide +kernel
theorem dX7_goesOn_39 : decode cX7_goesOn 39 = .ok (.aload_n 0, 1) := by decide +kernel
theorem dX7_goesOn_40 : decode cX7_goesOn 40 = .ok (.bipush 78, 2) := by decide +kernel
theorem dX7_goesOn_42 : decode cX7_goesOn 42 = .ok (.dup2, 1) := by decide +kernel
theorem dX7_goesOn_43 : decode cX7_goesOn 43 = .ok (.iaload, 1) := by decide +kernel
theorem dX7_goesOn_44 : decode cX7_goesOn 44 = .ok (.iconst 1, 1) := by decide +kernel
theorem dX7_goesOn_45 : decode cX7_goesOn 45 = .ok (.iadd, 1) := by decide +kernel
theorem dX7_goesOn_46 : decode cX7_goesOn 46 = .ok (.iastore, 1) := by decide +kernel
theorem dX7_goesOn_47 : decode cX7_goesOn 47 = .ok (.aload_n 0, 1) := by decide +kernel
theorem dX7_goesOn_48 : decode cX7_goesOn 48 = .ok (.iconst 1, 1) := by decide +kernel
theorem dX7_goesOn_49 : decode cX7_goesOn 49 = .ok (.invokestatic 72, 3) := by decide +kernel
theorem dX7_goesOn_52 : decode cX7_goesOn 52 = .ok (.return_, 1) := by decide +kernel
set_option maxRecDepth 20000 in
theorem ggX7_charges_X7_told : GoodIn wsX7_charges wsX7_told := goodIn_r _ [4, 5, 6, 3, 7, 8, 9, 10, 11, 12, 13, 14, 15, 16, 17, 18, 19, 20, 21, 22] (by decide +kernel) (by decide +kernel)
set_option maxRecDepth 20000 in
theorem gX7_charges_X7_told : GoodIn wsX7_charges (va_wsS RX7 76 yX7_told wsX7_told) := goodIn_app (goodIn_of _ (by decide +kernel)) ggX7_charges_X7_told
set_option maxRecDepth 20000 in
theorem ggX7_charges_X7_endsAtOnce : GoodIn wsX7_charges wsX7_endsAtOnce := goodIn_r _ [25, 5, 6, 3, 7] (by decide +kernel) (by decide +kernel)
set_option maxRecDepth 20000 in
theorem gX7_charges_X7_endsAtOnce : GoodIn wsX7_charges (va_wsS RX7 79 yX7_endsAtOnce wsX7_endsAtOnce) := goodIn_app (goodIn_of _ (by decide +kernel)) ggX7_charges_X7_endsAtOnce
set_option maxRecDepth 20000 in
theorem ggX7_charges_X7_takesIn : GoodIn wsX7_charges wsX7_takesIn := goodIn_r _ [28] (by decide +kernel) (by decide +kernel)
set_option maxRecDepth 20000 in
theorem gX7_charges_X7_takesIn : GoodIn wsX7_charges (va_wsS RX7 83 yX7_takesIn wsX7_takesIn) := goodIn_app (goodIn_of _ (by decide +kernel)) ggX7_charges_X7_takesIn
set_option maxRecDepth 20000 in
theorem ggX7_charges_X7_endsBehind : GoodIn wsX7_charges wsX7_endsBehind := goodIn_r _ [31, 5, 6, 3, 7, 14, 15, 16, 17, 18, 19, 20, 21, 22, 32, 33, 34, 11, 12, 13] (by decide +kernel) (by decide +kernel)
set_option maxRecDepth 20000 in
theorem gX7_charges_X7_endsBehind : GoodIn wsX7_charges (va_wsS RX7 87 yX7_endsBehind wsX7_endsBehind) := goodIn_app (goodIn_of _ (by decide +kernel)) ggX7_charges_X7_endsBehind
set_option maxRecDepth 20000 in
theorem ggX7_charges_X7_ofStage : GoodIn wsX7_charges wsX7_ofStage := goodIn_r _ [7] (by decide +kernel) (by decide +kernel)
set_option maxRecDepth 20000 in
theorem gX7_charges_X7_ofStage : GoodIn wsX7_charges (va_wsS RX7 56 yX7_ofStage wsX7_ofStage) := goodIn_app (goodIn_of _ (by decide +kernel)) ggX7_charges_X7_ofStage
set_option maxRecDepth 20000 in
theorem ggX7_charges_X7_goesOn : GoodIn wsX7_charges wsX7_goesOn := goodIn_r _ [37, 38, 39, 3, 40] (by decide +kernel) (by decide +kernel)
set_option maxRecDepth 20000 in
theorem gX7_charges_X7_goesOn : GoodIn wsX7_charges (va_wsS RX7 90 yX7_goesOn wsX7_goesOn) := goodIn_app (goodIn_of _ (by decide +kernel)) ggX7_charges_X7_goesOn
set_option maxRecDepth 20000 in
theorem ggX7_charges_X7_logs : GoodIn wsX7_charges wsX7_logs := goodIn_r _ [40] (by decide +kernel) (by decide +kernel)
set_option maxRecDepth 20000 in
theorem gX7_charges_X7_logs : GoodIn wsX7_charges (va_wsS RX7 72 yX7_logs wsX7_logs) := goodIn_app (goodIn_of _ (by decide +kernel)) ggX7_charges_X7_logs
theorem dX7_charges_0 : decode cX7_charges 0 = .ok (.aload_n 0, 1) := by decide +kernel
theorem dX7_charges_1 : decode cX7_charges 1 = .ok (.invokestatic 76, 3) := by decide +kernel
theorem dX7_charges_4 : decode cX7_charges 4 = .ok (.istore_n 1, 1) := by decide +kernel
theorem dX7_charges_5 : decode cX7_charges 5 = .ok (.aload_n 0, 1) := by decide +kernel
theorem dX7_charges_6 : decode cX7_charges 6 = .ok (.iload_n 1, 1) := by decide +kernel
theorem dX7_charges_7 : decode cX7_charges 7 = .ok (.invokestatic 79, 3) := by decide +kernel
theorem dX7_charges_10 : decode cX7_charges 10 = .ok (.istore_n 2, 1) := by decide +kernel
theorem dX7_charges_11 : decode cX7_charges 11 = .ok (.iload_n 2, 1) := by decide +kernel
theorem dX7_charges_12 : decode cX7_charges 12 = .ok (.ifCond .ne 39, 3) := by decide +kernel
theorem dX7_charges_15 : decode cX7_charges 15 = .ok (.iconst 0, 1) := by decide +kernel
theorem dX7_charges_16 : decode cX7_charges 16 = .ok (.istore_n 3, 1) := by decide +kernel
theorem dX7_charges_17 : decode cX7_charges 17 = .ok (.iload_n 3, 1) := by decide +kernel
theorem dX7_charges_18 : decode cX7_charges 18 = .ok (.aload_n 0, 1) := by decide +kernel
theorem dX7_charges_19 : decode cX7_charges 19 = .ok (.bipush 71, 2) := by decide +kernel
theorem dX7_charges_21 : decode cX7_charges 21 = .ok (.iaload, 1) := by decide +kernel
theorem dX7_charges_22 : decode cX7_charges 22 = .ok (.if_icmp .ge 15, 3) := by decide +kernel
theorem dX7_charges_25 : decode cX7_charges 25 = .ok (.aload_n 0, 1) := by decide +kernel
theorem dX7_charges_26 : decode cX7_charges 26 = .ok (.iload_n 3, 1) := by decide +kernel
theorem dX7_charges_27 : decode cX7_charges 27 = .ok (.iload_n 1, 1) := by decide +kernel
theorem dX7_charges_28 : decode cX7_charges 28 = .ok (.invokestatic 83, 3) := by decide +kernel
theorem dX7_charges_31 : decode cX7_charges 31 = .ok (.iinc 3 1, 3) := by decide +kernel
theorem dX7_charges_34 : decode cX7_charges 34 = .ok (.goto (-17), 3) := by decide +kernel
theorem dX7_charges_37 : decode cX7_charges 37 = .ok (.aload_n 0, 1) := by decide +kernel
theorem dX7_charges_38 : decode cX7_charges 38 = .ok (.bipush 75, 2) := by decide +kernel
theorem dX7_charges_40 : decode cX7_charges 40 = .ok (.dup2, 1) := by decide +kernel
theorem dX7_charges_41 : decode cX7_charges 41 = .ok (.iaload, 1) := by decide +kernel
theorem dX7_charges_42 : decode cX7_charges 42 = .ok (.iconst 1, 1) := by decide +kernel
theorem dX7_charges_43 : decode cX7_charges 43 = .ok (.iadd, 1) := by decide +kernel
theorem dX7_charges_44 : decode cX7_charges 44 = .ok (.iastore, 1) := by decide +kernel
theorem dX7_charges_45 : decode cX7_charges 45 = .ok (.aload_n 0, 1) := by decide +kernel
theorem dX7_charges_46 : decode cX7_charges 46 = .ok (.iload_n 1, 1) := by decide +kernel
theorem dX7_charges_47 : decode cX7_charges 47 = .ok (.invokestatic 87, 3) := by decide +kernel
theorem dX7_charges_50 : decode cX7_charges 50 = .ok (.istore_n 2, 1) := by decide +kernel
theorem dX7_charges_51 : decode cX7_charges 51 = .ok (.aload_n 0, 1) := by decide +kernel
