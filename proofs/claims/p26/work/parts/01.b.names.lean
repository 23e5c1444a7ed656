theorem dX0_putEmpty_48 : decode cX0_putEmpty 48 = .ok (.iconst 0, 1) := by decide +kernel
theorem dX0_putEmpty_49 : decode cX0_putEmpty 49 = .ok (.iastore, 1) := by decide +kernel
theorem dX0_putEmpty_50 : decode cX0_putEmpty 50 = .ok (.aload_n 0, 1) := by decide +kernel
theorem dX0_putEmpty_51 : decode cX0_putEmpty 51 = .ok (.getfield 28, 3) := by decide +kernel
theorem dX0_putEmpty_54 : decode cX0_putEmpty 54 = .ok (.iload_n 2, 1) := by decide +kernel
theorem dX0_putEmpty_55 : decode cX0_putEmpty 55 = .ok (.iconst 0, 1) := by decide +kernel
theorem dX0_putEmpty_56 : decode cX0_putEmpty 56 = .ok (.iastore, 1) := by decide +kernel
theorem dX0_putEmpty_57 : decode cX0_putEmpty 57 = .ok (.aload_n 0, 1) := by decide +kernel
theorem dX0_putEmpty_58 : decode cX0_putEmpty 58 = .ok (.getfield 31, 3) := by decide +kernel
theorem dX0_putEmpty_61 : decode cX0_putEmpty 61 = .ok (.iload_n 2, 1) := by decide +kernel
theorem dX0_putEmpty_62 : decode cX0_putEmpty 62 = .ok (.iconst 0, 1) := by decide +kernel
theorem dX0_putEmpty_63 : decode cX0_putEmpty 63 = .ok (.iastore, 1) := by decide +kernel
theorem dX0_putEmpty_64 : decode cX0_putEmpty 64 = .ok (.aload_n 0, 1) := by decide +kernel
theorem dX0_putEmpty_65 : decode cX0_putEmpty 65 = .ok (.getfield 34, 3) := by decide +kernel
theorem dX0_putEmpty_68 : decode cX0_putEmpty 68 = .ok (.iload_n 2, 1) := by decide +kernel
theorem dX0_putEmpty_69 : decode cX0_putEmpty 69 = .ok (.iconst 0, 1) := by decide +kernel
theorem dX0_putEmpty_70 : decode cX0_putEmpty 70 = .ok (.iastore, 1) := by decide +kernel
theorem dX0_putEmpty_71 : decode cX0_putEmpty 71 = .ok (.iinc 2 1, 3) := by decide +kernel
theorem dX0_putEmpty_74 : decode cX0_putEmpty 74 = .ok (.goto (-58), 3) := by decide +kernel
theorem dX0_putEmpty_77 : decode cX0_putEmpty 77 = .ok (.return_, 1) := by decide +kernel
theorem dX0_copyFrom_0 : decode cX0_copyFrom 0 = .ok (.aload_n 0, 1) := by decide +kernel
theorem dX0_copyFrom_1 : decode cX0_copyFrom 1 = .ok (.aload_n 1, 1) := by decide +kernel
theorem dX0_copyFrom_2 : decode cX0_copyFrom 2 = .ok (.getfield 9, 3) := by decide +kernel
theorem dX0_copyFrom_5 : decode cX0_copyFrom 5 = .ok (.putfield 9, 3) := by decide +kernel
theorem dX0_copyFrom_8 : decode cX0_copyFrom 8 = .ok (.aload_n 1, 1) := by decide +kernel
theorem dX0_copyFrom_9 : decode cX0_copyFrom 9 = .ok (.getfield 15, 3) := by decide +kernel
theorem dX0_copyFrom_12 : decode cX0_copyFrom 12 = .ok (.iconst 0, 1) := by decide +kernel
theorem dX0_copyFrom_13 : decode cX0_copyFrom 13 = .ok (.aload_n 0, 1) := by decide +kernel
theorem dX0_copyFrom_14 : decode cX0_copyFrom 14 = .ok (.getfield 15, 3) := by decide +kernel
theorem dX0_copyFrom_17 : decode cX0_copyFrom 17 = .ok (.iconst 0, 1) := by decide +kernel
theorem dX0_copyFrom_18 : decode cX0_copyFrom 18 = .ok (.bipush 6, 2) := by decide +kernel
theorem dX0_copyFrom_20 : decode cX0_copyFrom 20 = .ok (.invokestatic 46, 3) := by decide +kernel
theorem dX0_copyFrom_23 : decode cX0_copyFrom 23 = .ok (.aload_n 1, 1) := by decide +kernel
theorem dX0_copyFrom_24 : decode cX0_copyFrom 24 = .ok (.getfield 19, 3) := by decide +kernel
theorem dX0_copyFrom_27 : decode cX0_copyFrom 27 = .ok (.iconst 0, 1) := by decide +kernel
theorem dX0_copyFrom_28 : decode cX0_copyFrom 28 = .ok (.aload_n 0, 1) := by decide +kernel
theorem dX0_copyFrom_29 : decode cX0_copyFrom 29 = .ok (.getfield 19, 3) := by decide +kernel
theorem dX0_copyFrom_32 : decode cX0_copyFrom 32 = .ok (.iconst 0, 1) := by decide +kernel
theorem dX0_copyFrom_33 : decode cX0_copyFrom 33 = .ok (.bipush 6, 2) := by decide +kernel
theorem dX0_copyFrom_35 : decode cX0_copyFrom 35 = .ok (.invokestatic 46, 3) := by decide +kernel
theorem dX0_copyFrom_38 : decode cX0_copyFrom 38 = .ok (.aload_n 1, 1) := by decide +kernel
theorem dX0_copyFrom_39 : decode cX0_copyFrom 39 = .ok (.getfield 22, 3) := by decide +kernel
theorem dX0_copyFrom_42 : decode cX0_copyFrom 42 = .ok (.iconst 0, 1) := by decide +kernel
theorem dX0_copyFrom_43 : decode cX0_copyFrom 43 = .ok (.aload_n 0, 1) := by decide +kernel
theorem dX0_copyFrom_44 : decode cX0_copyFrom 44 = .ok (.getfield 22, 3) := by decide +kernel
theorem dX0_copyFrom_47 : decode cX0_copyFrom 47 = .ok (.iconst 0, 1) := by decide +kernel
theorem dX0_copyFrom_48 : decode cX0_copyFrom 48 = .ok (.bipush 6, 2) := by decide +kernel
theorem dX0_copyFrom_50 : decode cX0_copyFrom 50 = .ok (.invokestatic 46, 3) := by decide +kernel
theorem dX0_copyFrom_53 : decode cX0_copyFrom 53 = .ok (.aload_n 1, 1) := by decide +kernel
theorem dX0_copyFrom_54 : decode cX0_copyFrom 54 = .ok (.getfield 25, 3) := by decide +kernel
theorem dX0_copyFrom_57 : decode cX0_copyFrom 57 = .ok (.iconst 0, 1) := by decide +kernel
theorem dX0_copyFrom_58 : decode cX0_copyFrom 58 = .ok (.aload_n 0, 1) := by decide +kernel
theorem dX0_copyFrom_59 : decode cX0_copyFrom 59 = .ok (.getfield 25, 3) := by decide +kernel
theorem dX0_copyFrom_62 : decode cX0_copyFrom 62 = .ok (.iconst 0, 1) := by decide +kernel
theorem dX0_copyFrom_63 : decode cX0_copyFrom 63 = .ok (.bipush 6, 2) := by decide +kernel
theorem dX0_copyFrom_65 : decode cX0_copyFrom 65 = .ok (.invokestatic 46, 3) := by decide +kernel
theorem dX0_copyFrom_68 : decode cX0_copyFrom 68 = .ok (.aload_n 1, 1) := by decide +kernel
theorem dX0_copyFrom_69 : decode cX0_copyFrom 69 = .ok (.getfield 28, 3) := by decide +kernel
theorem dX0_copyFrom_72 : decode cX0_copyFrom 72 = .ok (.iconst 0, 1) := by decide +kernel
theorem dX0_copyFrom_73 : decode cX0_copyFrom 73 = .ok (.aload_n 0, 1) := by decide +kernel
theorem dX0_copyFrom_74 : decode cX0_copyFrom 74 = .ok (.getfield 28, 3) := by decide +kernel
theorem dX0_copyFrom_77 : decode cX0_copyFrom 77 = .ok (.iconst 0, 1) := by decide +kernel
theorem dX0_copyFrom_78 : decode cX0_copyFrom 78 = .ok (.bipush 6, 2) := by decide +kernel
theorem dX0_copyFrom_80 : decode cX0_copyFrom 80 = .ok (.invokestatic 46, 3) := by decide +kernel
theorem dX0_copyFrom_83 : decode cX0_copyFrom 83 = .ok (.aload_n 1, 1) := by decide +kernel
theorem dX0_copyFrom_84 : decode cX0_copyFrom 84 = .ok (.getfield 31, 3) := by decide +kernel
theorem dX0_copyFrom_87 : decode cX0_copyFrom 87 = .ok (.iconst 0, 1) := by decide +kernel
theorem dX0_copyFrom_88 : decode cX0_copyFrom 88 = .ok (.aload_n 0, 1) := by decide +kernel
theorem dX0_copyFrom_89 : decode cX0_copyFrom 89 = .ok (.getfield 31, 3) := by decide +kernel
theorem dX0_copyFrom_92 : decode cX0_copyFrom 92 = .ok (.iconst 0, 1) := by decide +kernel
theorem dX0_copyFrom_93 : decode cX0_copyFrom 93 = .ok (.bipush 6, 2) := by decide +kernel
theorem dX0_copyFrom_95 : decode cX0_copyFrom 95 = .ok (.invokestatic 46, 3) := by decide +kernel
theorem dX0_copyFrom_98 : decode cX0_copyFrom 98 = .ok (.aload_n 1, 1) := by decide +kernel
theorem dX0_copyFrom_99 : decode cX0_copyFrom 99 = .ok (.getfield 34, 3) := by decide +kernel
theorem dX0_copyFrom_102 : decode cX0_copyFrom 102 = .ok (.iconst 0, 1) := by decide +kernel
theorem dX0_copyFrom_103 : decode cX0_copyFrom 103 = .ok (.aload_n 0, 1) := by decide +kernel
theorem dX0_copyFrom_104 : decode cX0_copyFrom 104 = .ok (.getfield 34, 3) := by decide +kernel
theorem dX0_copyFrom_107 : decode cX0_copyFrom 107 = .ok (.iconst 0, 1) := by decide +kernel
theorem dX0_copyFrom_108 : decode cX0_copyFrom 108 = .ok (.bipush 6, 2) := by decide +kernel
theorem dX0_copyFrom_110 : decode cX0_copyFrom 110 = .ok (.invokestatic 46, 3) := by decide +kernel
theorem dX0_copyFrom_113 : decode cX0_copyFrom 113 = .ok (.return_, 1) := by decide +kernel
theorem dX0_leastCharge_0 : decode cX0_leastCharge 0 = .ok (.aload_n 0, 1) := by decide +kernel
theorem dX0_leastCharge_1 : decode cX0_leastCharge 1 = .ok (.getfield 15, 3) := by decide +kernel
theorem dX0_leastCharge_4 : decode cX0_leastCharge 4 = .ok (.iconst 0, 1) := by decide +kernel
theorem dX0_leastCharge_5 : decode cX0_leastCharge 5 = .ok (.iaload, 1) := by decide +kernel
theorem dX0_leastCharge_6 : decode cX0_leastCharge 6 = .ok (.istore_n 1, 1) := by decide +kernel
theorem dX0_leastCharge_7 : decode cX0_leastCharge 7 = .ok (.iconst 1, 1) := by decide +kernel
theorem dX0_leastCharge_8 : decode cX0_leastCharge 8 = .ok (.istore_n 2, 1) := by decide +kernel
theorem dX0_leastCharge_9 : decode cX0_leastCharge 9 = .ok (.iload_n 2, 1) := by decide +kernel
theorem dX0_leastCharge_10 : decode cX0_leastCharge 10 = .ok (.aload_n 0, 1) := by decide +kernel
theorem dX0_leastCharge_11 : decode cX0_leastCharge 11 = .ok (.getfield 9, 3) := by decide +kernel
theorem dX0_leastCharge_14 : decode cX0_leastCharge 14 = .ok (.if_icmp .ge 20, 3) := by decide +kernel
theorem dX0_leastCharge_17 : decode cX0_leastCharge 17 = .ok (.iload_n 1, 1) := by decide +kernel
theorem dX0_leastCharge_18 : decode cX0_leastCharge 18 = .ok (.aload_n 0, 1) := by decide +kernel
theorem dX0_leastCharge_19 : decode cX0_leastCharge 19 = .ok (.getfield 15, 3) := by decide +kernel
theorem dX0_leastCharge_22 : decode cX0_leastCharge 22 = .ok (.iload_n 2, 1) := by decide +kernel
theorem dX0_leastCharge_23 : decode cX0_leastCharge 23 = .ok (.iaload, 1) := by decide +kernel
theorem dX0_leastCharge_24 : decode cX0_leastCharge 24 = .ok (.invokestatic 37, 3) := by decide +kernel
theorem dX0_leastCharge_27 : decode cX0_leastCharge 27 = .ok (.istore_n 1, 1) := by decide +kernel
theorem dX0_leastCharge_28 : decode cX0_leastCharge 28 = .ok (.iinc 2 1, 3) := by decide +kernel
theorem dX0_leastCharge_31 : decode cX0_leastCharge 31 = .ok (.goto (-22), 3) := by decide +kernel
theorem dX0_leastCharge_34 : decode cX0_leastCharge 34 = .ok (.iload_n 1, 1) := by decide +kernel
theorem dX0_leastCharge_35 : decode cX0_leastCharge 35 = .ok (.ireturn, 1) := by decide +kernel
theorem dX0_greatestCharge_0 : decode cX0_greatestCharge 0 = .ok (.aload_n 0, 1) := by decide +kernel
theorem dX0_greatestCharge_1 : decode cX0_greatestCharge 1 = .ok (.getfield 15, 3) := by decide +kernel
theorem dX0_greatestCharge_4 : decode cX0_greatestCharge 4 = .ok (.iconst 0, 1) := by decide +kernel
theorem dX0_greatestCharge_5 : decode cX0_greatestCharge 5 = .ok (.iaload, 1) := by decide +kernel
theorem dX0_greatestCharge_6 : decode cX0_greatestCharge 6 = .ok (.istore_n 1, 1) := by decide +kernel
theorem dX0_greatestCharge_7 : decode cX0_greatestCharge 7 = .ok (.iconst 1, 1) := by decide +kernel
theorem dX0_greatestCharge_8 : decode cX0_greatestCharge 8 = .ok (.istore_n 2, 1) := by decide +kernel
theorem dX0_greatestCharge_9 : decode cX0_greatestCharge 9 = .ok (.iload_n 2, 1) := by decide +kernel
theorem dX0_greatestCharge_10 : decode cX0_greatestCharge 10 = .ok (.aload_n 0, 1) := by decide +kernel
theorem dX0_greatestCharge_11 : decode cX0_greatestCharge 11 = .ok (.getfield 9, 3) := by decide +kernel
theorem dX0_greatestCharge_14 : decode cX0_greatestCharge 14 = .ok (.if_icmp .ge 20, 3) := by decide +kernel
theorem dX0_greatestCharge_17 : decode cX0_greatestCharge 17 = .ok (.iload_n 1, 1) := by decide +kernel
theorem dX0_greatestCharge_18 : decode cX0_greatestCharge 18 = .ok (.aload_n 0, 1) := by decide +kernel
theorem dX0_greatestCharge_19 : decode cX0_greatestCharge 19 = .ok (.getfield 15, 3) := by decide +kernel
theorem dX0_greatestCharge_22 : decode cX0_greatestCharge 22 = .ok (.iload_n 2, 1) := by decide +kernel
theorem dX0_greatestCharge_23 : decode cX0_greatestCharge 23 = .ok (.iaload, 1) := by decide +kernel
theorem dX0_greatestCharge_24 : decode cX0_greatestCharge 24 = .ok (.invokestatic 43, 3) := by decide +kernel
theorem dX0_greatestCharge_27 : decode cX0_greatestCharge 27 = .ok (.istore_n 1, 1) := by decide +kernel
theorem dX0_greatestCharge_28 : decode cX0_greatestCharge 28 = .ok (.iinc 2 1, 3) := by decide +kernel
theorem dX0_greatestCharge_31 : decode cX0_greatestCharge 31 = .ok (.goto (-22), 3) := by decide +kernel
theorem dX0_greatestCharge_34 : decode cX0_greatestCharge 34 = .ok (.iload_n 1, 1) := by decide +kernel
theorem dX0_greatestCharge_35 : decode cX0_greatestCharge 35 = .ok (.ireturn, 1) := by decide +kernel
theorem dX0_draw_0 : decode cX0_draw 0 = .ok (.iconst 0, 1) := by decide +kernel
theorem dX0_draw_1 : decode cX0_draw 1 = .ok (.istore_n 2, 1) := by decide +kernel
theorem dX0_draw_2 : decode cX0_draw 2 = .ok (.iload_n 2, 1) := by decide +kernel
theorem dX0_draw_3 : decode cX0_draw 3 = .ok (.aload_n 0, 1) := by decide +kernel
theorem dX0_draw_4 : decode cX0_draw 4 = .ok (.getfield 9, 3) := by decide +kernel
theorem dX0_draw_7 : decode cX0_draw 7 = .ok (.if_icmp .ge 29, 3) := by decide +kernel
theorem dX0_draw_10 : decode cX0_draw 10 = .ok (.aload_n 0, 1) := by decide +kernel
theorem dX0_draw_11 : decode cX0_draw 11 = .ok (.getfield 15, 3) := by decide +kernel
theorem dX0_draw_14 : decode cX0_draw 14 = .ok (.iload_n 2, 1) := by decide +kernel
theorem dX0_draw_15 : decode cX0_draw 15 = .ok (.dup2, 1) := by decide +kernel
theorem dX0_draw_16 : decode cX0_draw 16 = .ok (.iaload, 1) := by decide +kernel
theorem dX0_draw_17 : decode cX0_draw 17 = .ok (.iload_n 1, 1) := by decide +kernel
theorem dX0_draw_18 : decode cX0_draw 18 = .ok (.isub, 1) := by decide +kernel
theorem dX0_draw_19 : decode cX0_draw 19 = .ok (.iastore, 1) := by decide +kernel
theorem dX0_draw_20 : decode cX0_draw 20 = .ok (.aload_n 0, 1) := by decide +kernel
theorem dX0_draw_21 : decode cX0_draw 21 = .ok (.getfield 34, 3) := by decide +kernel
theorem dX0_draw_24 : decode cX0_draw 24 = .ok (.iload_n 2, 1) := by decide +kernel
theorem dX0_draw_25 : decode cX0_draw 25 = .ok (.dup2, 1) := by decide +kernel
theorem dX0_draw_26 : decode cX0_draw 26 = .ok (.iaload, 1) := by decide +kernel
theorem dX0_draw_27 : decode cX0_draw 27 = .ok (.iload_n 1, 1) := by decide +kernel
theorem dX0_draw_28 : decode cX0_draw 28 = .ok (.iadd, 1) := by decide +kernel
theorem dX0_draw_29 : decode cX0_draw 29 = .ok (.iastore, 1) := by decide +kernel
theorem dX0_draw_30 : decode cX0_draw 30 = .ok (.iinc 2 1, 3) := by decide +kernel
theorem dX0_draw_33 : decode cX0_draw 33 = .ok (.goto (-31), 3) := by decide +kernel
theorem dX0_draw_36 : decode cX0_draw 36 = .ok (.return_, 1) := by decide +kernel
theorem dX0_takeIn_0 : decode cX0_takeIn 0 = .ok (.iconst 0, 1) := by decide +kernel
theorem dX0_takeIn_1 : decode cX0_takeIn 1 = .ok (.istore 4, 2) := by decide +kernel
theorem dX0_takeIn_3 : decode cX0_takeIn 3 = .ok (.iload 4, 2) := by decide +kernel
theorem dX0_takeIn_5 : decode cX0_takeIn 5 = .ok (.aload_n 0, 1) := by decide +kernel
theorem dX0_takeIn_6 : decode cX0_takeIn 6 = .ok (.getfield 9, 3) := by decide +kernel
theorem dX0_takeIn_9 : decode cX0_takeIn 9 = .ok (.if_icmp .ge 110, 3) := by decide +kernel
theorem dX0_takeIn_12 : decode cX0_takeIn 12 = .ok (.aload_n 0, 1) := by decide +kernel
theorem dX0_takeIn_13 : decode cX0_takeIn 13 = .ok (.getfield 19, 3) := by decide +kernel
theorem dX0_takeIn_16 : decode cX0_takeIn 16 = .ok (.iload 4, 2) := by decide +kernel
theorem dX0_takeIn_18 : decode cX0_takeIn 18 = .ok (.iaload, 1) := by decide +kernel
theorem dX0_takeIn_19 : decode cX0_takeIn 19 = .ok (.iload_n 1, 1) := by decide +kernel
theorem dX0_takeIn_20 : decode cX0_takeIn 20 = .ok (.iload_n 2, 1) := by decide +kernel
theorem dX0_takeIn_21 : decode cX0_takeIn 21 = .ok (.imul, 1) := by decide +kernel
theorem dX0_takeIn_22 : decode cX0_takeIn 22 = .ok (.iadd, 1) := by decide +kernel
theorem dX0_takeIn_23 : decode cX0_takeIn 23 = .ok (.istore 5, 2) := by decide +kernel
theorem dX0_takeIn_25 : decode cX0_takeIn 25 = .ok (.iload 5, 2) := by decide +kernel
theorem dX0_takeIn_27 : decode cX0_takeIn 27 = .ok (.bipush 100, 2) := by decide +kernel
theorem dX0_takeIn_29 : decode cX0_takeIn 29 = .ok (.idiv, 1) := by decide +kernel
theorem dX0_takeIn_30 : decode cX0_takeIn 30 = .ok (.istore 6, 2) := by decide +kernel
theorem dX0_takeIn_32 : decode cX0_takeIn 32 = .ok (.aload_n 0, 1) := by decide +kernel
theorem dX0_takeIn_33 : decode cX0_takeIn 33 = .ok (.getfield 15, 3) := by decide +kernel
theorem dX0_takeIn_36 : decode cX0_takeIn 36 = .ok (.iload 4, 2) := by decide +kernel
theorem dX0_takeIn_38 : decode cX0_takeIn 38 = .ok (.iaload, 1) := by decide +kernel
theorem dX0_takeIn_39 : decode cX0_takeIn 39 = .ok (.iload 6, 2) := by decide +kernel
theorem dX0_takeIn_41 : decode cX0_takeIn 41 = .ok (.iadd, 1) := by decide +kernel
theorem dX0_takeIn_42 : decode cX0_takeIn 42 = .ok (.istore 7, 2) := by decide +kernel
theorem dX0_takeIn_44 : decode cX0_takeIn 44 = .ok (.iconst 0, 1) := by decide +kernel
theorem dX0_takeIn_45 : decode cX0_takeIn 45 = .ok (.iload 7, 2) := by decide +kernel
theorem dX0_takeIn_47 : decode cX0_takeIn 47 = .ok (.iload_n 3, 1) := by decide +kernel
theorem dX0_takeIn_48 : decode cX0_takeIn 48 = .ok (.isub, 1) := by decide +kernel
theorem dX0_takeIn_49 : decode cX0_takeIn 49 = .ok (.invokestatic 43, 3) := by decide +kernel
theorem dX0_takeIn_52 : decode cX0_takeIn 52 = .ok (.istore 8, 2) := by decide +kernel
theorem dX0_takeIn_54 : decode cX0_takeIn 54 = .ok (.aload_n 0, 1) := by decide +kernel
theorem dX0_takeIn_55 : decode cX0_takeIn 55 = .ok (.getfield 22, 3) := by decide +kernel
theorem dX0_takeIn_58 : decode cX0_takeIn 58 = .ok (.iload 4, 2) := by decide +kernel
theorem dX0_takeIn_60 : decode cX0_takeIn 60 = .ok (.dup2, 1) := by decide +kernel
theorem dX0_takeIn_61 : decode cX0_takeIn 61 = .ok (.iaload, 1) := by decide +kernel
theorem dX0_takeIn_62 : decode cX0_takeIn 62 = .ok (.iload_n 1, 1) := by decide +kernel
theorem dX0_takeIn_63 : decode cX0_takeIn 63 = .ok (.iadd, 1) := by decide +kernel
theorem dX0_takeIn_64 : decode cX0_takeIn 64 = .ok (.iastore, 1) := by decide +kernel
theorem dX0_takeIn_65 : decode cX0_takeIn 65 = .ok (.aload_n 0, 1) := by decide +kernel
theorem dX0_takeIn_66 : decode cX0_takeIn 66 = .ok (.getfield 19, 3) := by decide +kernel
theorem dX0_takeIn_69 : decode cX0_takeIn 69 = .ok (.iload 4, 2) := by decide +kernel
theorem dX0_takeIn_71 : decode cX0_takeIn 71 = .ok (.iload 5, 2) := by decide +kernel
theorem dX0_takeIn_73 : decode cX0_takeIn 73 = .ok (.bipush 100, 2) := by decide +kernel
theorem dX0_takeIn_75 : decode cX0_takeIn 75 = .ok (.irem, 1) := by decide +kernel
theorem dX0_takeIn_76 : decode cX0_takeIn 76 = .ok (.iastore, 1) := by decide +kernel
theorem dX0_takeIn_77 : decode cX0_takeIn 77 = .ok (.aload_n 0, 1) := by decide +kernel
theorem dX0_takeIn_78 : decode cX0_takeIn 78 = .ok (.getfield 25, 3) := by decide +kernel
theorem dX0_takeIn_81 : decode cX0_takeIn 81 = .ok (.iload 4, 2) := by decide +kernel
theorem dX0_takeIn_83 : decode cX0_takeIn 83 = .ok (.dup2, 1) := by decide +kernel
theorem dX0_takeIn_84 : decode cX0_takeIn 84 = .ok (.iaload, 1) := by decide +kernel
theorem dX0_takeIn_85 : decode cX0_takeIn 85 = .ok (.iload 6, 2) := by decide +kernel
theorem dX0_takeIn_87 : decode cX0_takeIn 87 = .ok (.iadd, 1) := by decide +kernel
theorem dX0_takeIn_88 : decode cX0_takeIn 88 = .ok (.iastore, 1) := by decide +kernel
theorem dX0_takeIn_89 : decode cX0_takeIn 89 = .ok (.aload_n 0, 1) := by decide +kernel
theorem dX0_takeIn_90 : decode cX0_takeIn 90 = .ok (.getfield 28, 3) := by decide +kernel
theorem dX0_takeIn_93 : decode cX0_takeIn 93 = .ok (.iload 4, 2) := by decide +kernel
theorem dX0_takeIn_95 : decode cX0_takeIn 95 = .ok (.dup2, 1) := by decide +kernel
theorem dX0_takeIn_96 : decode cX0_takeIn 96 = .ok (.iaload, 1) := by decide +kernel
theorem dX0_takeIn_97 : decode cX0_takeIn 97 = .ok (.iload 8, 2) := by decide +kernel
theorem dX0_takeIn_99 : decode cX0_takeIn 99 = .ok (.iadd, 1) := by decide +kernel
theorem dX0_takeIn_100 : decode cX0_takeIn 100 = .ok (.iastore, 1) := by decide +kernel
theorem dX0_takeIn_101 : decode cX0_takeIn 101 = .ok (.aload_n 0, 1) := by decide +kernel
theorem dX0_takeIn_102 : decode cX0_takeIn 102 = .ok (.getfield 15, 3) := by decide +kernel
theorem dX0_takeIn_105 : decode cX0_takeIn 105 = .ok (.iload 4, 2) := by decide +kernel
theorem dX0_takeIn_107 : decode cX0_takeIn 107 = .ok (.iload 7, 2) := by decide +kernel
theorem dX0_takeIn_109 : decode cX0_takeIn 109 = .ok (.iload 8, 2) := by decide +kernel
theorem dX0_takeIn_111 : decode cX0_takeIn 111 = .ok (.isub, 1) := by decide +kernel
theorem dX0_takeIn_112 : decode cX0_takeIn 112 = .ok (.iastore, 1) := by decide +kernel
theorem dX0_takeIn_113 : decode cX0_takeIn 113 = .ok (.iinc 4 1, 3) := by decide +kernel
theorem dX0_takeIn_116 : decode cX0_takeIn 116 = .ok (.goto (-113), 3) := by decide +kernel
theorem dX0_takeIn_119 : decode cX0_takeIn 119 = .ok (.return_, 1) := by decide +kernel
set_option maxRecDepth 20000 in
theorem ggX0_loseTo_X0_leastCharge : GoodIn wsX0_loseTo wsX0_leastCharge := goodIn_r _ [12, 2, 1, 3, 4, 5, 6, 16, 17, 18, 19, 20, 21, 22, 23] (by decide +kernel) (by decide +kernel)
set_option maxRecDepth 20000 in
theorem gX0_loseTo_X0_leastCharge : GoodIn wsX0_loseTo (wsV RX0 52 RX0 yX0_leastCharge wsX0_leastCharge) := goodIn_app (goodIn_of _ (by decide +kernel)) ggX0_loseTo_X0_leastCharge
set_option maxRecDepth 20000 in
theorem ggX0_loseTo_X6_baseVoltage : GoodIn wsX0_loseTo wsX6_baseVoltage := goodIn_r _ [15] (by decide +kernel) (by decide +kernel)
set_option maxRecDepth 20000 in
theorem gX0_loseTo_X6_baseVoltage_n56 : GoodIn wsX0_loseTo (wsX6_baseVoltage) := ggX0_loseTo_X6_baseVoltage
theorem dX0_loseTo_0 : decode cX0_loseTo 0 = .ok (.aload_n 0, 1) := by decide +kernel
theorem dX0_loseTo_1 : decode cX0_loseTo 1 = .ok (.invokevirtual 52, 3) := by decide +kernel
theorem dX0_loseTo_4 : decode cX0_loseTo 4 = .ok (.iload_n 3, 1) := by decide +kernel
theorem dX0_loseTo_5 : decode cX0_loseTo 5 = .ok (.invokestatic 56, 3) := by decide +kernel
theorem dX0_loseTo_8 : decode cX0_loseTo 8 = .ok (.iload_n 2, 1) := by decide +kernel
theorem dX0_loseTo_9 : decode cX0_loseTo 9 = .ok (.iadd, 1) := by decide +kernel
theorem dX0_loseTo_10 : decode cX0_loseTo 10 = .ok (.istore 4, 2) := by decide +kernel
theorem dX0_loseTo_12 : decode cX0_loseTo 12 = .ok (.iconst 0, 1) := by decide +kernel
theorem dX0_loseTo_13 : decode cX0_loseTo 13 = .ok (.istore 5, 2) := by decide +kernel
theorem dX0_loseTo_15 : decode cX0_loseTo 15 = .ok (.iload 5, 2) := by decide +kernel
theorem dX0_loseTo_17 : decode cX0_loseTo 17 = .ok (.aload_n 0, 1) := by decide +kernel
theorem dX0_loseTo_18 : decode cX0_loseTo 18 = .ok (.getfield 9, 3) := by decide +kernel
theorem dX0_loseTo_21 : decode cX0_loseTo 21 = .ok (.if_icmp .ge 62, 3) := by decide +kernel
theorem dX0_loseTo_24 : decode cX0_loseTo 24 = .ok (.aload_n 0, 1) := by decide +kernel
theorem dX0_loseTo_25 : decode cX0_loseTo 25 = .ok (.getfield 15, 3) := by decide +kernel
theorem dX0_loseTo_28 : decode cX0_loseTo 28 = .ok (.iload 5, 2) := by decide +kernel
theorem dX0_loseTo_30 : decode cX0_loseTo 30 = .ok (.iaload, 1) := by decide +kernel
theorem dX0_loseTo_31 : decode cX0_loseTo 31 = .ok (.iload_n 3, 1) := by decide +kernel
theorem dX0_loseTo_32 : decode cX0_loseTo 32 = .ok (.invokestatic 56, 3) := by decide +kernel
theorem dX0_loseTo_35 : decode cX0_loseTo 35 = .ok (.iload 4, 2) := by decide +kernel
theorem dX0_loseTo_37 : decode cX0_loseTo 37 = .ok (.if_icmp .le 40, 3) := by decide +kernel
theorem dX0_loseTo_40 : decode cX0_loseTo 40 = .ok (.iload_n 1, 1) := by decide +kernel
theorem dX0_loseTo_41 : decode cX0_loseTo 41 = .ok (.aload_n 0, 1) := by decide +kernel
theorem dX0_loseTo_42 : decode cX0_loseTo 42 = .ok (.getfield 15, 3) := by decide +kernel
theorem dX0_loseTo_45 : decode cX0_loseTo 45 = .ok (.iload 5, 2) := by decide +kernel
theorem dX0_loseTo_47 : decode cX0_loseTo 47 = .ok (.iaload, 1) := by decide +kernel
theorem dX0_loseTo_48 : decode cX0_loseTo 48 = .ok (.invokestatic 37, 3) := by decide +kernel
theorem dX0_loseTo_51 : decode cX0_loseTo 51 = .ok (.istore 6, 2) := by decide +kernel
theorem dX0_loseTo_53 : decode cX0_loseTo 53 = .ok (.aload_n 0, 1) := by decide +kernel
theorem dX0_loseTo_54 : decode cX0_loseTo 54 = .ok (.getfield 15, 3) := by decide +kernel
theorem dX0_loseTo_57 : decode cX0_loseTo 57 = .ok (.iload 5, 2) := by decide +kernel
theorem dX0_loseTo_59 : decode cX0_loseTo 59 = .ok (.dup2, 1) := by decide +kernel
theorem dX0_loseTo_60 : decode cX0_loseTo 60 = .ok (.iaload, 1) := by decide +kernel
theorem dX0_loseTo_61 : decode cX0_loseTo 61 = .ok (.iload 6, 2) := by decide +kernel
theorem dX0_loseTo_63 : decode cX0_loseTo 63 = .ok (.isub, 1) := by decide +kernel
theorem dX0_loseTo_64 : decode cX0_loseTo 64 = .ok (.iastore, 1) := by decide +kernel
theorem dX0_loseTo_65 : decode cX0_loseTo 65 = .ok (.aload_n 0, 1) := by decide +kernel
theorem dX0_loseTo_66 : decode cX0_loseTo 66 = .ok (.getfield 31, 3) := by decide +kernel
theorem dX0_loseTo_69 : decode cX0_loseTo 69 = .ok (.iload 5, 2) := by decide +kernel
theorem dX0_loseTo_71 : decode cX0_loseTo 71 = .ok (.dup2, 1) := by decide +kernel
theorem dX0_loseTo_72 : decode cX0_loseTo 72 = .ok (.iaload, 1) := by decide +kernel
theorem dX0_loseTo_73 : decode cX0_loseTo 73 = .ok (.iload 6, 2) := by decide +kernel
theorem dX0_loseTo_75 : decode cX0_loseTo 75 = .ok (.iadd, 1) := by decide +kernel
theorem dX0_loseTo_76 : decode cX0_loseTo 76 = .ok (.iastore, 1) := by decide +kernel
theorem dX0_loseTo_77 : decode cX0_loseTo 77 = .ok (.iinc 5 1, 3) := by decide +kernel
theorem dX0_loseTo_80 : decode cX0_loseTo 80 = .ok (.goto (-65), 3) := by decide +kernel
theorem dX0_loseTo_83 : decode cX0_loseTo 83 = .ok (.return_, 1) := by decide +kernel
set_option maxRecDepth 20000 in
theorem ggX1_init_X4_init : GoodIn wsX1_init wsX4_init := goodIn_r _ [10, 11, 2, 3, 12, 13, 14, 15, 16, 17, 18, 19, 20, 21, 22, 23, 24, 25, 26, 27, 28, 29, 30, 31, 32, 33, 34, 35, 36, 37, 38, 39, 40, 41, 42, 43, 44, 45, 46, 47, 48, 49, 50, 51, 52, 53, 54, 55, 56, 57, 58, 59, 60, 63, 64, 65, 66, 67, 68, 69, 70, 71, 72, 73, 74, 75, 76, 77, 78, 79, 80, 81, 82, 83, 84, 85, 86, 87, 88, 89, 90, 91, 92] (by decide +kernel) (by decide +kernel)
set_option maxRecDepth 20000 in
theorem gX1_init_X4_init_n21 : GoodIn wsX1_init (wsX4_init) := ggX1_init_X4_init
theorem dX1_init_0 : decode cX1_init 0 = .ok (.aload_n 0, 1) := by decide +kernel
theorem dX1_init_1 : decode cX1_init 1 = .ok (.invokespecial 3, 3) := by decide +kernel
theorem dX1_init_4 : decode cX1_init 4 = .ok (.aload_n 0, 1) := by decide +kernel
theorem dX1_init_5 : decode cX1_init 5 = .ok (.iconst 0, 1) := by decide +kernel
theorem dX1_init_6 : decode cX1_init 6 = .ok (.putfield 9, 3) := by decide +kernel
theorem dX1_init_9 : decode cX1_init 9 = .ok (.aload_n 0, 1) := by decide +kernel
theorem dX1_init_10 : decode cX1_init 10 = .ok (.iconst 4, 1) := by decide +kernel
theorem dX1_init_11 : decode cX1_init 11 = .ok (.anewarray 15, 3) := by decide +kernel
theorem dX1_init_14 : decode cX1_init 14 = .ok (.putfield 17, 3) := by decide +kernel
theorem dX1_init_17 : decode cX1_init 17 = .ok (.iconst 0, 1) := by decide +kernel
theorem dX1_init_18 : decode cX1_init 18 = .ok (.istore_n 1, 1) := by decide +kernel
theorem dX1_init_19 : decode cX1_init 19 = .ok (.iload_n 1, 1) := by decide +kernel
theorem dX1_init_20 : decode cX1_init 20 = .ok (.iconst 4, 1) := by decide +kernel
theorem dX1_init_21 : decode cX1_init 21 = .ok (.if_icmp .ge 22, 3) := by decide +kernel
theorem dX1_init_24 : decode cX1_init 24 = .ok (.aload_n 0, 1) := by decide +kernel
theorem dX1_init_25 : decode cX1_init 25 = .ok (.getfield 17, 3) := by decide +kernel
theorem dX1_init_28 : decode cX1_init 28 = .ok (.iload_n 1, 1) := by decide +kernel
theorem dX1_init_29 : decode cX1_init 29 = .ok (.new 15, 3) := by decide +kernel
theorem dX1_init_32 : decode cX1_init 32 = .ok (.dup, 1) := by decide +kernel
theorem dX1_init_33 : decode cX1_init 33 = .ok (.invokespecial 21, 3) := by decide +kernel
theorem dX1_init_36 : decode cX1_init 36 = .ok (.aastore, 1) := by decide +kernel
theorem dX1_init_37 : decode cX1_init 37 = .ok (.iinc 1 1, 3) := by decide +kernel
theorem dX1_init_40 : decode cX1_init 40 = .ok (.goto (-21), 3) := by decide +kernel
theorem dX1_init_43 : decode cX1_init 43 = .ok (.return_, 1) := by decide +kernel
set_option maxRecDepth 20000 in
theorem ggX1_add_X1_dropOldest : GoodIn wsX1_add wsX1_dropOldest := goodIn_r _ [7, 2, 1, 65, 66] (by decide +kernel) (by decide +kernel)
set_option maxRecDepth 20000 in
theorem gX1_add_X1_dropOldest : GoodIn wsX1_add (wsV RX1 22 RX1 yX1_dropOldest wsX1_dropOldest) := goodIn_app (goodIn_of _ (by decide +kernel)) ggX1_add_X1_dropOldest
set_option maxRecDepth 20000 in
theorem ggX1_add_X4_copyFrom : GoodIn wsX1_add wsX4_copyFrom := goodIn_r _ [12, 13, 14, 15, 16, 17, 18, 19, 20, 21, 22, 23, 24, 25, 26, 27, 28, 29, 30, 31, 32, 33, 34, 35, 36, 37, 38, 39, 40, 41, 42, 43, 44, 45, 46, 47, 48, 49, 50, 51, 52, 53, 54, 55, 56, 57, 58, 59, 60, 61, 62, 63, 64, 67, 68, 69, 70, 71, 72, 73, 74, 75, 76, 77, 78, 79, 80, 81, 82, 83, 84, 85, 86, 87, 88, 89, 90, 91, 92, 93, 94, 95, 96] (by decide +kernel) (by decide +kernel)
set_option maxRecDepth 20000 in
theorem gX1_add_X4_copyFrom : GoodIn wsX1_add (wsV RX1 25 RX4 yX4_copyFrom wsX4_copyFrom) := goodIn_app (goodIn_of _ (by decide +kernel)) ggX1_add_X4_copyFrom
theorem dX1_add_0 : decode cX1_add 0 = .ok (.aload_n 0, 1) := by decide +kernel
theorem dX1_add_1 : decode cX1_add 1 = .ok (.getfield 9, 3) := by decide +kernel
theorem dX1_add_4 : decode cX1_add 4 = .ok (.iconst 4, 1) := by decide +kernel
theorem dX1_add_5 : decode cX1_add 5 = .ok (.if_icmp .ne 7, 3) := by decide +kernel
theorem dX1_add_8 : decode cX1_add 8 = .ok (.aload_n 0, 1) := by decide +kernel
theorem dX1_add_9 : decode cX1_add 9 = .ok (.invokevirtual 22, 3) := by decide +kernel
theorem dX1_add_12 : decode cX1_add 12 = .ok (.aload_n 0, 1) := by decide +kernel
theorem dX1_add_13 : decode cX1_add 13 = .ok (.getfield 17, 3) := by decide +kernel
theorem dX1_add_16 : decode cX1_add 16 = .ok (.aload_n 0, 1) := by decide +kernel
theorem dX1_add_17 : decode cX1_add 17 = .ok (.getfield 9, 3) := by decide +kernel
theorem dX1_add_20 : decode cX1_add 20 = .ok (.aaload, 1) := by decide +kernel
theorem dX1_add_21 : decode cX1_add 21 = .ok (.aload_n 1, 1) := by decide +kernel
theorem dX1_add_22 : decode cX1_add 22 = .ok (.invokevirtual 25, 3) := by decide +kernel
theorem dX1_add_25 : decode cX1_add 25 = .ok (.aload_n 0, 1) := by decide +kernel
theorem dX1_add_26 : decode cX1_add 26 = .ok (.dup, 1) := by decide +kernel
theorem dX1_add_27 : decode cX1_add 27 = .ok (.getfield 9, 3) := by decide +kernel
theorem dX1_add_30 : decode cX1_add 30 = .ok (.iconst 1, 1) := by decide +kernel
theorem dX1_add_31 : decode cX1_add 31 = .ok (.iadd, 1) := by decide +kernel
theorem dX1_add_32 : decode cX1_add 32 = .ok (.putfield 9, 3) := by decide +kernel
theorem dX1_add_35 : decode cX1_add 35 = .ok (.return_, 1) := by decide +kernel
theorem dX1_dropOldest_0 : decode cX1_dropOldest 0 = .ok (.aload_n 0, 1) := by decide +kernel
theorem dX1_dropOldest_1 : decode cX1_dropOldest 1 = .ok (.getfield 17, 3) := by decide +kernel
theorem dX1_dropOldest_4 : decode cX1_dropOldest 4 = .ok (.iconst 0, 1) := by decide +kernel
theorem dX1_dropOldest_5 : decode cX1_dropOldest 5 = .ok (.aaload, 1) := by decide +kernel
theorem dX1_dropOldest_6 : decode cX1_dropOldest 6 = .ok (.astore_n 1, 1) := by decide +kernel
theorem dX1_dropOldest_7 : decode cX1_dropOldest 7 = .ok (.iconst 1, 1) := by decide +kernel
theorem dX1_dropOldest_8 : decode cX1_dropOldest 8 = .ok (.istore_n 2, 1) := by decide +kernel
theorem dX1_dropOldest_9 : decode cX1_dropOldest 9 = .ok (.iload_n 2, 1) := by decide +kernel
theorem dX1_dropOldest_10 : decode cX1_dropOldest 10 = .ok (.iconst 4, 1) := by decide +kernel
theorem dX1_dropOldest_11 : decode cX1_dropOldest 11 = .ok (.if_icmp .ge 23, 3) := by decide +kernel
theorem dX1_dropOldest_14 : decode cX1_dropOldest 14 = .ok (.aload_n 0, 1) := by decide +kernel
theorem dX1_dropOldest_15 : decode cX1_dropOldest 15 = .ok (.getfield 17, 3) := by decide +kernel
theorem dX1_dropOldest_18 : decode cX1_dropOldest 18 = .ok (.iload_n 2, 1) := by decide +kernel
theorem dX1_dropOldest_19 : decode cX1_dropOldest 19 = .ok (.iconst 1, 1) := by decide +kernel
theorem dX1_dropOldest_20 : decode cX1_dropOldest 20 = .ok (.isub, 1) := by decide +kernel
theorem dX1_dropOldest_21 : decode cX1_dropOldest 21 = .ok (.aload_n 0, 1) := by decide +kernel
theorem dX1_dropOldest_22 : decode cX1_dropOldest 22 = .ok (.getfield 17, 3) := by decide +kernel
theorem dX1_dropOldest_25 : decode cX1_dropOldest 25 = .ok (.iload_n 2, 1) := by decide +kernel
theorem dX1_dropOldest_26 : decode cX1_dropOldest 26 = .ok (.aaload, 1) := by decide +kernel
theorem dX1_dropOldest_27 : decode cX1_dropOldest 27 = .ok (.aastore, 1) := by decide +kernel
theorem dX1_dropOldest_28 : decode cX1_dropOldest 28 = .ok (.iinc 2 1, 3) := by decide +kernel
theorem dX1_dropOldest_31 : decode cX1_dropOldest 31 = .ok (.goto (-22), 3) := by decide +kernel
theorem dX1_dropOldest_34 : decode cX1_dropOldest 34 = .ok (.aload_n 0, 1) := by decide +kernel
theorem dX1_dropOldest_35 : decode cX1_dropOldest 35 = .ok (.getfield 17, 3) := by decide +kernel
theorem dX1_dropOldest_38 : decode cX1_dropOldest 38 = .ok (.iconst 3, 1) := by decide +kernel
theorem dX1_dropOldest_39 : decode cX1_dropOldest 39 = .ok (.aload_n 1, 1) := by decide +kernel
theorem dX1_dropOldest_40 : decode cX1_dropOldest 40 = .ok (.aastore, 1) := by decide +kernel
theorem dX1_dropOldest_41 : decode cX1_dropOldest 41 = .ok (.aload_n 0, 1) := by decide +kernel
theorem dX1_dropOldest_42 : decode cX1_dropOldest 42 = .ok (.dup, 1) := by decide +kernel
theorem dX1_dropOldest_43 : decode cX1_dropOldest 43 = .ok (.getfield 9, 3) := by decide +kernel
theorem dX1_dropOldest_46 : decode cX1_dropOldest 46 = .ok (.iconst 1, 1) := by decide +kernel
theorem dX1_dropOldest_47 : decode cX1_dropOldest 47 = .ok (.isub, 1) := by decide +kernel
theorem dX1_dropOldest_48 : decode cX1_dropOldest 48 = .ok (.putfield 9, 3) := by decide +kernel
theorem dX1_dropOldest_51 : decode cX1_dropOldest 51 = .ok (.return_, 1) := by decide +kernel
set_option maxRecDepth 20000 in
theorem ggX1_takeInto_X4_copyFrom : GoodIn wsX1_takeInto wsX4_copyFrom := goodIn_r _ [7, 8, 9, 10, 11, 12, 13, 14, 15, 16, 17, 18, 19, 20, 21, 22, 23, 24, 25, 26, 27, 28, 29, 30, 31, 32, 33, 34, 35, 36, 37, 38, 39, 40, 41, 42, 43, 44, 45, 46, 47, 48, 49, 50, 51, 52, 53, 54, 55, 56, 57, 58, 59, 62, 63, 64, 65, 66, 67, 68, 69, 70, 71, 72, 73, 74, 75, 76, 77, 78, 79, 80, 81, 82, 83, 84, 85, 86, 87, 88, 89, 90, 91] (by decide +kernel) (by decide +kernel)
set_option maxRecDepth 20000 in
theorem gX1_takeInto_X4_copyFrom : GoodIn wsX1_takeInto (wsV RX1 25 RX4 yX4_copyFrom wsX4_copyFrom) := goodIn_app (goodIn_of _ (by decide +kernel)) ggX1_takeInto_X4_copyFrom
theorem dX1_takeInto_0 : decode cX1_takeInto 0 = .ok (.aload_n 0, 1) := by decide +kernel
theorem dX1_takeInto_1 : decode cX1_takeInto 1 = .ok (.getfield 9, 3) := by decide +kernel
theorem dX1_takeInto_4 : decode cX1_takeInto 4 = .ok (.ifCond .le 26, 3) := by decide +kernel
theorem dX1_takeInto_7 : decode cX1_takeInto 7 = .ok (.aload_n 0, 1) := by decide +kernel
theorem dX1_takeInto_8 : decode cX1_takeInto 8 = .ok (.dup, 1) := by decide +kernel
theorem dX1_takeInto_9 : decode cX1_takeInto 9 = .ok (.getfield 9, 3) := by decide +kernel
theorem dX1_takeInto_12 : decode cX1_takeInto 12 = .ok (.iconst 1, 1) := by decide +kernel
theorem dX1_takeInto_13 : decode cX1_takeInto 13 = .ok (.isub, 1) := by decide +kernel
theorem dX1_takeInto_14 : decode cX1_takeInto 14 = .ok (.putfield 9, 3) := by decide +kernel
theorem dX1_takeInto_17 : decode cX1_takeInto 17 = .ok (.aload_n 1, 1) := by decide +kernel
theorem dX1_takeInto_18 : decode cX1_takeInto 18 = .ok (.aload_n 0, 1) := by decide +kernel
theorem dX1_takeInto_19 : decode cX1_takeInto 19 = .ok (.getfield 17, 3) := by decide +kernel
theorem dX1_takeInto_22 : decode cX1_takeInto 22 = .ok (.aload_n 0, 1) := by decide +kernel
theorem dX1_takeInto_23 : decode cX1_takeInto 23 = .ok (.getfield 9, 3) := by decide +kernel
theorem dX1_takeInto_26 : decode cX1_takeInto 26 = .ok (.aaload, 1) := by decide +kernel
theorem dX1_takeInto_27 : decode cX1_takeInto 27 = .ok (.invokevirtual 25, 3) := by decide +kernel
theorem dX1_takeInto_30 : decode cX1_takeInto 30 = .ok (.return_, 1) := by decide +kernel
theorem dX2_init_0 : decode cX2_init 0 = .ok (.aload_n 0, 1) := by decide +kernel
theorem dX2_init_1 : decode cX2_init 1 = .ok (.invokespecial 3, 3) := by decide +kernel
theorem dX2_init_4 : decode cX2_init 4 = .ok (.aload_n 0, 1) := by decide +kernel
theorem dX2_init_5 : decode cX2_init 5 = .ok (.iconst 0, 1) := by decide +kernel
theorem dX2_init_6 : decode cX2_init 6 = .ok (.putfield 9, 3) := by decide +kernel
theorem dX2_init_9 : decode cX2_init 9 = .ok (.aload_n 0, 1) := by decide +kernel
theorem dX2_init_10 : decode cX2_init 10 = .ok (.iconst 0, 1) := by decide +kernel
theorem dX2_init_11 : decode cX2_init 11 = .ok (.putfield 15, 3) := by decide +kernel
theorem dX2_init_14 : decode cX2_init 14 = .ok (.aload_n 0, 1) := by decide +kernel
theorem dX2_init_15 : decode cX2_init 15 = .ok (.bipush 10, 2) := by decide +kernel
theorem dX2_init_17 : decode cX2_init 17 = .ok (.newarray .int, 2) := by decide +kernel
theorem dX2_init_19 : decode cX2_init 19 = .ok (.putfield 18, 3) := by decide +kernel
theorem dX2_init_22 : decode cX2_init 22 = .ok (.aload_n 0, 1) := by decide +kernel
theorem dX2_init_23 : decode cX2_init 23 = .ok (.bipush 10, 2) := by decide +kernel
theorem dX2_init_25 : decode cX2_init 25 = .ok (.newarray .int, 2) := by decide +kernel
theorem dX2_init_27 : decode cX2_init 27 = .ok (.putfield 22, 3) := by decide +kernel
theorem dX2_init_30 : decode cX2_init 30 = .ok (.aload_n 0, 1) := by decide +kernel
theorem dX2_init_31 : decode cX2_init 31 = .ok (.bipush 10, 2) := by decide +kernel
theorem dX2_init_33 : decode cX2_init 33 = .ok (.newarray .int, 2) := by decide +kernel
theorem dX2_init_35 : decode cX2_init 35 = .ok (.putfield 25, 3) := by decide +kernel
theorem dX2_init_38 : decode cX2_init 38 = .ok (.return_, 1) := by decide +kernel
theorem dX2_add_0 : decode cX2_add 0 = .ok (.aload_n 0, 1) := by decide +kernel
theorem dX2_add_1 : decode cX2_add 1 = .ok (.getfield 18, 3) := by decide +kernel
theorem dX2_add_4 : decode cX2_add 4 = .ok (.aload_n 0, 1) := by decide +kernel
theorem dX2_add_5 : decode cX2_add 5 = .ok (.getfield 15, 3) := by decide +kernel
theorem dX2_add_8 : decode cX2_add 8 = .ok (.iload_n 1, 1) := by decide +kernel
theorem dX2_add_9 : decode cX2_add 9 = .ok (.iastore, 1) := by decide +kernel
theorem dX2_add_10 : decode cX2_add 10 = .ok (.aload_n 0, 1) := by decide +kernel
theorem dX2_add_11 : decode cX2_add 11 = .ok (.getfield 22, 3) := by decide +kernel
theorem dX2_add_14 : decode cX2_add 14 = .ok (.aload_n 0, 1) := by decide +kernel
theorem dX2_add_15 : decode cX2_add 15 = .ok (.getfield 15, 3) := by decide +kernel
theorem dX2_add_18 : decode cX2_add 18 = .ok (.iload_n 2, 1) := by decide +kernel
theorem dX2_add_19 : decode cX2_add 19 = .ok (.iastore, 1) := by decide +kernel
theorem dX2_add_20 : decode cX2_add 20 = .ok (.aload_n 0, 1) := by decide +kernel
theorem dX2_add_21 : decode cX2_add 21 = .ok (.getfield 25, 3) := by decide +kernel
theorem dX2_add_24 : decode cX2_add 24 = .ok (.aload_n 0, 1) := by decide +kernel
theorem dX2_add_25 : decode cX2_add 25 = .ok (.getfield 15, 3) := by decide +kernel
theorem dX2_add_28 : decode cX2_add 28 = .ok (.iload_n 3, 1) := by decide +kernel
theorem dX2_add_29 : decode cX2_add 29 = .ok (.iastore, 1) := by decide +kernel
theorem dX2_add_30 : decode cX2_add 30 = .ok (.aload_n 0, 1) := by decide +kernel
theorem dX2_add_31 : decode cX2_add 31 = .ok (.aload_n 0, 1) := by decide +kernel
theorem dX2_add_32 : decode cX2_add 32 = .ok (.getfield 15, 3) := by decide +kernel
theorem dX2_add_35 : decode cX2_add 35 = .ok (.iconst 1, 1) := by decide +kernel
theorem dX2_add_36 : decode cX2_add 36 = .ok (.iadd, 1) := by decide +kernel
theorem dX2_add_37 : decode cX2_add 37 = .ok (.bipush 10, 2) := by decide +kernel
theorem dX2_add_39 : decode cX2_add 39 = .ok (.irem, 1) := by decide +kernel
theorem dX2_add_40 : decode cX2_add 40 = .ok (.putfield 15, 3) := by decide +kernel
theorem dX2_add_43 : decode cX2_add 43 = .ok (.aload_n 0, 1) := by decide +kernel
theorem dX2_add_44 : decode cX2_add 44 = .ok (.getfield 9, 3) := by decide +kernel
theorem dX2_add_47 : decode cX2_add 47 = .ok (.bipush 10, 2) := by decide +kernel
theorem dX2_add_49 : decode cX2_add 49 = .ok (.if_icmp .ge 13, 3) := by decide +kernel
theorem dX2_add_52 : decode cX2_add 52 = .ok (.aload_n 0, 1) := by decide +kernel
theorem dX2_add_53 : decode cX2_add 53 = .ok (.dup, 1) := by decide +kernel
theorem dX2_add_54 : decode cX2_add 54 = .ok (.getfield 9, 3) := by decide +kernel
theorem dX2_add_57 : decode cX2_add 57 = .ok (.iconst 1, 1) := by decide +kernel
theorem dX2_add_58 : decode cX2_add 58 = .ok (.iadd, 1) := by decide +kernel
theorem dX2_add_59 : decode cX2_add 59 = .ok (.putfield 9, 3) := by decide +kernel
theorem dX2_add_62 : decode cX2_add 62 = .ok (.return_, 1) := by decide +kernel
set_option maxRecDepth 20000 in
theorem ggX2_placeOf_J9_floorMod_7cf53 : GoodIn wsX2_placeOf wsJ9_floorMod_7cf53 := goodIn_r _ [5] (by decide +kernel) (by decide +kernel)
set_option maxRecDepth 20000 in
theorem gX2_placeOf_J9_floorMod_7cf53 : GoodIn wsX2_placeOf (va_wsS RX2 28 yJ9_floorMod_7cf53 wsJ9_floorMod_7cf53) := goodIn_app (goodIn_of _ (by decide +kernel)) ggX2_placeOf_J9_floorMod_7cf53
theorem dX2_placeOf_0 : decode cX2_placeOf 0 = .ok (.aload_n 0, 1) := by decide +kernel
theorem dX2_placeOf_1 : decode cX2_placeOf 1 = .ok (.getfield 15, 3) := by decide +kernel
theorem dX2_placeOf_4 : decode cX2_placeOf 4 = .ok (.iconst 1, 1) := by decide +kernel
theorem dX2_placeOf_5 : decode cX2_placeOf 5 = .ok (.isub, 1) := by decide +kernel
theorem dX2_placeOf_6 : decode cX2_placeOf 6 = .ok (.iload_n 1, 1) := by decide +kernel
theorem dX2_placeOf_7 : decode cX2_placeOf 7 = .ok (.isub, 1) := by decide +kernel
theorem dX2_placeOf_8 : decode cX2_placeOf 8 = .ok (.bipush 10, 2) := by decide +kernel
theorem dX2_placeOf_10 : decode cX2_placeOf 10 = .ok (.invokestatic 28, 3) := by decide +kernel
theorem dX2_placeOf_13 : decode cX2_placeOf 13 = .ok (.ireturn, 1) := by decide +kernel
theorem dX2_copyFrom_0 : decode cX2_copyFrom 0 = .ok (.aload_n 0, 1) := by decide +kernel
theorem dX2_copyFrom_1 : decode cX2_copyFrom 1 = .ok (.aload_n 1, 1) := by decide +kernel
theorem dX2_copyFrom_2 : decode cX2_copyFrom 2 = .ok (.getfield 9, 3) := by decide +kernel
theorem dX2_copyFrom_5 : decode cX2_copyFrom 5 = .ok (.putfield 9, 3) := by decide +kernel
theorem dX2_copyFrom_8 : decode cX2_copyFrom 8 = .ok (.aload_n 0, 1) := by decide +kernel
theorem dX2_copyFrom_9 : decode cX2_copyFrom 9 = .ok (.aload_n 1, 1) := by decide +kernel
theorem dX2_copyFrom_10 : decode cX2_copyFrom 10 = .ok (.getfield 15, 3) := by decide +kernel
theorem dX2_copyFrom_13 : decode cX2_copyFrom 13 = .ok (.putfield 15, 3) := by decide +kernel
theorem dX2_copyFrom_16 : decode cX2_copyFrom 16 = .ok (.aload_n 1, 1) := by decide +kernel
theorem dX2_copyFrom_17 : decode cX2_copyFrom 17 = .ok (.getfield 18, 3) := by decide +kernel
theorem dX2_copyFrom_20 : decode cX2_copyFrom 20 = .ok (.iconst 0, 1) := by decide +kernel
theorem dX2_copyFrom_21 : decode cX2_copyFrom 21 = .ok (.aload_n 0, 1) := by decide +kernel
theorem dX2_copyFrom_22 : decode cX2_copyFrom 22 = .ok (.getfield 18, 3) := by decide +kernel
theorem dX2_copyFrom_25 : decode cX2_copyFrom 25 = .ok (.iconst 0, 1) := by decide +kernel
theorem dX2_copyFrom_26 : decode cX2_copyFrom 26 = .ok (.bipush 10, 2) := by decide +kernel
theorem dX2_copyFrom_28 : decode cX2_copyFrom 28 = .ok (.invokestatic 34, 3) := by decide +kernel
theorem dX2_copyFrom_31 : decode cX2_copyFrom 31 = .ok (.aload_n 1, 1) := by decide +kernel
theorem dX2_copyFrom_32 : decode cX2_copyFrom 32 = .ok (.getfield 22, 3) := by decide +kernel
theorem dX2_copyFrom_35 : decode cX2_copyFrom 35 = .ok (.iconst 0, 1) := by decide +kernel
theorem dX2_copyFrom_36 : decode cX2_copyFrom 36 = .ok (.aload_n 0, 1) := by decide +kernel
theorem dX2_copyFrom_37 : decode cX2_copyFrom 37 = .ok (.getfield 22, 3) := by decide +kernel
theorem dX2_copyFrom_40 : decode cX2_copyFrom 40 = .ok (.iconst 0, 1) := by decide +kernel
theorem dX2_copyFrom_41 : decode cX2_copyFrom 41 = .ok (.bipush 10, 2) := by decide +kernel
theorem dX2_copyFrom_43 : decode cX2_copyFrom 43 = .ok (.invokestatic 34, 3) := by decide +kernel
theorem dX2_copyFrom_46 : decode cX2_copyFrom 46 = .ok (.aload_n 1, 1) := by decide +kernel
theorem dX2_copyFrom_47 : decode cX2_copyFrom 47 = .ok (.getfield 25, 3) := by decide +kernel
theorem dX2_copyFrom_50 : decode cX2_copyFrom 50 = .ok (.iconst 0, 1) := by decide +kernel
theorem dX2_copyFrom_51 : decode cX2_copyFrom 51 = .ok (.aload_n 0, 1) := by decide +kernel
theorem dX2_copyFrom_52 : decode cX2_copyFrom 52 = .ok (.getfield 25, 3) := by decide +kernel
theorem dX2_copyFrom_55 : decode cX2_copyFrom 55 = .ok (.iconst 0, 1) := by decide +kernel
theorem dX2_copyFrom_56 : decode cX2_copyFrom 56 = .ok (.bipush 10, 2) := by decide +kernel
theorem dX2_copyFrom_58 : decode cX2_copyFrom 58 = .ok (.invokestatic 34, 3) := by decide +kernel
theorem dX2_copyFrom_61 : decode cX2_copyFrom 61 = .ok (.return_, 1) := by decide +kernel
theorem dX3_init_0 : decode cX3_init 0 = .ok (.aload_n 0, 1) := by decide +kernel
theorem dX3_init_1 : decode cX3_init 1 = .ok (.invokespecial 3, 3) := by decide +kernel
theorem dX3_init_4 : decode cX3_init 4 = .ok (.aload_n 0, 1) := by decide +kernel
theorem dX3_init_5 : decode cX3_init 5 = .ok (.iconst 0, 1) := by decide +kernel
theorem dX3_init_6 : decode cX3_init 6 = .ok (.putfield 9, 3) := by decide +kernel
theorem dX3_init_9 : decode cX3_init 9 = .ok (.aload_n 0, 1) := by decide +kernel
theorem dX3_init_10 : decode cX3_init 10 = .ok (.iconst 5, 1) := by decide +kernel
theorem dX3_init_11 : decode cX3_init 11 = .ok (.newarray .int, 2) := by decide +kernel
theorem dX3_init_13 : decode cX3_init 13 = .ok (.putfield 15, 3) := by decide +kernel
theorem dX3_init_16 : decode cX3_init 16 = .ok (.aload_n 0, 1) := by decide +kernel
theorem dX3_init_17 : decode cX3_init 17 = .ok (.iconst 5, 1) := by decide +kernel
theorem dX3_init_18 : decode cX3_init 18 = .ok (.newarray .int, 2) := by decide +kernel
theorem dX3_init_20 : decode cX3_init 20 = .ok (.putfield 19, 3) := by decide +kernel
theorem dX3_init_23 : decode cX3_init 23 = .ok (.aload_n 0, 1) := by decide +kernel
theorem dX3_init_24 : decode cX3_init 24 = .ok (.iconst 5, 1) := by decide +kernel
theorem dX3_init_25 : decode cX3_init 25 = .ok (.newarray .int, 2) := by decide +kernel
theorem dX3_init_27 : decode cX3_init 27 = .ok (.putfield 22, 3) := by decide +kernel
theorem dX3_init_30 : decode cX3_init 30 = .ok (.aload_n 0, 1) := by decide +kernel
theorem dX3_init_31 : decode cX3_init 31 = .ok (.iconst 5, 1) := by decide +kernel
theorem dX3_init_32 : decode cX3_init 32 = .ok (.newarray .int, 2) := by decide +kernel
theorem dX3_init_34 : decode cX3_init 34 = .ok (.putfield 25, 3) := by decide +kernel
theorem dX3_init_37 : decode cX3_init 37 = .ok (.return_, 1) := by decide +kernel
theorem dX3_has_0 : decode cX3_has 0 = .ok (.iload_n 1, 1) := by decide +kernel
theorem dX3_has_1 : decode cX3_has 1 = .ok (.ifCond .lt 15, 3) := by decide +kernel
theorem dX3_has_4 : decode cX3_has 4 = .ok (.iload_n 1, 1) := by decide +kernel
theorem dX3_has_5 : decode cX3_has 5 = .ok (.aload_n 0, 1) := by decide +kernel
theorem dX3_has_6 : decode cX3_has 6 = .ok (.getfield 9, 3) := by decide +kernel
theorem dX3_has_9 : decode cX3_has 9 = .ok (.if_icmp .ge 7, 3) := by decide +kernel
theorem dX3_has_12 : decode cX3_has 12 = .ok (.iconst 1, 1) := by decide +kernel
theorem dX3_has_13 : decode cX3_has 13 = .ok (.goto 4, 3) := by decide +kernel
theorem dX3_has_16 : decode cX3_has 16 = .ok (.iconst 0, 1) := by decide +kernel
theorem dX3_has_17 : decode cX3_has 17 = .ok (.ireturn, 1) := by decide +kernel
theorem dX3_addStage_0 : decode cX3_addStage 0 = .ok (.aload_n 0, 1) := by decide +kernel
theorem dX3_addStage_1 : decode cX3_addStage 1 = .ok (.getfield 9, 3) := by decide +kernel
theorem dX3_addStage_4 : decode cX3_addStage 4 = .ok (.iconst 5, 1) := by decide +kernel
theorem dX3_addStage_5 : decode cX3_addStage 5 = .ok (.if_icmp .lt 5, 3) := by decide +kernel
theorem dX3_addStage_8 : decode cX3_addStage 8 = .ok (.iconst 0, 1) := by decide +kernel
theorem dX3_addStage_9 : decode cX3_addStage 9 = .ok (.ireturn, 1) := by decide +kernel
theorem dX3_addStage_10 : decode cX3_addStage 10 = .ok (.aload_n 0, 1) := by decide +kernel
theorem dX3_addStage_11 : decode cX3_addStage 11 = .ok (.getfield 15, 3) := by decide +kernel
theorem dX3_addStage_14 : decode cX3_addStage 14 = .ok (.aload_n 0, 1) := by decide +kernel
theorem dX3_addStage_15 : decode cX3_addStage 15 = .ok (.getfield 9, 3) := by decide +kernel
theorem dX3_addStage_18 : decode cX3_addStage 18 = .ok (.iload_n 1, 1) := by decide +kernel
theorem dX3_addStage_19 : decode cX3_addStage 19 = .ok (.iastore, 1) := by decide +kernel
theorem dX3_addStage_20 : decode cX3_addStage 20 = .ok (.aload_n 0, 1) := by decide +kernel
theorem dX3_addStage_21 : decode cX3_addStage 21 = .ok (.getfield 19, 3) := by decide +kernel
theorem dX3_addStage_24 : decode cX3_addStage 24 = .ok (.aload_n 0, 1) := by decide +kernel
theorem dX3_addStage_25 : decode cX3_addStage 25 = .ok (.getfield 9, 3) := by decide +kernel
theorem dX3_addStage_28 : decode cX3_addStage 28 = .ok (.iconst 0, 1) := by decide +kernel
theorem dX3_addStage_29 : decode cX3_addStage 29 = .ok (.iastore, 1) := by decide +kernel
theorem dX3_addStage_30 : decode cX3_addStage 30 = .ok (.aload_n 0, 1) := by decide +kernel
theorem dX3_addStage_31 : decode cX3_addStage 31 = .ok (.getfield 22, 3) := by decide +kernel
theorem dX3_addStage_34 : decode cX3_addStage 34 = .ok (.aload_n 0, 1) := by decide +kernel
theorem dX3_addStage_35 : decode cX3_addStage 35 = .ok (.getfield 9, 3) := by decide +kernel
theorem dX3_addStage_38 : decode cX3_addStage 38 = .ok (.iconst 0, 1) := by decide +kernel
theorem dX3_addStage_39 : decode cX3_addStage 39 = .ok (.iastore, 1) := by decide +kernel
theorem dX3_addStage_40 : decode cX3_addStage 40 = .ok (.aload_n 0, 1) := by decide +kernel
theorem dX3_addStage_41 : decode cX3_addStage 41 = .ok (.getfield 25, 3) := by decide +kernel
theorem dX3_addStage_44 : decode cX3_addStage 44 = .ok (.aload_n 0, 1) := by decide +kernel
theorem dX3_addStage_45 : decode cX3_addStage 45 = .ok (.getfield 9, 3) := by decide +kernel
theorem dX3_addStage_48 : decode cX3_addStage 48 = .ok (.iconst 0, 1) := by decide +kernel
theorem dX3_addStage_49 : decode cX3_addStage 49 = .ok (.iastore, 1) := by decide +kernel
theorem dX3_addStage_50 : decode cX3_addStage 50 = .ok (.aload_n 0, 1) := by decide +kernel
theorem dX3_addStage_51 : decode cX3_addStage 51 = .ok (.dup, 1) := by decide +kernel
theorem dX3_addStage_52 : decode cX3_addStage 52 = .ok (.getfield 9, 3) := by decide +kernel
theorem dX3_addStage_55 : decode cX3_addStage 55 = .ok (.iconst 1, 1) := by decide +kernel
theorem dX3_addStage_56 : decode cX3_addStage 56 = .ok (.iadd, 1) := by decide +kernel
theorem dX3_addStage_57 : decode cX3_addStage 57 = .ok (.putfield 9, 3) := by decide +kernel
theorem dX3_addStage_60 : decode cX3_addStage 60 = .ok (.iconst 1, 1) := by decide +kernel
theorem dX3_addStage_61 : decode cX3_addStage 61 = .ok (.ireturn, 1) := by decide +kernel
theorem dX3_copyFrom_0 : decode cX3_copyFrom 0 = .ok (.aload_n 0, 1) := by decide +kernel
theorem dX3_copyFrom_1 : decode cX3_copyFrom 1 = .ok (.aload_n 1, 1) := by decide +kernel
theorem dX3_copyFrom_2 : decode cX3_copyFrom 2 = .ok (.getfield 9, 3) := by decide +kernel
theorem dX3_copyFrom_5 : decode cX3_copyFrom 5 = .ok (.putfield 9, 3) := by decide +kernel
theorem dX3_copyFrom_8 : decode cX3_copyFrom 8 = .ok (.aload_n 1, 1) := by decide +kernel
theorem dX3_copyFrom_9 : decode cX3_copyFrom 9 = .ok (.getfield 15, 3) := by decide +kernel
theorem dX3_copyFrom_12 : decode cX3_copyFrom 12 = .ok (.iconst 0, 1) := by decide +kernel
theorem dX3_copyFrom_13 : decode cX3_copyFrom 13 = .ok (.aload_n 0, 1) := by decide +kernel
theorem dX3_copyFrom_14 : decode cX3_copyFrom 14 = .ok (.getfield 15, 3) := by decide +kernel
theorem dX3_copyFrom_17 : decode cX3_copyFrom 17 = .ok (.iconst 0, 1) := by decide +kernel
theorem dX3_copyFrom_18 : decode cX3_copyFrom 18 = .ok (.iconst 5, 1) := by decide +kernel
theorem dX3_copyFrom_19 : decode cX3_copyFrom 19 = .ok (.invokestatic 28, 3) := by decide +kernel
theorem dX3_copyFrom_22 : decode cX3_copyFrom 22 = .ok (.aload_n 1, 1) := by decide +kernel
theorem dX3_copyFrom_23 : decode cX3_copyFrom 23 = .ok (.getfield 19, 3) := by decide +kernel
theorem dX3_copyFrom_26 : decode cX3_copyFrom 26 = .ok (.iconst 0, 1) := by decide +kernel
theorem dX3_copyFrom_27 : decode cX3_copyFrom 27 = .ok (.aload_n 0, 1) := by decide +kernel
theorem dX3_copyFrom_28 : decode cX3_copyFrom 28 = .ok (.getfield 19, 3) := by decide +kernel
theorem dX3_copyFrom_31 : decode cX3_copyFrom 31 = .ok (.iconst 0, 1) := by decide +kernel
theorem dX3_copyFrom_32 : decode cX3_copyFrom 32 = .ok (.iconst 5, 1) := by decide +kernel
theorem dX3_copyFrom_33 : decode cX3_copyFrom 33 = .ok (.invokestatic 28, 3) := by decide +kernel
theorem dX3_copyFrom_36 : decode cX3_copyFrom 36 = .ok (.aload_n 1, 1) := by decide +kernel
theorem dX3_copyFrom_37 : decode cX3_copyFrom 37 = .ok (.getfield 22, 3) := by decide +kernel
theorem dX3_copyFrom_40 : decode cX3_copyFrom 40 = .ok (.iconst 0, 1) := by decide +kernel
theorem dX3_copyFrom_41 : decode cX3_copyFrom 41 = .ok (.aload_n 0, 1) := by decide +kernel
theorem dX3_copyFrom_42 : decode cX3_copyFrom 42 = .ok (.getfield 22, 3) := by decide +kernel
theorem dX3_copyFrom_45 : decode cX3_copyFrom 45 = .ok (.iconst 0, 1) := by decide +kernel
theorem dX3_copyFrom_46 : decode cX3_copyFrom 46 = .ok (.iconst 5, 1) := by decide +kernel
theorem dX3_copyFrom_47 : decode cX3_copyFrom 47 = .ok (.invokestatic 28, 3) := by decide +kernel
theorem dX3_copyFrom_50 : decode cX3_copyFrom 50 = .ok (.aload_n 1, 1) := by decide +kernel
theorem dX3_copyFrom_51 : decode cX3_copyFrom 51 = .ok (.getfield 25, 3) := by decide +kernel
theorem dX3_copyFrom_54 : decode cX3_copyFrom 54 = .ok (.iconst 0, 1) := by decide +kernel
theorem dX3_copyFrom_55 : decode cX3_copyFrom 55 = .ok (.aload_n 0, 1) := by decide +kernel
theorem dX3_copyFrom_56 : decode cX3_copyFrom 56 = .ok (.getfield 25, 3) := by decide +kernel
theorem dX3_copyFrom_59 : decode cX3_copyFrom 59 = .ok (.iconst 0, 1) := by decide +kernel
theorem dX3_copyFrom_60 : decode cX3_copyFrom 60 = .ok (.iconst 5, 1) := by decide +kernel
theorem dX3_copyFrom_61 : decode cX3_copyFrom 61 = .ok (.invokestatic 28, 3) := by decide +kernel
theorem dX3_copyFrom_64 : decode cX3_copyFrom 64 = .ok (.return_, 1) := by decide +kernel
set_option maxRecDepth 20000 in
theorem ggX3_isInRange_X3_hasNumbersInRange : GoodIn wsX3_isInRange wsX3_hasNumbersInRange := goodIn_r _ [7, 8, 9, 10, 11, 12, 13, 14, 15, 16, 17, 18] (by decide +kernel) (by decide +kernel)
set_option maxRecDepth 20000 in
theorem gX3_isInRange_X3_hasNumbersInRange : GoodIn wsX3_isInRange (wsV RX3 34 RX3 yX3_hasNumbersInRange wsX3_hasNumbersInRange) := goodIn_app (goodIn_of _ (by decide +kernel)) ggX3_isInRange_X3_hasNumbersInRange
set_option maxRecDepth 20000 in
theorem ggX3_isInRange_X6_isIn : GoodIn wsX3_isInRange wsX6_isIn := goodIn_r _ [13] (by decide +kernel) (by decide +kernel)
set_option maxRecDepth 20000 in
theorem gX3_isInRange_X6_isIn_n38 : GoodIn wsX3_isInRange (wsX6_isIn) := ggX3_isInRange_X6_isIn
theorem dX3_isInRange_0 : decode cX3_isInRange 0 = .ok (.iconst 0, 1) := by decide +kernel
theorem dX3_isInRange_1 : decode cX3_isInRange 1 = .ok (.istore_n 1, 1) := by decide +kernel
theorem dX3_isInRange_2 : decode cX3_isInRange 2 = .ok (.iload_n 1, 1) := by decide +kernel
theorem dX3_isInRange_3 : decode cX3_isInRange 3 = .ok (.aload_n 0, 1) := by decide +kernel
theorem dX3_isInRange_4 : decode cX3_isInRange 4 = .ok (.getfield 9, 3) := by decide +kernel
theorem dX3_isInRange_7 : decode cX3_isInRange 7 = .ok (.if_icmp .ge 35, 3) := by decide +kernel
theorem dX3_isInRange_10 : decode cX3_isInRange 10 = .ok (.aload_n 0, 1) := by decide +kernel
theorem dX3_isInRange_11 : decode cX3_isInRange 11 = .ok (.iload_n 1, 1) := by decide +kernel
theorem dX3_isInRange_12 : decode cX3_isInRange 12 = .ok (.invokevirtual 34, 3) := by decide +kernel
theorem dX3_isInRange_15 : decode cX3_isInRange 15 = .ok (.ifCond .eq 19, 3) := by decide +kernel
theorem dX3_isInRange_18 : decode cX3_isInRange 18 = .ok (.aload_n 0, 1) := by decide +kernel
theorem dX3_isInRange_19 : decode cX3_isInRange 19 = .ok (.getfield 25, 3) := by decide +kernel
theorem dX3_isInRange_22 : decode cX3_isInRange 22 = .ok (.iload_n 1, 1) := by decide +kernel
theorem dX3_isInRange_23 : decode cX3_isInRange 23 = .ok (.iaload, 1) := by decide +kernel
theorem dX3_isInRange_24 : decode cX3_isInRange 24 = .ok (.iconst 0, 1) := by decide +kernel
theorem dX3_isInRange_25 : decode cX3_isInRange 25 = .ok (.sipush 999, 3) := by decide +kernel
theorem dX3_isInRange_28 : decode cX3_isInRange 28 = .ok (.invokestatic 38, 3) := by decide +kernel
theorem dX3_isInRange_31 : decode cX3_isInRange 31 = .ok (.ifCond .ne 5, 3) := by decide +kernel
theorem dX3_isInRange_34 : decode cX3_isInRange 34 = .ok (.iconst 0, 1) := by decide +kernel
theorem dX3_isInRange_35 : decode cX3_isInRange 35 = .ok (.ireturn, 1) := by decide +kernel
theorem dX3_isInRange_36 : decode cX3_isInRange 36 = .ok (.iinc 1 1, 3) := by decide +kernel
theorem dX3_isInRange_39 : decode cX3_isInRange 39 = .ok (.goto (-37), 3) := by decide +kernel
theorem dX3_isInRange_42 : decode cX3_isInRange 42 = .ok (.iconst 1, 1) := by decide +kernel
theorem dX3_isInRange_43 : decode cX3_isInRange 43 = .ok (.ireturn, 1) := by decide +kernel
set_option maxRecDepth 20000 in
theorem ggX3_hasNumbersInRange_X6_isIn : GoodIn wsX3_hasNumbersInRange wsX6_isIn := goodIn_r _ [6] (by decide +kernel) (by decide +kernel)
set_option maxRecDepth 20000 in
theorem gX3_hasNumbersInRange_X6_isIn_n38 : GoodIn wsX3_hasNumbersInRange (wsX6_isIn) := ggX3_hasNumbersInRange_X6_isIn
theorem dX3_hasNumbersInRange_0 : decode cX3_hasNumbersInRange 0 = .ok (.aload_n 0, 1) := by decide +kernel
theorem dX3_hasNumbersInRange_1 : decode cX3_hasNumbersInRange 1 = .ok (.getfield 15, 3) := by decide +kernel
theorem dX3_hasNumbersInRange_4 : decode cX3_hasNumbersInRange 4 = .ok (.iload_n 1, 1) := by decide +kernel
theorem dX3_hasNumbersInRange_5 : decode cX3_hasNumbersInRange 5 = .ok (.iaload, 1) := by decide +kernel
theorem dX3_hasNumbersInRange_6 : decode cX3_hasNumbersInRange 6 = .ok (.lookupswitch 106 #[(0, 26), (1, 66)], 26) := by decide +kernel
theorem dX3_hasNumbersInRange_32 : decode cX3_hasNumbersInRange 32 = .ok (.aload_n 0, 1) := by decide +kernel
theorem dX3_hasNumbersInRange_33 : decode cX3_hasNumbersInRange 33 = .ok (.getfield 19, 3) := by decide +kernel
theorem dX3_hasNumbersInRange_36 : decode cX3_hasNumbersInRange 36 = .ok (.iload_n 1, 1) := by decide +kernel
theorem dX3_hasNumbersInRange_37 : decode cX3_hasNumbersInRange 37 = .ok (.iaload, 1) := by decide +kernel
theorem dX3_hasNumbersInRange_38 : decode cX3_hasNumbersInRange 38 = .ok (.iconst 1, 1) := by decide +kernel
theorem dX3_hasNumbersInRange_39 : decode cX3_hasNumbersInRange 39 = .ok (.sipush 2000, 3) := by decide +kernel
theorem dX3_hasNumbersInRange_42 : decode cX3_hasNumbersInRange 42 = .ok (.invokestatic 38, 3) := by decide +kernel
theorem dX3_hasNumbersInRange_45 : decode cX3_hasNumbersInRange 45 = .ok (.ifCond .eq 25, 3) := by decide +kernel
theorem dX3_hasNumbersInRange_48 : decode cX3_hasNumbersInRange 48 = .ok (.aload_n 0, 1) := by decide +kernel
theorem dX3_hasNumbersInRange_49 : decode cX3_hasNumbersInRange 49 = .ok (.getfield 22, 3) := by decide +kernel
theorem dX3_hasNumbersInRange_52 : decode cX3_hasNumbersInRange 52 = .ok (.iload_n 1, 1) := by decide +kernel
theorem dX3_hasNumbersInRange_53 : decode cX3_hasNumbersInRange 53 = .ok (.iaload, 1) := by decide +kernel
theorem dX3_hasNumbersInRange_54 : decode cX3_hasNumbersInRange 54 = .ok (.sipush 3000, 3) := by decide +kernel
theorem dX3_hasNumbersInRange_57 : decode cX3_hasNumbersInRange 57 = .ok (.sipush 4500, 3) := by decide +kernel
theorem dX3_hasNumbersInRange_60 : decode cX3_hasNumbersInRange 60 = .ok (.invokestatic 38, 3) := by decide +kernel
theorem dX3_hasNumbersInRange_63 : decode cX3_hasNumbersInRange 63 = .ok (.ifCond .eq 7, 3) := by decide +kernel
theorem dX3_hasNumbersInRange_66 : decode cX3_hasNumbersInRange 66 = .ok (.iconst 1, 1) := by decide +kernel
theorem dX3_hasNumbersInRange_67 : decode cX3_hasNumbersInRange 67 = .ok (.goto 4, 3) := by decide +kernel
theorem dX3_hasNumbersInRange_70 : decode cX3_hasNumbersInRange 70 = .ok (.iconst 0, 1) := by decide +kernel
theorem dX3_hasNumbersInRange_71 : decode cX3_hasNumbersInRange 71 = .ok (.ireturn, 1) := by decide +kernel
theorem dX3_hasNumbersInRange_72 : decode cX3_hasNumbersInRange 72 = .ok (.aload_n 0, 1) := by decide +kernel
theorem dX3_hasNumbersInRange_73 : decode cX3_hasNumbersInRange 73 = .ok (.getfield 19, 3) := by decide +kernel
theorem dX3_hasNumbersInRange_76 : decode cX3_hasNumbersInRange 76 = .ok (.iload_n 1, 1) := by decide +kernel
theorem dX3_hasNumbersInRange_77 : decode cX3_hasNumbersInRange 77 = .ok (.iaload, 1) := by decide +kernel
theorem dX3_hasNumbersInRange_78 : decode cX3_hasNumbersInRange 78 = .ok (.sipush 3000, 3) := by decide +kernel
theorem dX3_hasNumbersInRange_81 : decode cX3_hasNumbersInRange 81 = .ok (.sipush 4500, 3) := by decide +kernel
theorem dX3_hasNumbersInRange_84 : decode cX3_hasNumbersInRange 84 = .ok (.invokestatic 38, 3) := by decide +kernel
theorem dX3_hasNumbersInRange_87 : decode cX3_hasNumbersInRange 87 = .ok (.ifCond .eq 23, 3) := by decide +kernel
theorem dX3_hasNumbersInRange_90 : decode cX3_hasNumbersInRange 90 = .ok (.aload_n 0, 1) := by decide +kernel
theorem dX3_hasNumbersInRange_91 : decode cX3_hasNumbersInRange 91 = .ok (.getfield 22, 3) := by decide +kernel
theorem dX3_hasNumbersInRange_94 : decode cX3_hasNumbersInRange 94 = .ok (.iload_n 1, 1) := by decide +kernel
theorem dX3_hasNumbersInRange_95 : decode cX3_hasNumbersInRange 95 = .ok (.iaload, 1) := by decide +kernel
theorem dX3_hasNumbersInRange_96 : decode cX3_hasNumbersInRange 96 = .ok (.iconst 0, 1) := by decide +kernel
theorem dX3_hasNumbersInRange_97 : decode cX3_hasNumbersInRange 97 = .ok (.sipush 2000, 3) := by decide +kernel
theorem dX3_hasNumbersInRange_100 : decode cX3_hasNumbersInRange 100 = .ok (.invokestatic 38, 3) := by decide +kernel
theorem dX3_hasNumbersInRange_103 : decode cX3_hasNumbersInRange 103 = .ok (.ifCond .eq 7, 3) := by decide +kernel
theorem dX3_hasNumbersInRange_106 : decode cX3_hasNumbersInRange 106 = .ok (.iconst 1, 1) := by decide +kernel
theorem dX3_hasNumbersInRange_107 : decode cX3_hasNumbersInRange 107 = .ok (.goto 4, 3) := by decide +kernel
theorem dX3_hasNumbersInRange_110 : decode cX3_hasNumbersInRange 110 = .ok (.iconst 0, 1) := by decide +kernel
theorem dX3_hasNumbersInRange_111 : decode cX3_hasNumbersInRange 111 = .ok (.ireturn, 1) := by decide +kernel
theorem dX3_hasNumbersInRange_112 : decode cX3_hasNumbersInRange 112 = .ok (.aload_n 0, 1) := by decide +kernel
theorem dX3_hasNumbersInRange_113 : decode cX3_hasNumbersInRange 113 = .ok (.getfield 19, 3) := by decide +kernel
theorem dX3_hasNumbersInRange_116 : decode cX3_hasNumbersInRange 116 = .ok (.iload_n 1, 1) := by decide +kernel
theorem dX3_hasNumbersInRange_117 : decode cX3_hasNumbersInRange 117 = .ok (.iaload, 1) := by decide +kernel
theorem dX3_hasNumbersInRange_118 : decode cX3_hasNumbersInRange 118 = .ok (.iconst 1, 1) := by decide +kernel
theorem dX3_hasNumbersInRange_119 : decode cX3_hasNumbersInRange 119 = .ok (.sipush 999, 3) := by decide +kernel
theorem dX3_hasNumbersInRange_122 : decode cX3_hasNumbersInRange 122 = .ok (.invokestatic 38, 3) := by decide +kernel
theorem dX3_hasNumbersInRange_125 : decode cX3_hasNumbersInRange 125 = .ok (.ireturn, 1) := by decide +kernel
theorem dX3_limitOf_0 : decode cX3_limitOf 0 = .ok (.aload_n 0, 1) := by decide +kernel
theorem dX3_limitOf_1 : decode cX3_limitOf 1 = .ok (.getfield 15, 3) := by decide +kernel
theorem dX3_limitOf_4 : decode cX3_limitOf 4 = .ok (.iload_n 1, 1) := by decide +kernel
theorem dX3_limitOf_5 : decode cX3_limitOf 5 = .ok (.iaload, 1) := by decide +kernel
theorem dX3_limitOf_6 : decode cX3_limitOf 6 = .ok (.iconst 1, 1) := by decide +kernel
theorem dX3_limitOf_7 : decode cX3_limitOf 7 = .ok (.if_icmp .ne 12, 3) := by decide +kernel
theorem dX3_limitOf_10 : decode cX3_limitOf 10 = .ok (.aload_n 0, 1) := by decide +kernel
theorem dX3_limitOf_11 : decode cX3_limitOf 11 = .ok (.getfield 19, 3) := by decide +kernel
theorem dX3_limitOf_14 : decode cX3_limitOf 14 = .ok (.iload_n 1, 1) := by decide +kernel
theorem dX3_limitOf_15 : decode cX3_limitOf 15 = .ok (.iaload, 1) := by decide +kernel
theorem dX3_limitOf_16 : decode cX3_limitOf 16 = .ok (.goto 9, 3) := by decide +kernel
theorem dX3_limitOf_19 : decode cX3_limitOf 19 = .ok (.aload_n 0, 1) := by decide +kernel
theorem dX3_limitOf_20 : decode cX3_limitOf 20 = .ok (.getfield 22, 3) := by decide +kernel
theorem dX3_limitOf_23 : decode cX3_limitOf 23 = .ok (.iload_n 1, 1) := by decide +kernel
theorem dX3_limitOf_24 : decode cX3_limitOf 24 = .ok (.iaload, 1) := by decide +kernel
theorem dX3_limitOf_25 : decode cX3_limitOf 25 = .ok (.ireturn, 1) := by decide +kernel
set_option maxRecDepth 20000 in
theorem ggX4_init_X0_init : GoodIn wsX4_init wsX0_init := goodIn_r _ [27, 28, 2, 3, 29, 4, 30, 31, 32, 33, 34, 35, 36, 65, 66, 67, 68, 69, 70, 71, 72] (by decide +kernel) (by decide +kernel)
set_option maxRecDepth 20000 in
theorem gX4_init_X0_init_n17 : GoodIn wsX4_init (wsX0_init) := ggX4_init_X0_init
set_option maxRecDepth 20000 in
theorem ggX4_init_X3_init : GoodIn wsX4_init wsX3_init := goodIn_r _ [38, 39, 2, 3, 40, 4, 41, 42, 43, 44, 73, 74, 75, 76, 77] (by decide +kernel) (by decide +kernel)
set_option maxRecDepth 20000 in
theorem gX4_init_X3_init_n24 : GoodIn wsX4_init (wsX3_init) := ggX4_init_X3_init
set_option maxRecDepth 20000 in
theorem ggX4_init_X2_init : GoodIn wsX4_init wsX2_init := goodIn_r _ [46, 47, 2, 3, 48, 49, 4, 50, 51, 52, 78, 79, 80, 81, 82] (by decide +kernel) (by decide +kernel)
set_option maxRecDepth 20000 in
theorem gX4_init_X2_init_n31 : GoodIn wsX4_init (wsX2_init) := ggX4_init_X2_init
theorem dX4_init_0 : decode cX4_init 0 = .ok (.aload_n 0, 1) := by decide +kernel
theorem dX4_init_1 : decode cX4_init 1 = .ok (.invokespecial 3, 3) := by decide +kernel
theorem dX4_init_4 : decode cX4_init 4 = .ok (.aload_n 0, 1) := by decide +kernel
theorem dX4_init_5 : decode cX4_init 5 = .ok (.bipush 9, 2) := by decide +kernel
theorem dX4_init_7 : decode cX4_init 7 = .ok (.newarray .int, 2) := by decide +kernel
theorem dX4_init_9 : decode cX4_init 9 = .ok (.putfield 9, 3) := by decide +kernel
theorem dX4_init_12 : decode cX4_init 12 = .ok (.aload_n 0, 1) := by decide +kernel
theorem dX4_init_13 : decode cX4_init 13 = .ok (.new 15, 3) := by decide +kernel
theorem dX4_init_16 : decode cX4_init 16 = .ok (.dup, 1) := by decide +kernel
theorem dX4_init_17 : decode cX4_init 17 = .ok (.invokespecial 17, 3) := by decide +kernel
theorem dX4_init_20 : decode cX4_init 20 = .ok (.putfield 18, 3) := by decide +kernel
theorem dX4_init_23 : decode cX4_init 23 = .ok (.aload_n 0, 1) := by decide +kernel
theorem dX4_init_24 : decode cX4_init 24 = .ok (.new 22, 3) := by decide +kernel
theorem dX4_init_27 : decode cX4_init 27 = .ok (.dup, 1) := by decide +kernel
theorem dX4_init_28 : decode cX4_init 28 = .ok (.invokespecial 24, 3) := by decide +kernel
theorem dX4_init_31 : decode cX4_init 31 = .ok (.putfield 25, 3) := by decide +kernel
theorem dX4_init_34 : decode cX4_init 34 = .ok (.aload_n 0, 1) := by decide +kernel
theorem dX4_init_35 : decode cX4_init 35 = .ok (.new 29, 3) := by decide +kernel
theorem dX4_init_38 : decode cX4_init 38 = .ok (.dup, 1) := by decide +kernel
theorem dX4_init_39 : decode cX4_init 39 = .ok (.invokespecial 31, 3) := by decide +kernel
theorem dX4_init_42 : decode cX4_init 42 = .ok (.putfield 32, 3) := by decide +kernel
theorem dX4_init_45 : decode cX4_init 45 = .ok (.aload_n 0, 1) := by decide +kernel
theorem dX4_init_46 : decode cX4_init 46 = .ok (.iconst 0, 1) := by decide +kernel
theorem dX4_init_47 : decode cX4_init 47 = .ok (.putfield 36, 3) := by decide +kernel
theorem dX4_init_50 : decode cX4_init 50 = .ok (.aload_n 0, 1) := by decide +kernel
theorem dX4_init_51 : decode cX4_init 51 = .ok (.iconst 0, 1) := by decide +kernel
theorem dX4_init_52 : decode cX4_init 52 = .ok (.putfield 40, 3) := by decide +kernel
theorem dX4_init_55 : decode cX4_init 55 = .ok (.aload_n 0, 1) := by decide +kernel
theorem dX4_init_56 : decode cX4_init 56 = .ok (.iconst 0, 1) := by decide +kernel
theorem dX4_init_57 : decode cX4_init 57 = .ok (.putfield 43, 3) := by decide +kernel
theorem dX4_init_60 : decode cX4_init 60 = .ok (.aload_n 0, 1) := by decide +kernel
theorem dX4_init_61 : decode cX4_init 61 = .ok (.iconst 0, 1) := by decide +kernel
theorem dX4_init_62 : decode cX4_init 62 = .ok (.putfield 46, 3) := by decide +kernel
theorem dX4_init_65 : decode cX4_init 65 = .ok (.aload_n 0, 1) := by decide +kernel
theorem dX4_init_66 : decode cX4_init 66 = .ok (.iconst 0, 1) := by decide +kernel
theorem dX4_init_67 : decode cX4_init 67 = .ok (.putfield 49, 3) := by decide +kernel
theorem dX4_init_70 : decode cX4_init 70 = .ok (.aload_n 0, 1) := by decide +kernel
theorem dX4_init_71 : decode cX4_init 71 = .ok (.iconst 0, 1) := by decide +kernel
theorem dX4_init_72 : decode cX4_init 72 = .ok (.putfield 52, 3) := by decide +kernel
theorem dX4_init_75 : decode cX4_init 75 = .ok (.aload_n 0, 1) := by decide +kernel
theorem dX4_init_76 : decode cX4_init 76 = .ok (.iconst 0, 1) := by decide +kernel
theorem dX4_init_77 : decode cX4_init 77 = .ok (.putfield 56, 3) := by decide +kernel
theorem dX4_init_80 : decode cX4_init 80 = .ok (.aload_n 0, 1) := by decide +kernel
theorem dX4_init_81 : decode cX4_init 81 = .ok (.iconst 0, 1) := by decide +kernel
theorem dX4_init_82 : decode cX4_init 82 = .ok (.putfield 59, 3) := by decide +kernel
theorem dX4_init_85 : decode cX4_init 85 = .ok (.return_, 1) := by decide +kernel
theorem dX4_setUp_0 : decode cX4_setUp 0 = .ok (.getstatic 62, 3) := by decide +kernel
theorem dX4_setUp_3 : decode cX4_setUp 3 = .ok (.iconst 0, 1) := by decide +kernel
theorem dX4_setUp_4 : decode cX4_setUp 4 = .ok (.aload_n 0, 1) := by decide +kernel
theorem dX4_setUp_5 : decode cX4_setUp 5 = .ok (.getfield 9, 3) := by decide +kernel
theorem dX4_setUp_8 : decode cX4_setUp 8 = .ok (.iconst 0, 1) := by decide +kernel
theorem dX4_setUp_9 : decode cX4_setUp 9 = .ok (.bipush 9, 2) := by decide +kernel
theorem dX4_setUp_11 : decode cX4_setUp 11 = .ok (.invokestatic 65, 3) := by decide +kernel
theorem dX4_setUp_14 : decode cX4_setUp 14 = .ok (.return_, 1) := by decide +kernel
set_option maxRecDepth 20000 in
theorem ggX4_copyFrom_X0_copyFrom : GoodIn wsX4_copyFrom wsX0_copyFrom := goodIn_r _ [21, 22, 23, 24, 3, 4, 5, 25, 26, 27, 28, 29, 30, 65, 66, 67, 68, 69, 70, 71, 72] (by decide +kernel) (by decide +kernel)
set_option maxRecDepth 20000 in
theorem gX4_copyFrom_X0_copyFrom : GoodIn wsX4_copyFrom (wsV RX4 71 RX0 yX0_copyFrom wsX0_copyFrom) := goodIn_app (goodIn_of _ (by decide +kernel)) ggX4_copyFrom_X0_copyFrom
set_option maxRecDepth 20000 in
theorem ggX4_copyFrom_X3_copyFrom : GoodIn wsX4_copyFrom wsX3_copyFrom := goodIn_r _ [35, 36, 37, 38, 3, 4, 5, 39, 40, 41, 73, 74, 75, 76, 77] (by decide +kernel) (by decide +kernel)
set_option maxRecDepth 20000 in
theorem gX4_copyFrom_X3_copyFrom : GoodIn wsX4_copyFrom (wsV RX4 75 RX3 yX3_copyFrom wsX3_copyFrom) := goodIn_app (goodIn_of _ (by decide +kernel)) ggX4_copyFrom_X3_copyFrom
set_option maxRecDepth 20000 in
theorem ggX4_copyFrom_X2_copyFrom : GoodIn wsX4_copyFrom wsX2_copyFrom := goodIn_r _ [46, 47, 48, 49, 50, 3, 4, 5, 51, 52, 78, 79, 80, 81, 82] (by decide +kernel) (by decide +kernel)
set_option maxRecDepth 20000 in
theorem gX4_copyFrom_X2_copyFrom : GoodIn wsX4_copyFrom (wsV RX4 78 RX2 yX2_copyFrom wsX2_copyFrom) := goodIn_app (goodIn_of _ (by decide +kernel)) ggX4_copyFrom_X2_copyFrom
theorem dX4_copyFrom_0 : decode cX4_copyFrom 0 = .ok (.aload_n 1, 1) := by decide +kernel
theorem dX4_copyFrom_1 : decode cX4_copyFrom 1 = .ok (.getfield 9, 3) := by decide +kernel
theorem dX4_copyFrom_4 : decode cX4_copyFrom 4 = .ok (.iconst 0, 1) := by decide +kernel
theorem dX4_copyFrom_5 : decode cX4_copyFrom 5 = .ok (.aload_n 0, 1) := by decide +kernel
theorem dX4_copyFrom_6 : decode cX4_copyFrom 6 = .ok (.getfield 9, 3) := by decide +kernel
theorem dX4_copyFrom_9 : decode cX4_copyFrom 9 = .ok (.iconst 0, 1) := by decide +kernel
theorem dX4_copyFrom_10 : decode cX4_copyFrom 10 = .ok (.bipush 9, 2) := by decide +kernel
theorem dX4_copyFrom_12 : decode cX4_copyFrom 12 = .ok (.invokestatic 65, 3) := by decide +kernel
theorem dX4_copyFrom_15 : decode cX4_copyFrom 15 = .ok (.aload_n 0, 1) := by decide +kernel
theorem dX4_copyFrom_16 : decode cX4_copyFrom 16 = .ok (.getfield 18, 3) := by decide +kernel
theorem dX4_copyFrom_19 : decode cX4_copyFrom 19 = .ok (.aload_n 1, 1) := by decide +kernel
theorem dX4_copyFrom_20 : decode cX4_copyFrom 20 = .ok (.getfield 18, 3) := by decide +kernel
theorem dX4_copyFrom_23 : decode cX4_copyFrom 23 = .ok (.invokevirtual 71, 3) := by decide +kernel
theorem dX4_copyFrom_26 : decode cX4_copyFrom 26 = .ok (.aload_n 0, 1) := by decide +kernel
theorem dX4_copyFrom_27 : decode cX4_copyFrom 27 = .ok (.getfield 25, 3) := by decide +kernel
theorem dX4_copyFrom_30 : decode cX4_copyFrom 30 = .ok (.aload_n 1, 1) := by decide +kernel
theorem dX4_copyFrom_31 : decode cX4_copyFrom 31 = .ok (.getfield 25, 3) := by decide +kernel
