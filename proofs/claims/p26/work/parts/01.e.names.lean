set_option maxRecDepth 20000 in
theorem ggX6_stage_X4_limitOfNow : GoodIn wsX6_stage wsX4_limitOfNow := goodIn_r _ [17, 18, 19, 20, 21, 22, 10, 23, 24, 25, 26, 34, 35, 36, 37, 38, 39, 40, 41, 42, 43, 44, 45, 46, 47, 48, 49, 50] (by decide +kernel) (by decide +kernel)
set_option maxRecDepth 20000 in
theorem gX6_stage_X4_limitOfNow : GoodIn wsX6_stage (wsV RX6 182 RX4 yX4_limitOfNow wsX4_limitOfNow) := goodIn_app (goodIn_of _ (by decide +kernel)) ggX6_stage_X4_limitOfNow
theorem dX6_stage_0 : decode cX6_stage 0 = .ok (.aload_n 0, 1) := by decide +kernel
theorem dX6_stage_1 : decode cX6_stage 1 = .ok (.getfield 10, 3) := by decide +kernel
theorem dX6_stage_4 : decode cX6_stage 4 = .ok (.getfield 116, 3) := by decide +kernel
theorem dX6_stage_7 : decode cX6_stage 7 = .ok (.astore_n 3, 1) := by decide +kernel
theorem dX6_stage_8 : decode cX6_stage 8 = .ok (.aload_n 3, 1) := by decide +kernel
theorem dX6_stage_9 : decode cX6_stage 9 = .ok (.iload_n 1, 1) := by decide +kernel
theorem dX6_stage_10 : decode cX6_stage 10 = .ok (.invokevirtual 169, 3) := by decide +kernel
theorem dX6_stage_13 : decode cX6_stage 13 = .ok (.ifCond .ne 5, 3) := by decide +kernel
theorem dX6_stage_16 : decode cX6_stage 16 = .ok (.iconst (-1), 1) := by decide +kernel
theorem dX6_stage_17 : decode cX6_stage 17 = .ok (.ireturn, 1) := by decide +kernel
theorem dX6_stage_18 : decode cX6_stage 18 = .ok (.iload_n 2, 1) := by decide +kernel
theorem dX6_stage_19 : decode cX6_stage 19 = .ok (.tableswitch 85 0 4 #[33, 40, 47, 54, 61], 33) := by decide +kernel
theorem dX6_stage_52 : decode cX6_stage 52 = .ok (.aload_n 3, 1) := by decide +kernel
theorem dX6_stage_53 : decode cX6_stage 53 = .ok (.getfield 170, 3) := by decide +kernel
theorem dX6_stage_56 : decode cX6_stage 56 = .ok (.iload_n 1, 1) := by decide +kernel
theorem dX6_stage_57 : decode cX6_stage 57 = .ok (.iaload, 1) := by decide +kernel
theorem dX6_stage_58 : decode cX6_stage 58 = .ok (.ireturn, 1) := by decide +kernel
theorem dX6_stage_59 : decode cX6_stage 59 = .ok (.aload_n 3, 1) := by decide +kernel
theorem dX6_stage_60 : decode cX6_stage 60 = .ok (.getfield 173, 3) := by decide +kernel
theorem dX6_stage_63 : decode cX6_stage 63 = .ok (.iload_n 1, 1) := by decide +kernel
theorem dX6_stage_64 : decode cX6_stage 64 = .ok (.iaload, 1) := by decide +kernel
theorem dX6_stage_65 : decode cX6_stage 65 = .ok (.ireturn, 1) := by decide +kernel
theorem dX6_stage_66 : decode cX6_stage 66 = .ok (.aload_n 3, 1) := by decide +kernel
theorem dX6_stage_67 : decode cX6_stage 67 = .ok (.getfield 176, 3) := by decide +kernel
theorem dX6_stage_70 : decode cX6_stage 70 = .ok (.iload_n 1, 1) := by decide +kernel
theorem dX6_stage_71 : decode cX6_stage 71 = .ok (.iaload, 1) := by decide +kernel
theorem dX6_stage_72 : decode cX6_stage 72 = .ok (.ireturn, 1) := by decide +kernel
theorem dX6_stage_73 : decode cX6_stage 73 = .ok (.aload_n 3, 1) := by decide +kernel
theorem dX6_stage_74 : decode cX6_stage 74 = .ok (.getfield 179, 3) := by decide +kernel
theorem dX6_stage_77 : decode cX6_stage 77 = .ok (.iload_n 1, 1) := by decide +kernel
theorem dX6_stage_78 : decode cX6_stage 78 = .ok (.iaload, 1) := by decide +kernel
theorem dX6_stage_79 : decode cX6_stage 79 = .ok (.ireturn, 1) := by decide +kernel
theorem dX6_stage_80 : decode cX6_stage 80 = .ok (.aload_n 3, 1) := by decide +kernel
theorem dX6_stage_81 : decode cX6_stage 81 = .ok (.getfield 170, 3) := by decide +kernel
theorem dX6_stage_84 : decode cX6_stage 84 = .ok (.iload_n 1, 1) := by decide +kernel
theorem dX6_stage_85 : decode cX6_stage 85 = .ok (.iaload, 1) := by decide +kernel
theorem dX6_stage_86 : decode cX6_stage 86 = .ok (.iconst 2, 1) := by decide +kernel
theorem dX6_stage_87 : decode cX6_stage 87 = .ok (.if_icmp .ne 8, 3) := by decide +kernel
theorem dX6_stage_90 : decode cX6_stage 90 = .ok (.bipush (-5), 2) := by decide +kernel
theorem dX6_stage_92 : decode cX6_stage 92 = .ok (.goto 11, 3) := by decide +kernel
theorem dX6_stage_95 : decode cX6_stage 95 = .ok (.aload_n 0, 1) := by decide +kernel
theorem dX6_stage_96 : decode cX6_stage 96 = .ok (.getfield 10, 3) := by decide +kernel
theorem dX6_stage_99 : decode cX6_stage 99 = .ok (.iload_n 1, 1) := by decide +kernel
theorem dX6_stage_100 : decode cX6_stage 100 = .ok (.invokevirtual 182, 3) := by decide +kernel
theorem dX6_stage_103 : decode cX6_stage 103 = .ok (.ireturn, 1) := by decide +kernel
theorem dX6_stage_104 : decode cX6_stage 104 = .ok (.bipush (-2), 2) := by decide +kernel
theorem dX6_stage_106 : decode cX6_stage 106 = .ok (.ireturn, 1) := by decide +kernel
set_option maxRecDepth 20000 in
theorem ggX6_voltage_X4_greatestVoltage : GoodIn wsX6_voltage wsX4_greatestVoltage := goodIn_r _ [6, 7, 8, 9, 10, 11, 12, 13, 14, 15, 16, 17, 18, 19, 20, 21, 22, 30, 31, 32, 33, 34, 35, 36, 37, 38, 39, 40, 41, 42, 43, 44, 45, 46, 47, 48, 49] (by decide +kernel) (by decide +kernel)
set_option maxRecDepth 20000 in
theorem gX6_voltage_X4_greatestVoltage : GoodIn wsX6_voltage (wsV RX6 186 RX4 yX4_greatestVoltage wsX4_greatestVoltage) := goodIn_app (goodIn_of _ (by decide +kernel)) ggX6_voltage_X4_greatestVoltage
theorem dX6_voltage_0 : decode cX6_voltage 0 = .ok (.iload_n 1, 1) := by decide +kernel
theorem dX6_voltage_1 : decode cX6_voltage 1 = .ok (.ifCond .lt 10, 3) := by decide +kernel
theorem dX6_voltage_4 : decode cX6_voltage 4 = .ok (.iload_n 1, 1) := by decide +kernel
theorem dX6_voltage_5 : decode cX6_voltage 5 = .ok (.sipush 2000, 3) := by decide +kernel
theorem dX6_voltage_8 : decode cX6_voltage 8 = .ok (.if_icmp .le 8, 3) := by decide +kernel
theorem dX6_voltage_11 : decode cX6_voltage 11 = .ok (.bipush (-2), 2) := by decide +kernel
theorem dX6_voltage_13 : decode cX6_voltage 13 = .ok (.goto 11, 3) := by decide +kernel
theorem dX6_voltage_16 : decode cX6_voltage 16 = .ok (.aload_n 0, 1) := by decide +kernel
theorem dX6_voltage_17 : decode cX6_voltage 17 = .ok (.getfield 10, 3) := by decide +kernel
theorem dX6_voltage_20 : decode cX6_voltage 20 = .ok (.iload_n 1, 1) := by decide +kernel
theorem dX6_voltage_21 : decode cX6_voltage 21 = .ok (.invokevirtual 186, 3) := by decide +kernel
theorem dX6_voltage_24 : decode cX6_voltage 24 = .ok (.ireturn, 1) := by decide +kernel
set_option maxRecDepth 20000 in
theorem ggX6_current_X4_isPaused : GoodIn wsX6_current wsX4_isPaused := goodIn_r _ [11, 12, 13, 14, 15, 16, 72, 73, 74, 75, 76, 77, 78, 79, 80, 81, 82, 83] (by decide +kernel) (by decide +kernel)
set_option maxRecDepth 20000 in
theorem gX6_current_X4_isPaused : GoodIn wsX6_current (wsV RX6 189 RX4 yX4_isPaused wsX4_isPaused) := goodIn_app (goodIn_of _ (by decide +kernel)) ggX6_current_X4_isPaused
set_option maxRecDepth 20000 in
theorem ggX6_current_X4_currentOfStage : GoodIn wsX6_current wsX4_currentOfStage := goodIn_r _ [20, 21, 22, 23, 24, 25, 26, 27, 28, 29, 30, 31, 32, 33, 34, 10, 35, 13, 36, 37, 38, 39, 40, 41, 42, 43, 44, 45, 46, 47, 48, 49, 50, 51, 52, 53, 54, 55, 4, 5, 6, 56, 15, 57, 58, 59, 60, 61, 62, 63, 64, 72, 73, 74, 75, 76, 77, 78, 79, 80, 81, 82, 83, 84, 85, 86, 87, 88, 89, 90, 91, 92, 93, 94, 95, 96] (by decide +kernel) (by decide +kernel)
set_option maxRecDepth 20000 in
theorem gX6_current_X4_currentOfStage : GoodIn wsX6_current (wsV RX6 192 RX4 yX4_currentOfStage wsX4_currentOfStage) := goodIn_app (goodIn_of _ (by decide +kernel)) ggX6_current_X4_currentOfStage
theorem dX6_current_0 : decode cX6_current 0 = .ok (.aload_n 0, 1) := by decide +kernel
theorem dX6_current_1 : decode cX6_current 1 = .ok (.getfield 10, 3) := by decide +kernel
theorem dX6_current_4 : decode cX6_current 4 = .ok (.getfield 68, 3) := by decide +kernel
theorem dX6_current_7 : decode cX6_current 7 = .ok (.iconst 1, 1) := by decide +kernel
theorem dX6_current_8 : decode cX6_current 8 = .ok (.if_icmp .ne 13, 3) := by decide +kernel
theorem dX6_current_11 : decode cX6_current 11 = .ok (.aload_n 0, 1) := by decide +kernel
theorem dX6_current_12 : decode cX6_current 12 = .ok (.getfield 10, 3) := by decide +kernel
theorem dX6_current_15 : decode cX6_current 15 = .ok (.invokevirtual 189, 3) := by decide +kernel
theorem dX6_current_18 : decode cX6_current 18 = .ok (.ifCond .eq 7, 3) := by decide +kernel
theorem dX6_current_21 : decode cX6_current 21 = .ok (.iconst 0, 1) := by decide +kernel
theorem dX6_current_22 : decode cX6_current 22 = .ok (.goto 14, 3) := by decide +kernel
theorem dX6_current_25 : decode cX6_current 25 = .ok (.iconst 0, 1) := by decide +kernel
theorem dX6_current_26 : decode cX6_current 26 = .ok (.aload_n 0, 1) := by decide +kernel
theorem dX6_current_27 : decode cX6_current 27 = .ok (.getfield 10, 3) := by decide +kernel
theorem dX6_current_30 : decode cX6_current 30 = .ok (.invokevirtual 192, 3) := by decide +kernel
theorem dX6_current_33 : decode cX6_current 33 = .ok (.invokestatic 195, 3) := by decide +kernel
theorem dX6_current_36 : decode cX6_current 36 = .ok (.ireturn, 1) := by decide +kernel
set_option maxRecDepth 20000 in
theorem ggX6_doneIn_X4_copyFrom : GoodIn wsX6_doneIn wsX4_copyFrom := goodIn_r _ [8, 9, 10, 11, 12, 13, 14, 15, 16, 17, 18, 19, 20, 21, 22, 23, 24, 25, 26, 27, 28, 29, 30, 31, 32, 33, 34, 35, 36, 37, 38, 39, 40, 41, 42, 43, 44, 45, 46, 47, 48, 49, 50, 51, 52, 53, 54, 55, 56, 57, 58, 59, 60, 165, 166, 167, 168, 169, 170, 171, 172, 173, 174, 175, 176, 177, 178, 179, 180, 181, 182, 183, 184, 185, 186, 187, 188, 189, 190, 191, 192, 193, 194] (by decide +kernel) (by decide +kernel)
set_option maxRecDepth 20000 in
theorem gX6_doneIn_X4_copyFrom : GoodIn wsX6_doneIn (wsV RX6 148 RX4 yX4_copyFrom wsX4_copyFrom) := goodIn_app (goodIn_of _ (by decide +kernel)) ggX6_doneIn_X4_copyFrom
set_option maxRecDepth 20000 in
theorem ggX6_doneIn_X4_runUntilDone : GoodIn wsX6_doneIn wsX4_runUntilDone := goodIn_r _ [64, 17, 65, 66, 67, 7, 68, 9, 69, 70, 71, 72, 73, 74, 75, 22, 14, 20, 76, 77, 78, 79, 16, 18, 21, 80, 81, 82, 53, 83, 57, 56, 59, 60, 55, 84, 85, 86, 87, 19, 24, 88, 89, 90, 91, 15, 92, 93, 94, 95, 96, 97, 42, 98, 44, 99, 100, 101, 102, 103, 104, 105, 106, 45, 47, 48, 107, 108, 109, 110, 111, 112, 113, 28, 114, 31, 30, 115, 116, 117, 118, 119, 120, 121, 122, 123, 124, 125, 126, 127, 128, 129, 130, 131, 33, 34, 35, 36, 132, 133, 134, 135, 136, 137, 138, 139, 23, 140, 141, 142, 143, 144, 145, 146, 147, 148, 149, 150, 151, 152, 153, 37, 154, 155, 156, 157, 165, 166, 167, 168, 169, 170, 171, 172, 173, 174, 175, 176, 190, 191, 192, 193, 194, 185, 186, 187, 188, 189, 177, 178, 179, 180, 181, 182, 183, 184] (by decide +kernel) (by decide +kernel)
set_option maxRecDepth 20000 in
theorem gX6_doneIn_X4_runUntilDone : GoodIn wsX6_doneIn (wsV RX6 200 RX4 yX4_runUntilDone wsX4_runUntilDone) := goodIn_app (goodIn_of _ (by decide +kernel)) ggX6_doneIn_X4_runUntilDone
theorem dX6_doneIn_0 : decode cX6_doneIn 0 = .ok (.aload_n 0, 1) := by decide +kernel
theorem dX6_doneIn_1 : decode cX6_doneIn 1 = .ok (.getfield 10, 3) := by decide +kernel
theorem dX6_doneIn_4 : decode cX6_doneIn 4 = .ok (.getfield 68, 3) := by decide +kernel
theorem dX6_doneIn_7 : decode cX6_doneIn 7 = .ok (.iconst 2, 1) := by decide +kernel
theorem dX6_doneIn_8 : decode cX6_doneIn 8 = .ok (.if_icmp .ne 5, 3) := by decide +kernel
theorem dX6_doneIn_11 : decode cX6_doneIn 11 = .ok (.iconst 0, 1) := by decide +kernel
theorem dX6_doneIn_12 : decode cX6_doneIn 12 = .ok (.ireturn, 1) := by decide +kernel
theorem dX6_doneIn_13 : decode cX6_doneIn 13 = .ok (.aload_n 0, 1) := by decide +kernel
theorem dX6_doneIn_14 : decode cX6_doneIn 14 = .ok (.getfield 16, 3) := by decide +kernel
theorem dX6_doneIn_17 : decode cX6_doneIn 17 = .ok (.aload_n 0, 1) := by decide +kernel
theorem dX6_doneIn_18 : decode cX6_doneIn 18 = .ok (.getfield 10, 3) := by decide +kernel
theorem dX6_doneIn_21 : decode cX6_doneIn 21 = .ok (.invokevirtual 148, 3) := by decide +kernel
theorem dX6_doneIn_24 : decode cX6_doneIn 24 = .ok (.aload_n 0, 1) := by decide +kernel
theorem dX6_doneIn_25 : decode cX6_doneIn 25 = .ok (.getfield 16, 3) := by decide +kernel
theorem dX6_doneIn_28 : decode cX6_doneIn 28 = .ok (.sipush 2000, 3) := by decide +kernel
theorem dX6_doneIn_31 : decode cX6_doneIn 31 = .ok (.invokevirtual 200, 3) := by decide +kernel
theorem dX6_doneIn_34 : decode cX6_doneIn 34 = .ok (.ireturn, 1) := by decide +kernel
set_option maxRecDepth 20000 in
theorem ggX6_chargeIn_X0_has : GoodIn wsX6_chargeIn wsX0_has := goodIn_r _ [9, 10, 182, 183, 184, 185, 186, 187, 188, 189] (by decide +kernel) (by decide +kernel)
set_option maxRecDepth 20000 in
theorem gX6_chargeIn_X0_has : GoodIn wsX6_chargeIn (wsV RX6 71 RX0 yX0_has wsX0_has) := goodIn_app (goodIn_of _ (by decide +kernel)) ggX6_chargeIn_X0_has
set_option maxRecDepth 20000 in
theorem ggX6_chargeIn_X4_copyFrom : GoodIn wsX6_chargeIn wsX4_copyFrom := goodIn_r _ [15, 16, 17, 18, 19, 20, 21, 22, 23, 24, 25, 26, 27, 28, 29, 30, 31, 32, 33, 34, 8, 35, 10, 36, 37, 38, 39, 40, 41, 42, 43, 44, 45, 46, 47, 48, 49, 50, 51, 52, 53, 54, 55, 56, 57, 58, 59, 60, 61, 62, 63, 64, 65, 170, 171, 172, 173, 174, 175, 176, 177, 178, 179, 180, 181, 182, 183, 184, 185, 186, 187, 188, 189, 190, 191, 192, 193, 194, 195, 196, 197, 198, 199] (by decide +kernel) (by decide +kernel)
set_option maxRecDepth 20000 in
theorem gX6_chargeIn_X4_copyFrom : GoodIn wsX6_chargeIn (wsV RX6 148 RX4 yX4_copyFrom wsX4_copyFrom) := goodIn_app (goodIn_of _ (by decide +kernel)) ggX6_chargeIn_X4_copyFrom
set_option maxRecDepth 20000 in
theorem ggX6_chargeIn_X4_passTicks : GoodIn wsX6_chargeIn wsX4_passTicks := goodIn_r _ [69, 70, 71, 72, 14, 73, 24, 29, 16, 21, 27, 74, 75, 76, 77, 78, 79, 80, 81, 82, 83, 84, 23, 25, 28, 85, 86, 87, 58, 88, 62, 61, 64, 65, 60, 89, 90, 91, 92, 26, 31, 93, 94, 95, 96, 22, 97, 98, 99, 100, 101, 102, 47, 103, 49, 104, 105, 106, 107, 108, 109, 110, 111, 50, 52, 53, 112, 113, 114, 115, 116, 117, 118, 8, 119, 36, 10, 120, 121, 122, 123, 124, 125, 126, 127, 128, 129, 130, 131, 132, 133, 134, 135, 136, 38, 39, 40, 41, 137, 138, 139, 140, 141, 142, 143, 144, 30, 145, 146, 147, 148, 149, 150, 151, 152, 153, 154, 155, 156, 157, 158, 42, 159, 160, 161, 162, 170, 171, 172, 173, 174, 175, 176, 177, 178, 179, 180, 181, 195, 196, 197, 198, 199, 190, 191, 192, 193, 194, 182, 183, 184, 185, 186, 187, 188, 189] (by decide +kernel) (by decide +kernel)
set_option maxRecDepth 20000 in
theorem gX6_chargeIn_X4_passTicks : GoodIn wsX6_chargeIn (wsV RX6 133 RX4 yX4_passTicks wsX4_passTicks) := goodIn_app (goodIn_of _ (by decide +kernel)) ggX6_chargeIn_X4_passTicks
theorem dX6_chargeIn_0 : decode cX6_chargeIn 0 = .ok (.aload_n 0, 1) := by decide +kernel
theorem dX6_chargeIn_1 : decode cX6_chargeIn 1 = .ok (.getfield 10, 3) := by decide +kernel
theorem dX6_chargeIn_4 : decode cX6_chargeIn 4 = .ok (.getfield 50, 3) := by decide +kernel
theorem dX6_chargeIn_7 : decode cX6_chargeIn 7 = .ok (.iload_n 1, 1) := by decide +kernel
theorem dX6_chargeIn_8 : decode cX6_chargeIn 8 = .ok (.invokevirtual 71, 3) := by decide +kernel
theorem dX6_chargeIn_11 : decode cX6_chargeIn 11 = .ok (.ifCond .ne 5, 3) := by decide +kernel
theorem dX6_chargeIn_14 : decode cX6_chargeIn 14 = .ok (.iconst (-1), 1) := by decide +kernel
theorem dX6_chargeIn_15 : decode cX6_chargeIn 15 = .ok (.ireturn, 1) := by decide +kernel
theorem dX6_chargeIn_16 : decode cX6_chargeIn 16 = .ok (.iload_n 2, 1) := by decide +kernel
theorem dX6_chargeIn_17 : decode cX6_chargeIn 17 = .ok (.ifCond .lt 10, 3) := by decide +kernel
theorem dX6_chargeIn_20 : decode cX6_chargeIn 20 = .ok (.iload_n 2, 1) := by decide +kernel
theorem dX6_chargeIn_21 : decode cX6_chargeIn 21 = .ok (.sipush 200, 3) := by decide +kernel
theorem dX6_chargeIn_24 : decode cX6_chargeIn 24 = .ok (.if_icmp .le 6, 3) := by decide +kernel
theorem dX6_chargeIn_27 : decode cX6_chargeIn 27 = .ok (.bipush (-2), 2) := by decide +kernel
theorem dX6_chargeIn_29 : decode cX6_chargeIn 29 = .ok (.ireturn, 1) := by decide +kernel
theorem dX6_chargeIn_30 : decode cX6_chargeIn 30 = .ok (.aload_n 0, 1) := by decide +kernel
theorem dX6_chargeIn_31 : decode cX6_chargeIn 31 = .ok (.getfield 16, 3) := by decide +kernel
theorem dX6_chargeIn_34 : decode cX6_chargeIn 34 = .ok (.aload_n 0, 1) := by decide +kernel
theorem dX6_chargeIn_35 : decode cX6_chargeIn 35 = .ok (.getfield 10, 3) := by decide +kernel
theorem dX6_chargeIn_38 : decode cX6_chargeIn 38 = .ok (.invokevirtual 148, 3) := by decide +kernel
theorem dX6_chargeIn_41 : decode cX6_chargeIn 41 = .ok (.aload_n 0, 1) := by decide +kernel
theorem dX6_chargeIn_42 : decode cX6_chargeIn 42 = .ok (.getfield 16, 3) := by decide +kernel
theorem dX6_chargeIn_45 : decode cX6_chargeIn 45 = .ok (.iload_n 2, 1) := by decide +kernel
theorem dX6_chargeIn_46 : decode cX6_chargeIn 46 = .ok (.invokevirtual 133, 3) := by decide +kernel
theorem dX6_chargeIn_49 : decode cX6_chargeIn 49 = .ok (.aload_n 0, 1) := by decide +kernel
theorem dX6_chargeIn_50 : decode cX6_chargeIn 50 = .ok (.getfield 16, 3) := by decide +kernel
theorem dX6_chargeIn_53 : decode cX6_chargeIn 53 = .ok (.getfield 50, 3) := by decide +kernel
theorem dX6_chargeIn_56 : decode cX6_chargeIn 56 = .ok (.getfield 79, 3) := by decide +kernel
theorem dX6_chargeIn_59 : decode cX6_chargeIn 59 = .ok (.iload_n 1, 1) := by decide +kernel
theorem dX6_chargeIn_60 : decode cX6_chargeIn 60 = .ok (.iaload, 1) := by decide +kernel
theorem dX6_chargeIn_61 : decode cX6_chargeIn 61 = .ok (.ireturn, 1) := by decide +kernel
set_option maxRecDepth 20000 in
theorem ggX6_warmest_X4_copyFrom : GoodIn wsX6_warmest wsX4_copyFrom := goodIn_r _ [9, 10, 11, 12, 13, 14, 15, 16, 17, 18, 19, 20, 21, 22, 23, 24, 25, 26, 27, 28, 29, 30, 31, 32, 33, 34, 35, 36, 37, 38, 39, 40, 41, 42, 43, 44, 45, 46, 47, 48, 49, 50, 51, 52, 53, 54, 55, 56, 57, 58, 59, 60, 61, 166, 167, 168, 169, 170, 171, 172, 173, 174, 175, 176, 177, 178, 179, 180, 181, 182, 183, 184, 185, 186, 187, 188, 189, 190, 191, 192, 193, 194, 195] (by decide +kernel) (by decide +kernel)
set_option maxRecDepth 20000 in
theorem gX6_warmest_X4_copyFrom : GoodIn wsX6_warmest (wsV RX6 148 RX4 yX4_copyFrom wsX4_copyFrom) := goodIn_app (goodIn_of _ (by decide +kernel)) ggX6_warmest_X4_copyFrom
set_option maxRecDepth 20000 in
theorem ggX6_warmest_X4_runUntilDone : GoodIn wsX6_warmest wsX4_runUntilDone := goodIn_r _ [65, 18, 66, 67, 68, 8, 69, 10, 70, 71, 72, 73, 74, 75, 76, 23, 15, 21, 77, 78, 79, 80, 17, 19, 22, 81, 82, 83, 54, 84, 58, 57, 60, 61, 56, 85, 86, 87, 88, 20, 25, 89, 90, 91, 92, 16, 93, 94, 95, 96, 97, 98, 43, 99, 45, 100, 101, 102, 103, 104, 105, 106, 107, 46, 48, 49, 108, 109, 110, 111, 112, 113, 114, 29, 115, 32, 31, 116, 117, 118, 119, 120, 121, 122, 123, 124, 125, 126, 127, 128, 129, 130, 131, 132, 34, 35, 36, 37, 133, 134, 135, 136, 137, 138, 139, 140, 24, 141, 142, 143, 144, 145, 146, 147, 148, 149, 150, 151, 152, 153, 154, 38, 155, 156, 157, 158, 166, 167, 168, 169, 170, 171, 172, 173, 174, 175, 176, 177, 191, 192, 193, 194, 195, 186, 187, 188, 189, 190, 178, 179, 180, 181, 182, 183, 184, 185] (by decide +kernel) (by decide +kernel)
set_option maxRecDepth 20000 in
theorem gX6_warmest_X4_runUntilDone : GoodIn wsX6_warmest (wsV RX6 200 RX4 yX4_runUntilDone wsX4_runUntilDone) := goodIn_app (goodIn_of _ (by decide +kernel)) ggX6_warmest_X4_runUntilDone
theorem dX6_warmest_0 : decode cX6_warmest 0 = .ok (.aload_n 0, 1) := by decide +kernel
theorem dX6_warmest_1 : decode cX6_warmest 1 = .ok (.getfield 10, 3) := by decide +kernel
theorem dX6_warmest_4 : decode cX6_warmest 4 = .ok (.getfield 68, 3) := by decide +kernel
theorem dX6_warmest_7 : decode cX6_warmest 7 = .ok (.iconst 1, 1) := by decide +kernel
theorem dX6_warmest_8 : decode cX6_warmest 8 = .ok (.if_icmp .eq 6, 3) := by decide +kernel
theorem dX6_warmest_11 : decode cX6_warmest 11 = .ok (.bipush (-4), 2) := by decide +kernel
theorem dX6_warmest_13 : decode cX6_warmest 13 = .ok (.ireturn, 1) := by decide +kernel
theorem dX6_warmest_14 : decode cX6_warmest 14 = .ok (.aload_n 0, 1) := by decide +kernel
theorem dX6_warmest_15 : decode cX6_warmest 15 = .ok (.getfield 10, 3) := by decide +kernel
theorem dX6_warmest_18 : decode cX6_warmest 18 = .ok (.getfield 75, 3) := by decide +kernel
theorem dX6_warmest_21 : decode cX6_warmest 21 = .ok (.iconst 5, 1) := by decide +kernel
theorem dX6_warmest_22 : decode cX6_warmest 22 = .ok (.iaload, 1) := by decide +kernel
theorem dX6_warmest_23 : decode cX6_warmest 23 = .ok (.istore_n 1, 1) := by decide +kernel
theorem dX6_warmest_24 : decode cX6_warmest 24 = .ok (.aload_n 0, 1) := by decide +kernel
theorem dX6_warmest_25 : decode cX6_warmest 25 = .ok (.getfield 10, 3) := by decide +kernel
theorem dX6_warmest_28 : decode cX6_warmest 28 = .ok (.getfield 75, 3) := by decide +kernel
theorem dX6_warmest_31 : decode cX6_warmest 31 = .ok (.bipush 6, 2) := by decide +kernel
theorem dX6_warmest_33 : decode cX6_warmest 33 = .ok (.iaload, 1) := by decide +kernel
theorem dX6_warmest_34 : decode cX6_warmest 34 = .ok (.istore_n 2, 1) := by decide +kernel
theorem dX6_warmest_35 : decode cX6_warmest 35 = .ok (.iload_n 2, 1) := by decide +kernel
theorem dX6_warmest_36 : decode cX6_warmest 36 = .ok (.iload_n 1, 1) := by decide +kernel
theorem dX6_warmest_37 : decode cX6_warmest 37 = .ok (.if_icmp .lt 51, 3) := by decide +kernel
theorem dX6_warmest_40 : decode cX6_warmest 40 = .ok (.aload_n 0, 1) := by decide +kernel
theorem dX6_warmest_41 : decode cX6_warmest 41 = .ok (.getfield 16, 3) := by decide +kernel
theorem dX6_warmest_44 : decode cX6_warmest 44 = .ok (.aload_n 0, 1) := by decide +kernel
theorem dX6_warmest_45 : decode cX6_warmest 45 = .ok (.getfield 10, 3) := by decide +kernel
theorem dX6_warmest_48 : decode cX6_warmest 48 = .ok (.invokevirtual 148, 3) := by decide +kernel
theorem dX6_warmest_51 : decode cX6_warmest 51 = .ok (.aload_n 0, 1) := by decide +kernel
theorem dX6_warmest_52 : decode cX6_warmest 52 = .ok (.getfield 16, 3) := by decide +kernel
theorem dX6_warmest_55 : decode cX6_warmest 55 = .ok (.getfield 75, 3) := by decide +kernel
theorem dX6_warmest_58 : decode cX6_warmest 58 = .ok (.iconst 3, 1) := by decide +kernel
theorem dX6_warmest_59 : decode cX6_warmest 59 = .ok (.iload_n 2, 1) := by decide +kernel
theorem dX6_warmest_60 : decode cX6_warmest 60 = .ok (.iastore, 1) := by decide +kernel
theorem dX6_warmest_61 : decode cX6_warmest 61 = .ok (.aload_n 0, 1) := by decide +kernel
theorem dX6_warmest_62 : decode cX6_warmest 62 = .ok (.getfield 16, 3) := by decide +kernel
theorem dX6_warmest_65 : decode cX6_warmest 65 = .ok (.sipush 500, 3) := by decide +kernel
theorem dX6_warmest_68 : decode cX6_warmest 68 = .ok (.invokevirtual 200, 3) := by decide +kernel
theorem dX6_warmest_71 : decode cX6_warmest 71 = .ok (.bipush (-5), 2) := by decide +kernel
theorem dX6_warmest_73 : decode cX6_warmest 73 = .ok (.if_icmp .eq 9, 3) := by decide +kernel
theorem dX6_warmest_76 : decode cX6_warmest 76 = .ok (.iload_n 2, 1) := by decide +kernel
theorem dX6_warmest_77 : decode cX6_warmest 77 = .ok (.sipush 1000, 3) := by decide +kernel
theorem dX6_warmest_80 : decode cX6_warmest 80 = .ok (.iadd, 1) := by decide +kernel
theorem dX6_warmest_81 : decode cX6_warmest 81 = .ok (.ireturn, 1) := by decide +kernel
theorem dX6_warmest_82 : decode cX6_warmest 82 = .ok (.iinc 2 (-1), 3) := by decide +kernel
theorem dX6_warmest_85 : decode cX6_warmest 85 = .ok (.goto (-50), 3) := by decide +kernel
theorem dX6_warmest_88 : decode cX6_warmest 88 = .ok (.bipush (-5), 2) := by decide +kernel
theorem dX6_warmest_90 : decode cX6_warmest 90 = .ok (.ireturn, 1) := by decide +kernel
set_option maxRecDepth 20000 in
theorem ggX6_event_X2_placeOf : GoodIn wsX6_event wsX2_placeOf := goodIn_r _ [11, 12, 13, 14, 15, 16, 36, 37, 38, 39, 40] (by decide +kernel) (by decide +kernel)
set_option maxRecDepth 20000 in
theorem gX6_event_X2_placeOf : GoodIn wsX6_event (wsV RX6 212 RX2 yX2_placeOf wsX2_placeOf) := goodIn_app (goodIn_of _ (by decide +kernel)) ggX6_event_X2_placeOf
theorem dX6_event_0 : decode cX6_event 0 = .ok (.iload_n 1, 1) := by decide +kernel
theorem dX6_event_1 : decode cX6_event 1 = .ok (.ifCond .lt 12, 3) := by decide +kernel
theorem dX6_event_4 : decode cX6_event 4 = .ok (.iload_n 2, 1) := by decide +kernel
theorem dX6_event_5 : decode cX6_event 5 = .ok (.ifCond .lt 8, 3) := by decide +kernel
theorem dX6_event_8 : decode cX6_event 8 = .ok (.iload_n 2, 1) := by decide +kernel
theorem dX6_event_9 : decode cX6_event 9 = .ok (.iconst 2, 1) := by decide +kernel
theorem dX6_event_10 : decode cX6_event 10 = .ok (.if_icmp .le 6, 3) := by decide +kernel
theorem dX6_event_13 : decode cX6_event 13 = .ok (.bipush (-2), 2) := by decide +kernel
theorem dX6_event_15 : decode cX6_event 15 = .ok (.ireturn, 1) := by decide +kernel
theorem dX6_event_16 : decode cX6_event 16 = .ok (.iload_n 1, 1) := by decide +kernel
theorem dX6_event_17 : decode cX6_event 17 = .ok (.aload_n 0, 1) := by decide +kernel
theorem dX6_event_18 : decode cX6_event 18 = .ok (.getfield 10, 3) := by decide +kernel
theorem dX6_event_21 : decode cX6_event 21 = .ok (.getfield 203, 3) := by decide +kernel
theorem dX6_event_24 : decode cX6_event 24 = .ok (.getfield 207, 3) := by decide +kernel
theorem dX6_event_27 : decode cX6_event 27 = .ok (.if_icmp .lt 6, 3) := by decide +kernel
theorem dX6_event_30 : decode cX6_event 30 = .ok (.bipush (-5), 2) := by decide +kernel
theorem dX6_event_32 : decode cX6_event 32 = .ok (.ireturn, 1) := by decide +kernel
theorem dX6_event_33 : decode cX6_event 33 = .ok (.aload_n 0, 1) := by decide +kernel
theorem dX6_event_34 : decode cX6_event 34 = .ok (.getfield 10, 3) := by decide +kernel
theorem dX6_event_37 : decode cX6_event 37 = .ok (.getfield 203, 3) := by decide +kernel
theorem dX6_event_40 : decode cX6_event 40 = .ok (.iload_n 1, 1) := by decide +kernel
theorem dX6_event_41 : decode cX6_event 41 = .ok (.invokevirtual 212, 3) := by decide +kernel
theorem dX6_event_44 : decode cX6_event 44 = .ok (.istore_n 3, 1) := by decide +kernel
theorem dX6_event_45 : decode cX6_event 45 = .ok (.iload_n 2, 1) := by decide +kernel
theorem dX6_event_46 : decode cX6_event 46 = .ok (.lookupswitch 52 #[(0, 26), (1, 39)], 26) := by decide +kernel
theorem dX6_event_72 : decode cX6_event 72 = .ok (.aload_n 0, 1) := by decide +kernel
theorem dX6_event_73 : decode cX6_event 73 = .ok (.getfield 10, 3) := by decide +kernel
theorem dX6_event_76 : decode cX6_event 76 = .ok (.getfield 203, 3) := by decide +kernel
theorem dX6_event_79 : decode cX6_event 79 = .ok (.getfield 215, 3) := by decide +kernel
theorem dX6_event_82 : decode cX6_event 82 = .ok (.iload_n 3, 1) := by decide +kernel
theorem dX6_event_83 : decode cX6_event 83 = .ok (.iaload, 1) := by decide +kernel
theorem dX6_event_84 : decode cX6_event 84 = .ok (.ireturn, 1) := by decide +kernel
theorem dX6_event_85 : decode cX6_event 85 = .ok (.aload_n 0, 1) := by decide +kernel
theorem dX6_event_86 : decode cX6_event 86 = .ok (.getfield 10, 3) := by decide +kernel
theorem dX6_event_89 : decode cX6_event 89 = .ok (.getfield 203, 3) := by decide +kernel
theorem dX6_event_92 : decode cX6_event 92 = .ok (.getfield 216, 3) := by decide +kernel
theorem dX6_event_95 : decode cX6_event 95 = .ok (.iload_n 3, 1) := by decide +kernel
theorem dX6_event_96 : decode cX6_event 96 = .ok (.iaload, 1) := by decide +kernel
theorem dX6_event_97 : decode cX6_event 97 = .ok (.ireturn, 1) := by decide +kernel
theorem dX6_event_98 : decode cX6_event 98 = .ok (.aload_n 0, 1) := by decide +kernel
theorem dX6_event_99 : decode cX6_event 99 = .ok (.getfield 10, 3) := by decide +kernel
theorem dX6_event_102 : decode cX6_event 102 = .ok (.getfield 203, 3) := by decide +kernel
theorem dX6_event_105 : decode cX6_event 105 = .ok (.getfield 218, 3) := by decide +kernel
theorem dX6_event_108 : decode cX6_event 108 = .ok (.iload_n 3, 1) := by decide +kernel
theorem dX6_event_109 : decode cX6_event 109 = .ok (.iaload, 1) := by decide +kernel
theorem dX6_event_110 : decode cX6_event 110 = .ok (.ireturn, 1) := by decide +kernel
set_option maxRecDepth 20000 in
theorem ggX6_count_X0_leastCharge : GoodIn wsX6_count wsX0_leastCharge := goodIn_r _ [21, 22, 23, 24, 25, 26, 27, 64, 65, 66, 67, 68, 69, 70, 71] (by decide +kernel) (by decide +kernel)
set_option maxRecDepth 20000 in
theorem gX6_count_X0_leastCharge : GoodIn wsX6_count (wsV RX6 85 RX0 yX0_leastCharge wsX0_leastCharge) := goodIn_app (goodIn_of _ (by decide +kernel)) ggX6_count_X0_leastCharge
set_option maxRecDepth 20000 in
theorem ggX6_count_X0_greatestCharge : GoodIn wsX6_count wsX0_greatestCharge := goodIn_r _ [31, 22, 23, 32, 33, 26, 34, 64, 65, 66, 67, 68, 69, 70, 71] (by decide +kernel) (by decide +kernel)
set_option maxRecDepth 20000 in
theorem gX6_count_X0_greatestCharge : GoodIn wsX6_count (wsV RX6 229 RX0 yX0_greatestCharge wsX0_greatestCharge) := goodIn_app (goodIn_of _ (by decide +kernel)) ggX6_count_X0_greatestCharge
set_option maxRecDepth 20000 in
theorem ggX6_count_X4_isPaused : GoodIn wsX6_count wsX4_isPaused := goodIn_r _ [39, 40, 41, 42, 43, 44, 52, 53, 54, 55, 56, 57, 58, 59, 60, 61, 62, 63] (by decide +kernel) (by decide +kernel)
set_option maxRecDepth 20000 in
theorem gX6_count_X4_isPaused : GoodIn wsX6_count (wsV RX6 189 RX4 yX4_isPaused wsX4_isPaused) := goodIn_app (goodIn_of _ (by decide +kernel)) ggX6_count_X4_isPaused
theorem dX6_count_0 : decode cX6_count 0 = .ok (.iload_n 1, 1) := by decide +kernel
theorem dX6_count_1 : decode cX6_count 1 = .ok (.tableswitch 234 0 13 #[71, 79, 90, 101, 109, 133, 156, 164, 175, 186, 202, 210, 218, 226], 71) := by decide +kernel
theorem dX6_count_72 : decode cX6_count 72 = .ok (.aload_n 0, 1) := by decide +kernel
theorem dX6_count_73 : decode cX6_count 73 = .ok (.getfield 10, 3) := by decide +kernel
theorem dX6_count_76 : decode cX6_count 76 = .ok (.getfield 129, 3) := by decide +kernel
theorem dX6_count_79 : decode cX6_count 79 = .ok (.ireturn, 1) := by decide +kernel
theorem dX6_count_80 : decode cX6_count 80 = .ok (.aload_n 0, 1) := by decide +kernel
theorem dX6_count_81 : decode cX6_count 81 = .ok (.getfield 10, 3) := by decide +kernel
theorem dX6_count_84 : decode cX6_count 84 = .ok (.getfield 50, 3) := by decide +kernel
theorem dX6_count_87 : decode cX6_count 87 = .ok (.getfield 54, 3) := by decide +kernel
theorem dX6_count_90 : decode cX6_count 90 = .ok (.ireturn, 1) := by decide +kernel
theorem dX6_count_91 : decode cX6_count 91 = .ok (.aload_n 0, 1) := by decide +kernel
theorem dX6_count_92 : decode cX6_count 92 = .ok (.getfield 10, 3) := by decide +kernel
theorem dX6_count_95 : decode cX6_count 95 = .ok (.getfield 116, 3) := by decide +kernel
theorem dX6_count_98 : decode cX6_count 98 = .ok (.getfield 123, 3) := by decide +kernel
theorem dX6_count_101 : decode cX6_count 101 = .ok (.ireturn, 1) := by decide +kernel
theorem dX6_count_102 : decode cX6_count 102 = .ok (.aload_n 0, 1) := by decide +kernel
theorem dX6_count_103 : decode cX6_count 103 = .ok (.getfield 10, 3) := by decide +kernel
theorem dX6_count_106 : decode cX6_count 106 = .ok (.getfield 68, 3) := by decide +kernel
theorem dX6_count_109 : decode cX6_count 109 = .ok (.ireturn, 1) := by decide +kernel
theorem dX6_count_110 : decode cX6_count 110 = .ok (.aload_n 0, 1) := by decide +kernel
theorem dX6_count_111 : decode cX6_count 111 = .ok (.getfield 10, 3) := by decide +kernel
theorem dX6_count_114 : decode cX6_count 114 = .ok (.getfield 68, 3) := by decide +kernel
theorem dX6_count_117 : decode cX6_count 117 = .ok (.iconst 1, 1) := by decide +kernel
theorem dX6_count_118 : decode cX6_count 118 = .ok (.if_icmp .ne 13, 3) := by decide +kernel
theorem dX6_count_121 : decode cX6_count 121 = .ok (.aload_n 0, 1) := by decide +kernel
theorem dX6_count_122 : decode cX6_count 122 = .ok (.getfield 10, 3) := by decide +kernel
theorem dX6_count_125 : decode cX6_count 125 = .ok (.getfield 221, 3) := by decide +kernel
theorem dX6_count_128 : decode cX6_count 128 = .ok (.goto 5, 3) := by decide +kernel
theorem dX6_count_131 : decode cX6_count 131 = .ok (.bipush (-5), 2) := by decide +kernel
theorem dX6_count_133 : decode cX6_count 133 = .ok (.ireturn, 1) := by decide +kernel
theorem dX6_count_134 : decode cX6_count 134 = .ok (.aload_n 0, 1) := by decide +kernel
theorem dX6_count_135 : decode cX6_count 135 = .ok (.getfield 10, 3) := by decide +kernel
theorem dX6_count_138 : decode cX6_count 138 = .ok (.getfield 68, 3) := by decide +kernel
theorem dX6_count_141 : decode cX6_count 141 = .ok (.iconst 1, 1) := by decide +kernel
theorem dX6_count_142 : decode cX6_count 142 = .ok (.if_icmp .ne 13, 3) := by decide +kernel
theorem dX6_count_145 : decode cX6_count 145 = .ok (.aload_n 0, 1) := by decide +kernel
theorem dX6_count_146 : decode cX6_count 146 = .ok (.getfield 10, 3) := by decide +kernel
theorem dX6_count_149 : decode cX6_count 149 = .ok (.getfield 223, 3) := by decide +kernel
theorem dX6_count_152 : decode cX6_count 152 = .ok (.goto 4, 3) := by decide +kernel
theorem dX6_count_155 : decode cX6_count 155 = .ok (.iconst 0, 1) := by decide +kernel
theorem dX6_count_156 : decode cX6_count 156 = .ok (.ireturn, 1) := by decide +kernel
theorem dX6_count_157 : decode cX6_count 157 = .ok (.aload_n 0, 1) := by decide +kernel
theorem dX6_count_158 : decode cX6_count 158 = .ok (.getfield 10, 3) := by decide +kernel
theorem dX6_count_161 : decode cX6_count 161 = .ok (.getfield 226, 3) := by decide +kernel
theorem dX6_count_164 : decode cX6_count 164 = .ok (.ireturn, 1) := by decide +kernel
theorem dX6_count_165 : decode cX6_count 165 = .ok (.aload_n 0, 1) := by decide +kernel
theorem dX6_count_166 : decode cX6_count 166 = .ok (.getfield 10, 3) := by decide +kernel
theorem dX6_count_169 : decode cX6_count 169 = .ok (.getfield 50, 3) := by decide +kernel
theorem dX6_count_172 : decode cX6_count 172 = .ok (.invokevirtual 85, 3) := by decide +kernel
theorem dX6_count_175 : decode cX6_count 175 = .ok (.ireturn, 1) := by decide +kernel
theorem dX6_count_176 : decode cX6_count 176 = .ok (.aload_n 0, 1) := by decide +kernel
theorem dX6_count_177 : decode cX6_count 177 = .ok (.getfield 10, 3) := by decide +kernel
theorem dX6_count_180 : decode cX6_count 180 = .ok (.getfield 50, 3) := by decide +kernel
theorem dX6_count_183 : decode cX6_count 183 = .ok (.invokevirtual 229, 3) := by decide +kernel
theorem dX6_count_186 : decode cX6_count 186 = .ok (.ireturn, 1) := by decide +kernel
theorem dX6_count_187 : decode cX6_count 187 = .ok (.aload_n 0, 1) := by decide +kernel
theorem dX6_count_188 : decode cX6_count 188 = .ok (.getfield 10, 3) := by decide +kernel
theorem dX6_count_191 : decode cX6_count 191 = .ok (.invokevirtual 189, 3) := by decide +kernel
theorem dX6_count_194 : decode cX6_count 194 = .ok (.ifCond .eq 7, 3) := by decide +kernel
theorem dX6_count_197 : decode cX6_count 197 = .ok (.iconst 1, 1) := by decide +kernel
theorem dX6_count_198 : decode cX6_count 198 = .ok (.goto 4, 3) := by decide +kernel
theorem dX6_count_201 : decode cX6_count 201 = .ok (.iconst 0, 1) := by decide +kernel
theorem dX6_count_202 : decode cX6_count 202 = .ok (.ireturn, 1) := by decide +kernel
theorem dX6_count_203 : decode cX6_count 203 = .ok (.aload_n 0, 1) := by decide +kernel
theorem dX6_count_204 : decode cX6_count 204 = .ok (.getfield 10, 3) := by decide +kernel
theorem dX6_count_207 : decode cX6_count 207 = .ok (.getfield 232, 3) := by decide +kernel
theorem dX6_count_210 : decode cX6_count 210 = .ok (.ireturn, 1) := by decide +kernel
theorem dX6_count_211 : decode cX6_count 211 = .ok (.aload_n 0, 1) := by decide +kernel
theorem dX6_count_212 : decode cX6_count 212 = .ok (.getfield 10, 3) := by decide +kernel
theorem dX6_count_215 : decode cX6_count 215 = .ok (.getfield 235, 3) := by decide +kernel
theorem dX6_count_218 : decode cX6_count 218 = .ok (.ireturn, 1) := by decide +kernel
theorem dX6_count_219 : decode cX6_count 219 = .ok (.aload_n 0, 1) := by decide +kernel
theorem dX6_count_220 : decode cX6_count 220 = .ok (.getfield 29, 3) := by decide +kernel
theorem dX6_count_223 : decode cX6_count 223 = .ok (.getfield 142, 3) := by decide +kernel
theorem dX6_count_226 : decode cX6_count 226 = .ok (.ireturn, 1) := by decide +kernel
theorem dX6_count_227 : decode cX6_count 227 = .ok (.aload_n 0, 1) := by decide +kernel
theorem dX6_count_228 : decode cX6_count 228 = .ok (.getfield 36, 3) := by decide +kernel
theorem dX6_count_231 : decode cX6_count 231 = .ok (.getfield 136, 3) := by decide +kernel
theorem dX6_count_234 : decode cX6_count 234 = .ok (.ireturn, 1) := by decide +kernel
theorem dX6_count_235 : decode cX6_count 235 = .ok (.bipush (-2), 2) := by decide +kernel
theorem dX6_count_237 : decode cX6_count 237 = .ok (.ireturn, 1) := by decide +kernel
theorem dX6_isSetting_0 : decode cX6_isSetting 0 = .ok (.iload_n 0, 1) := by decide +kernel
theorem dX6_isSetting_1 : decode cX6_isSetting 1 = .ok (.ifCond .lt 13, 3) := by decide +kernel
theorem dX6_isSetting_4 : decode cX6_isSetting 4 = .ok (.iload_n 0, 1) := by decide +kernel
theorem dX6_isSetting_5 : decode cX6_isSetting 5 = .ok (.bipush 9, 2) := by decide +kernel
theorem dX6_isSetting_7 : decode cX6_isSetting 7 = .ok (.if_icmp .ge 7, 3) := by decide +kernel
theorem dX6_isSetting_10 : decode cX6_isSetting 10 = .ok (.iconst 1, 1) := by decide +kernel
theorem dX6_isSetting_11 : decode cX6_isSetting 11 = .ok (.goto 4, 3) := by decide +kernel
theorem dX6_isSetting_14 : decode cX6_isSetting 14 = .ok (.iconst 0, 1) := by decide +kernel
theorem dX6_isSetting_15 : decode cX6_isSetting 15 = .ok (.ireturn, 1) := by decide +kernel
theorem dX6_isIn_0 : decode cX6_isIn 0 = .ok (.iload_n 0, 1) := by decide +kernel
theorem dX6_isIn_1 : decode cX6_isIn 1 = .ok (.iload_n 1, 1) := by decide +kernel
theorem dX6_isIn_2 : decode cX6_isIn 2 = .ok (.if_icmp .lt 12, 3) := by decide +kernel
theorem dX6_isIn_5 : decode cX6_isIn 5 = .ok (.iload_n 0, 1) := by decide +kernel
theorem dX6_isIn_6 : decode cX6_isIn 6 = .ok (.iload_n 2, 1) := by decide +kernel
theorem dX6_isIn_7 : decode cX6_isIn 7 = .ok (.if_icmp .gt 7, 3) := by decide +kernel
theorem dX6_isIn_10 : decode cX6_isIn 10 = .ok (.iconst 1, 1) := by decide +kernel
theorem dX6_isIn_11 : decode cX6_isIn 11 = .ok (.goto 4, 3) := by decide +kernel
theorem dX6_isIn_14 : decode cX6_isIn 14 = .ok (.iconst 0, 1) := by decide +kernel
theorem dX6_isIn_15 : decode cX6_isIn 15 = .ok (.ireturn, 1) := by decide +kernel
theorem dX6_baseVoltage_0 : decode cX6_baseVoltage 0 = .ok (.iload_n 1, 1) := by decide +kernel
theorem dX6_baseVoltage_1 : decode cX6_baseVoltage 1 = .ok (.ifCond .le 17, 3) := by decide +kernel
theorem dX6_baseVoltage_4 : decode cX6_baseVoltage 4 = .ok (.sipush 3000, 3) := by decide +kernel
theorem dX6_baseVoltage_7 : decode cX6_baseVoltage 7 = .ok (.sipush 1200, 3) := by decide +kernel
theorem dX6_baseVoltage_10 : decode cX6_baseVoltage 10 = .ok (.iload_n 0, 1) := by decide +kernel
theorem dX6_baseVoltage_11 : decode cX6_baseVoltage 11 = .ok (.imul, 1) := by decide +kernel
theorem dX6_baseVoltage_12 : decode cX6_baseVoltage 12 = .ok (.iload_n 1, 1) := by decide +kernel
theorem dX6_baseVoltage_13 : decode cX6_baseVoltage 13 = .ok (.idiv, 1) := by decide +kernel
theorem dX6_baseVoltage_14 : decode cX6_baseVoltage 14 = .ok (.iadd, 1) := by decide +kernel
theorem dX6_baseVoltage_15 : decode cX6_baseVoltage 15 = .ok (.goto 6, 3) := by decide +kernel
theorem dX6_baseVoltage_18 : decode cX6_baseVoltage 18 = .ok (.sipush 3000, 3) := by decide +kernel
theorem dX6_baseVoltage_21 : decode cX6_baseVoltage 21 = .ok (.ireturn, 1) := by decide +kernel
theorem dJ9_floorMod_7cf53_0 : decode cJ9_floorMod_7cf53 0 = .ok (.iload_n 0, 1) := by decide +kernel
theorem dJ9_floorMod_7cf53_1 : decode cJ9_floorMod_7cf53 1 = .ok (.iload_n 1, 1) := by decide +kernel
theorem dJ9_floorMod_7cf53_2 : decode cJ9_floorMod_7cf53 2 = .ok (.irem, 1) := by decide +kernel
theorem dJ9_floorMod_7cf53_3 : decode cJ9_floorMod_7cf53 3 = .ok (.istore_n 2, 1) := by decide +kernel
theorem dJ9_floorMod_7cf53_4 : decode cJ9_floorMod_7cf53 4 = .ok (.iload_n 0, 1) := by decide +kernel
theorem dJ9_floorMod_7cf53_5 : decode cJ9_floorMod_7cf53 5 = .ok (.iload_n 1, 1) := by decide +kernel
theorem dJ9_floorMod_7cf53_6 : decode cJ9_floorMod_7cf53 6 = .ok (.ixor, 1) := by decide +kernel
theorem dJ9_floorMod_7cf53_7 : decode cJ9_floorMod_7cf53 7 = .ok (.ifCond .ge 11, 3) := by decide +kernel
theorem dJ9_floorMod_7cf53_10 : decode cJ9_floorMod_7cf53 10 = .ok (.iload_n 2, 1) := by decide +kernel
theorem dJ9_floorMod_7cf53_11 : decode cJ9_floorMod_7cf53 11 = .ok (.ifCond .eq 7, 3) := by decide +kernel
theorem dJ9_floorMod_7cf53_14 : decode cJ9_floorMod_7cf53 14 = .ok (.iload_n 2, 1) := by decide +kernel
theorem dJ9_floorMod_7cf53_15 : decode cJ9_floorMod_7cf53 15 = .ok (.iload_n 1, 1) := by decide +kernel
theorem dJ9_floorMod_7cf53_16 : decode cJ9_floorMod_7cf53 16 = .ok (.iadd, 1) := by decide +kernel
theorem dJ9_floorMod_7cf53_17 : decode cJ9_floorMod_7cf53 17 = .ok (.ireturn, 1) := by decide +kernel
theorem dJ9_floorMod_7cf53_18 : decode cJ9_floorMod_7cf53 18 = .ok (.iload_n 2, 1) := by decide +kernel
theorem dJ9_floorMod_7cf53_19 : decode cJ9_floorMod_7cf53 19 = .ok (.ireturn, 1) := by decide +kernel
theorem dJ9_max_7cf53_0 : decode cJ9_max_7cf53 0 = .ok (.iload_n 0, 1) := by decide +kernel
theorem dJ9_max_7cf53_1 : decode cJ9_max_7cf53 1 = .ok (.iload_n 1, 1) := by decide +kernel
theorem dJ9_max_7cf53_2 : decode cJ9_max_7cf53 2 = .ok (.if_icmp .lt 7, 3) := by decide +kernel
theorem dJ9_max_7cf53_5 : decode cJ9_max_7cf53 5 = .ok (.iload_n 0, 1) := by decide +kernel
theorem dJ9_max_7cf53_6 : decode cJ9_max_7cf53 6 = .ok (.goto 4, 3) := by decide +kernel
theorem dJ9_max_7cf53_9 : decode cJ9_max_7cf53 9 = .ok (.iload_n 1, 1) := by decide +kernel
theorem dJ9_max_7cf53_10 : decode cJ9_max_7cf53 10 = .ok (.ireturn, 1) := by decide +kernel
theorem dJ9_min_7cf53_0 : decode cJ9_min_7cf53 0 = .ok (.iload_n 0, 1) := by decide +kernel
theorem dJ9_min_7cf53_1 : decode cJ9_min_7cf53 1 = .ok (.iload_n 1, 1) := by decide +kernel
theorem dJ9_min_7cf53_2 : decode cJ9_min_7cf53 2 = .ok (.if_icmp .gt 7, 3) := by decide +kernel
theorem dJ9_min_7cf53_5 : decode cJ9_min_7cf53 5 = .ok (.iload_n 0, 1) := by decide +kernel
theorem dJ9_min_7cf53_6 : decode cJ9_min_7cf53 6 = .ok (.goto 4, 3) := by decide +kernel
theorem dJ9_min_7cf53_9 : decode cJ9_min_7cf53 9 = .ok (.iload_n 1, 1) := by decide +kernel
theorem dJ9_min_7cf53_10 : decode cJ9_min_7cf53 10 = .ok (.ireturn, 1) := by decide +kernel
theorem dL_part_0 : decode cL_part 0 = .ok (.iload_n 0, 1) := by decide +kernel
theorem dL_part_1 : decode cL_part 1 = .ok (.ldc 7, 2) := by decide +kernel
theorem dL_part_3 : decode cL_part 3 = .ok (.iand, 1) := by decide +kernel
theorem dL_part_4 : decode cL_part 4 = .ok (.iload_n 1, 1) := by decide +kernel
theorem dL_part_5 : decode cL_part 5 = .ok (.irem, 1) := by decide +kernel
theorem dL_part_6 : decode cL_part 6 = .ok (.ireturn, 1) := by decide +kernel
theorem dL_drawn_0 : decode cL_drawn 0 = .ok (.aload_n 0, 1) := by decide +kernel
theorem dL_drawn_1 : decode cL_drawn 1 = .ok (.arraylength, 1) := by decide +kernel
theorem dL_drawn_2 : decode cL_drawn 2 = .ok (.ifCond .ne 13, 3) := by decide +kernel
theorem dL_drawn_5 : decode cL_drawn 5 = .ok (.sipush 7919, 3) := by decide +kernel
theorem dL_drawn_8 : decode cL_drawn 8 = .ok (.iload_n 1, 1) := by decide +kernel
theorem dL_drawn_9 : decode cL_drawn 9 = .ok (.imul, 1) := by decide +kernel
theorem dL_drawn_10 : decode cL_drawn 10 = .ok (.iconst 3, 1) := by decide +kernel
theorem dL_drawn_11 : decode cL_drawn 11 = .ok (.iadd, 1) := by decide +kernel
theorem dL_drawn_12 : decode cL_drawn 12 = .ok (.goto 27, 3) := by decide +kernel
theorem dL_drawn_15 : decode cL_drawn 15 = .ok (.aload_n 0, 1) := by decide +kernel
theorem dL_drawn_16 : decode cL_drawn 16 = .ok (.iload_n 1, 1) := by decide +kernel
theorem dL_drawn_17 : decode cL_drawn 17 = .ok (.aload_n 0, 1) := by decide +kernel
theorem dL_drawn_18 : decode cL_drawn 18 = .ok (.arraylength, 1) := by decide +kernel
theorem dL_drawn_19 : decode cL_drawn 19 = .ok (.irem, 1) := by decide +kernel
theorem dL_drawn_20 : decode cL_drawn 20 = .ok (.iaload, 1) := by decide +kernel
theorem dL_drawn_21 : decode cL_drawn 21 = .ok (.iload_n 1, 1) := by decide +kernel
theorem dL_drawn_22 : decode cL_drawn 22 = .ok (.bipush 7, 2) := by decide +kernel
theorem dL_drawn_24 : decode cL_drawn 24 = .ok (.irem, 1) := by decide +kernel
theorem dL_drawn_25 : decode cL_drawn 25 = .ok (.ishr, 1) := by decide +kernel
theorem dL_drawn_26 : decode cL_drawn 26 = .ok (.iload_n 1, 1) := by decide +kernel
theorem dL_drawn_27 : decode cL_drawn 27 = .ok (.aload_n 0, 1) := by decide +kernel
theorem dL_drawn_28 : decode cL_drawn 28 = .ok (.arraylength, 1) := by decide +kernel
theorem dL_drawn_29 : decode cL_drawn 29 = .ok (.idiv, 1) := by decide +kernel
theorem dL_drawn_30 : decode cL_drawn 30 = .ok (.bipush 31, 2) := by decide +kernel
theorem dL_drawn_32 : decode cL_drawn 32 = .ok (.imul, 1) := by decide +kernel
theorem dL_drawn_33 : decode cL_drawn 33 = .ok (.ixor, 1) := by decide +kernel
theorem dL_drawn_34 : decode cL_drawn 34 = .ok (.iload_n 1, 1) := by decide +kernel
theorem dL_drawn_35 : decode cL_drawn 35 = .ok (.ldc 8, 2) := by decide +kernel
theorem dL_drawn_37 : decode cL_drawn 37 = .ok (.imul, 1) := by decide +kernel
theorem dL_drawn_38 : decode cL_drawn 38 = .ok (.ixor, 1) := by decide +kernel
theorem dL_drawn_39 : decode cL_drawn 39 = .ok (.ireturn, 1) := by decide +kernel
set_option maxRecDepth 20000 in
theorem ggL_seen_X6_cell : GoodIn wsL_seen wsX6_cell := goodIn_r _ [7, 8, 9, 10, 11, 12, 13, 14, 15, 16, 17, 18, 19, 20, 21, 22, 23, 24, 25, 6, 26, 242, 243, 244, 245, 246, 247, 248, 249, 250, 251, 252, 253, 254, 255, 256, 257, 258, 259, 260, 261, 262, 263, 264, 265, 266, 267, 268] (by decide +kernel) (by decide +kernel)
set_option maxRecDepth 20000 in
theorem gL_seen_X6_cell : GoodIn wsL_seen (wsV RL 13 RX6 yX6_cell wsX6_cell) := goodIn_app (goodIn_of _ (by decide +kernel)) ggL_seen_X6_cell
set_option maxRecDepth 20000 in
theorem ggL_seen_X6_count : GoodIn wsL_seen wsX6_count := goodIn_r _ [30, 8, 31, 9, 32, 33, 34, 35, 36, 37, 38, 39, 40, 41, 42, 43, 44, 45, 46, 47, 21, 48, 49, 23, 50, 51, 52, 53, 54, 55, 56, 57, 58, 59, 60, 61, 62, 63, 64, 65, 66, 67, 68, 6, 69, 242, 243, 244, 245, 246, 247, 248, 249, 250, 251, 252, 253, 254, 255, 256, 257, 258, 259, 260, 261, 262, 263, 264, 265, 266, 267, 268, 269, 270, 271, 272, 273, 274, 275, 276, 277, 278] (by decide +kernel) (by decide +kernel)
set_option maxRecDepth 20000 in
theorem gL_seen_X6_count : GoodIn wsL_seen (wsV RL 19 RX6 yX6_count wsX6_count) := goodIn_app (goodIn_of _ (by decide +kernel)) ggL_seen_X6_count
set_option maxRecDepth 20000 in
theorem ggL_seen_X6_event : GoodIn wsL_seen wsX6_event := goodIn_r _ [73, 8, 74, 75, 76, 77, 78, 79, 80, 81, 82, 83, 84, 85, 86, 87, 88, 242, 243, 244, 245, 246, 247, 248, 249, 250, 251, 252, 253, 254, 255, 256, 257, 258, 259, 260, 279, 280, 281, 282, 283] (by decide +kernel) (by decide +kernel)
set_option maxRecDepth 20000 in
theorem gL_seen_X6_event : GoodIn wsL_seen (wsV RL 23 RX6 yX6_event wsX6_event) := goodIn_app (goodIn_of _ (by decide +kernel)) ggL_seen_X6_event
set_option maxRecDepth 20000 in
theorem ggL_seen_X6_stage : GoodIn wsL_seen wsX6_stage := goodIn_r _ [92, 8, 33, 93, 94, 95, 96, 97, 98, 99, 100, 101, 102, 103, 104, 105, 64, 106, 107, 67, 108, 109, 110, 111, 112, 113, 114, 242, 243, 244, 245, 246, 247, 248, 249, 250, 251, 252, 253, 254, 255, 256, 257, 258, 259, 260, 269, 270, 271, 272, 273] (by decide +kernel) (by decide +kernel)
set_option maxRecDepth 20000 in
theorem gL_seen_X6_stage : GoodIn wsL_seen (wsV RL 26 RX6 yX6_stage wsX6_stage) := goodIn_app (goodIn_of _ (by decide +kernel)) ggL_seen_X6_stage
set_option maxRecDepth 20000 in
theorem ggL_seen_X6_setting : GoodIn wsL_seen wsX6_setting := goodIn_r _ [118, 8, 11, 119, 120, 6, 121, 242, 243, 244, 245, 246, 247, 248, 249, 250, 251, 252, 253, 254, 255, 256, 257, 258, 259, 260] (by decide +kernel) (by decide +kernel)
set_option maxRecDepth 20000 in
theorem gL_seen_X6_setting : GoodIn wsL_seen (wsV RL 29 RX6 yX6_setting wsX6_setting) := goodIn_app (goodIn_of _ (by decide +kernel)) ggL_seen_X6_setting
set_option maxRecDepth 20000 in
theorem ggL_seen_X6_current : GoodIn wsL_seen wsX6_current := goodIn_r _ [125, 8, 35, 126, 59, 52, 60, 61, 62, 63, 64, 65, 66, 67, 68, 6, 69, 127, 128, 129, 130, 107, 131, 132, 133, 134, 135, 98, 99, 100, 101, 102, 136, 104, 105, 106, 108, 109, 110, 111, 112, 113, 114, 137, 138, 139, 140, 141, 142, 55, 56, 21, 57, 49, 23, 58, 25, 26, 143, 144, 145, 146, 147, 51, 53, 242, 243, 244, 245, 246, 247, 248, 249, 250, 251, 252, 253, 254, 255, 256, 257, 258, 259, 260, 269, 270, 271, 272, 273, 261, 262, 263, 264, 265, 266, 267, 268] (by decide +kernel) (by decide +kernel)
set_option maxRecDepth 20000 in
theorem gL_seen_X6_current : GoodIn wsL_seen (wsV RL 32 RX6 yX6_current wsX6_current) := goodIn_app (goodIn_of _ (by decide +kernel)) ggL_seen_X6_current
set_option maxRecDepth 20000 in
theorem ggL_seen_X6_doneIn : GoodIn wsL_seen wsX6_doneIn := goodIn_r _ [151, 8, 35, 152, 153, 154, 155, 64, 156, 67, 157, 158, 159, 160, 141, 107, 161, 66, 131, 162, 163, 164, 165, 166, 167, 168, 169, 170, 21, 171, 23, 49, 172, 173, 174, 175, 176, 177, 178, 179, 180, 181, 100, 182, 102, 112, 183, 113, 114, 184, 185, 186, 187, 82, 188, 189, 84, 190, 191, 192, 193, 194, 195, 196, 197, 198, 62, 63, 65, 68, 6, 69, 199, 200, 201, 202, 203, 204, 205, 206, 207, 208, 209, 210, 211, 212, 213, 214, 215, 128, 129, 130, 132, 133, 134, 135, 98, 99, 101, 136, 104, 105, 106, 108, 109, 110, 111, 137, 138, 139, 140, 142, 55, 56, 57, 58, 59, 52, 60, 25, 26, 143, 144, 145, 146, 147, 51, 53, 216, 217, 218, 219, 220, 221, 222, 223, 224, 225, 226, 227, 228, 229, 230, 231, 232, 233, 234, 235, 236, 237, 238, 239, 240, 50, 241, 46, 47, 48, 242, 243, 244, 245, 246, 247, 248, 249, 250, 251, 252, 253, 254, 255, 256, 257, 258, 259, 260, 261, 262, 263, 264, 265, 266, 267, 268, 269, 270, 271, 272, 273, 279, 280, 281, 282, 283] (by decide +kernel) (by decide +kernel)
set_option maxRecDepth 20000 in
theorem gL_seen_X6_doneIn : GoodIn wsL_seen (wsV RL 36 RX6 yX6_doneIn wsX6_doneIn) := goodIn_app (goodIn_of _ (by decide +kernel)) ggL_seen_X6_doneIn
theorem dL_seen_0 : decode cL_seen 0 = .ok (.ldc2_w 9, 3) := by decide +kernel
theorem dL_seen_3 : decode cL_seen 3 = .ok (.lstore_n 1, 1) := by decide +kernel
theorem dL_seen_4 : decode cL_seen 4 = .ok (.iconst 0, 1) := by decide +kernel
theorem dL_seen_5 : decode cL_seen 5 = .ok (.istore_n 3, 1) := by decide +kernel
theorem dL_seen_6 : decode cL_seen 6 = .ok (.iload_n 3, 1) := by decide +kernel
theorem dL_seen_7 : decode cL_seen 7 = .ok (.bipush 54, 2) := by decide +kernel
theorem dL_seen_9 : decode cL_seen 9 = .ok (.if_icmp .ge 29, 3) := by decide +kernel
theorem dL_seen_12 : decode cL_seen 12 = .ok (.ldc2_w 11, 3) := by decide +kernel
theorem dL_seen_15 : decode cL_seen 15 = .ok (.lload_n 1, 1) := by decide +kernel
theorem dL_seen_16 : decode cL_seen 16 = .ok (.lmul, 1) := by decide +kernel
theorem dL_seen_17 : decode cL_seen 17 = .ok (.aload_n 0, 1) := by decide +kernel
theorem dL_seen_18 : decode cL_seen 18 = .ok (.iload_n 3, 1) := by decide +kernel
theorem dL_seen_19 : decode cL_seen 19 = .ok (.bipush 9, 2) := by decide +kernel
theorem dL_seen_21 : decode cL_seen 21 = .ok (.idiv, 1) := by decide +kernel
theorem dL_seen_22 : decode cL_seen 22 = .ok (.iload_n 3, 1) := by decide +kernel
theorem dL_seen_23 : decode cL_seen 23 = .ok (.bipush 9, 2) := by decide +kernel
theorem dL_seen_25 : decode cL_seen 25 = .ok (.irem, 1) := by decide +kernel
theorem dL_seen_26 : decode cL_seen 26 = .ok (.invokevirtual 13, 3) := by decide +kernel
theorem dL_seen_29 : decode cL_seen 29 = .ok (.i2l, 1) := by decide +kernel
theorem dL_seen_30 : decode cL_seen 30 = .ok (.ladd, 1) := by decide +kernel
theorem dL_seen_31 : decode cL_seen 31 = .ok (.lstore_n 1, 1) := by decide +kernel
theorem dL_seen_32 : decode cL_seen 32 = .ok (.iinc 3 1, 3) := by decide +kernel
theorem dL_seen_35 : decode cL_seen 35 = .ok (.goto (-29), 3) := by decide +kernel
theorem dL_seen_38 : decode cL_seen 38 = .ok (.iconst 0, 1) := by decide +kernel
theorem dL_seen_39 : decode cL_seen 39 = .ok (.istore_n 3, 1) := by decide +kernel
theorem dL_seen_40 : decode cL_seen 40 = .ok (.iload_n 3, 1) := by decide +kernel
theorem dL_seen_41 : decode cL_seen 41 = .ok (.bipush 12, 2) := by decide +kernel
theorem dL_seen_43 : decode cL_seen 43 = .ok (.if_icmp .ge 22, 3) := by decide +kernel
theorem dL_seen_46 : decode cL_seen 46 = .ok (.ldc2_w 11, 3) := by decide +kernel
theorem dL_seen_49 : decode cL_seen 49 = .ok (.lload_n 1, 1) := by decide +kernel
theorem dL_seen_50 : decode cL_seen 50 = .ok (.lmul, 1) := by decide +kernel
theorem dL_seen_51 : decode cL_seen 51 = .ok (.aload_n 0, 1) := by decide +kernel
theorem dL_seen_52 : decode cL_seen 52 = .ok (.iload_n 3, 1) := by decide +kernel
theorem dL_seen_53 : decode cL_seen 53 = .ok (.invokevirtual 19, 3) := by decide +kernel
theorem dL_seen_56 : decode cL_seen 56 = .ok (.i2l, 1) := by decide +kernel
theorem dL_seen_57 : decode cL_seen 57 = .ok (.ladd, 1) := by decide +kernel
theorem dL_seen_58 : decode cL_seen 58 = .ok (.lstore_n 1, 1) := by decide +kernel
theorem dL_seen_59 : decode cL_seen 59 = .ok (.iinc 3 1, 3) := by decide +kernel
theorem dL_seen_62 : decode cL_seen 62 = .ok (.goto (-22), 3) := by decide +kernel
theorem dL_seen_65 : decode cL_seen 65 = .ok (.iconst 0, 1) := by decide +kernel
theorem dL_seen_66 : decode cL_seen 66 = .ok (.istore_n 3, 1) := by decide +kernel
theorem dL_seen_67 : decode cL_seen 67 = .ok (.iload_n 3, 1) := by decide +kernel
theorem dL_seen_68 : decode cL_seen 68 = .ok (.bipush 30, 2) := by decide +kernel
theorem dL_seen_70 : decode cL_seen 70 = .ok (.if_icmp .ge 27, 3) := by decide +kernel
theorem dL_seen_73 : decode cL_seen 73 = .ok (.ldc2_w 11, 3) := by decide +kernel
theorem dL_seen_76 : decode cL_seen 76 = .ok (.lload_n 1, 1) := by decide +kernel
theorem dL_seen_77 : decode cL_seen 77 = .ok (.lmul, 1) := by decide +kernel
theorem dL_seen_78 : decode cL_seen 78 = .ok (.aload_n 0, 1) := by decide +kernel
theorem dL_seen_79 : decode cL_seen 79 = .ok (.iload_n 3, 1) := by decide +kernel
theorem dL_seen_80 : decode cL_seen 80 = .ok (.iconst 3, 1) := by decide +kernel
theorem dL_seen_81 : decode cL_seen 81 = .ok (.idiv, 1) := by decide +kernel
theorem dL_seen_82 : decode cL_seen 82 = .ok (.iload_n 3, 1) := by decide +kernel
theorem dL_seen_83 : decode cL_seen 83 = .ok (.iconst 3, 1) := by decide +kernel
theorem dL_seen_84 : decode cL_seen 84 = .ok (.irem, 1) := by decide +kernel
theorem dL_seen_85 : decode cL_seen 85 = .ok (.invokevirtual 23, 3) := by decide +kernel
theorem dL_seen_88 : decode cL_seen 88 = .ok (.i2l, 1) := by decide +kernel
theorem dL_seen_89 : decode cL_seen 89 = .ok (.ladd, 1) := by decide +kernel
theorem dL_seen_90 : decode cL_seen 90 = .ok (.lstore_n 1, 1) := by decide +kernel
theorem dL_seen_91 : decode cL_seen 91 = .ok (.iinc 3 1, 3) := by decide +kernel
theorem dL_seen_94 : decode cL_seen 94 = .ok (.goto (-27), 3) := by decide +kernel
theorem dL_seen_97 : decode cL_seen 97 = .ok (.iconst 0, 1) := by decide +kernel
theorem dL_seen_98 : decode cL_seen 98 = .ok (.istore_n 3, 1) := by decide +kernel
theorem dL_seen_99 : decode cL_seen 99 = .ok (.iload_n 3, 1) := by decide +kernel
theorem dL_seen_100 : decode cL_seen 100 = .ok (.bipush 25, 2) := by decide +kernel
theorem dL_seen_102 : decode cL_seen 102 = .ok (.if_icmp .ge 27, 3) := by decide +kernel
theorem dL_seen_105 : decode cL_seen 105 = .ok (.ldc2_w 11, 3) := by decide +kernel
theorem dL_seen_108 : decode cL_seen 108 = .ok (.lload_n 1, 1) := by decide +kernel
theorem dL_seen_109 : decode cL_seen 109 = .ok (.lmul, 1) := by decide +kernel
theorem dL_seen_110 : decode cL_seen 110 = .ok (.aload_n 0, 1) := by decide +kernel
theorem dL_seen_111 : decode cL_seen 111 = .ok (.iload_n 3, 1) := by decide +kernel
theorem dL_seen_112 : decode cL_seen 112 = .ok (.iconst 5, 1) := by decide +kernel
theorem dL_seen_113 : decode cL_seen 113 = .ok (.idiv, 1) := by decide +kernel
theorem dL_seen_114 : decode cL_seen 114 = .ok (.iload_n 3, 1) := by decide +kernel
theorem dL_seen_115 : decode cL_seen 115 = .ok (.iconst 5, 1) := by decide +kernel
theorem dL_seen_116 : decode cL_seen 116 = .ok (.irem, 1) := by decide +kernel
theorem dL_seen_117 : decode cL_seen 117 = .ok (.invokevirtual 26, 3) := by decide +kernel
theorem dL_seen_120 : decode cL_seen 120 = .ok (.i2l, 1) := by decide +kernel
theorem dL_seen_121 : decode cL_seen 121 = .ok (.ladd, 1) := by decide +kernel
theorem dL_seen_122 : decode cL_seen 122 = .ok (.lstore_n 1, 1) := by decide +kernel
theorem dL_seen_123 : decode cL_seen 123 = .ok (.iinc 3 1, 3) := by decide +kernel
theorem dL_seen_126 : decode cL_seen 126 = .ok (.goto (-27), 3) := by decide +kernel
theorem dL_seen_129 : decode cL_seen 129 = .ok (.iconst 0, 1) := by decide +kernel
theorem dL_seen_130 : decode cL_seen 130 = .ok (.istore_n 3, 1) := by decide +kernel
theorem dL_seen_131 : decode cL_seen 131 = .ok (.iload_n 3, 1) := by decide +kernel
theorem dL_seen_132 : decode cL_seen 132 = .ok (.bipush 9, 2) := by decide +kernel
theorem dL_seen_134 : decode cL_seen 134 = .ok (.if_icmp .ge 22, 3) := by decide +kernel
theorem dL_seen_137 : decode cL_seen 137 = .ok (.ldc2_w 11, 3) := by decide +kernel
theorem dL_seen_140 : decode cL_seen 140 = .ok (.lload_n 1, 1) := by decide +kernel
theorem dL_seen_141 : decode cL_seen 141 = .ok (.lmul, 1) := by decide +kernel
theorem dL_seen_142 : decode cL_seen 142 = .ok (.aload_n 0, 1) := by decide +kernel
theorem dL_seen_143 : decode cL_seen 143 = .ok (.iload_n 3, 1) := by decide +kernel
theorem dL_seen_144 : decode cL_seen 144 = .ok (.invokevirtual 29, 3) := by decide +kernel
theorem dL_seen_147 : decode cL_seen 147 = .ok (.i2l, 1) := by decide +kernel
theorem dL_seen_148 : decode cL_seen 148 = .ok (.ladd, 1) := by decide +kernel
theorem dL_seen_149 : decode cL_seen 149 = .ok (.lstore_n 1, 1) := by decide +kernel
theorem dL_seen_150 : decode cL_seen 150 = .ok (.iinc 3 1, 3) := by decide +kernel
theorem dL_seen_153 : decode cL_seen 153 = .ok (.goto (-22), 3) := by decide +kernel
theorem dL_seen_156 : decode cL_seen 156 = .ok (.ldc2_w 11, 3) := by decide +kernel
theorem dL_seen_159 : decode cL_seen 159 = .ok (.ldc2_w 11, 3) := by decide +kernel
theorem dL_seen_162 : decode cL_seen 162 = .ok (.lload_n 1, 1) := by decide +kernel
theorem dL_seen_163 : decode cL_seen 163 = .ok (.lmul, 1) := by decide +kernel
theorem dL_seen_164 : decode cL_seen 164 = .ok (.aload_n 0, 1) := by decide +kernel
theorem dL_seen_165 : decode cL_seen 165 = .ok (.invokevirtual 32, 3) := by decide +kernel
theorem dL_seen_168 : decode cL_seen 168 = .ok (.i2l, 1) := by decide +kernel
theorem dL_seen_169 : decode cL_seen 169 = .ok (.ladd, 1) := by decide +kernel
theorem dL_seen_170 : decode cL_seen 170 = .ok (.lmul, 1) := by decide +kernel
theorem dL_seen_171 : decode cL_seen 171 = .ok (.aload_n 0, 1) := by decide +kernel
theorem dL_seen_172 : decode cL_seen 172 = .ok (.invokevirtual 36, 3) := by decide +kernel
theorem dL_seen_175 : decode cL_seen 175 = .ok (.i2l, 1) := by decide +kernel
theorem dL_seen_176 : decode cL_seen 176 = .ok (.ladd, 1) := by decide +kernel
theorem dL_seen_177 : decode cL_seen 177 = .ok (.lreturn, 1) := by decide +kernel
set_option maxRecDepth 20000 in
theorem ggL_refusesAny_X6_battery : GoodIn wsL_refusesAny wsX6_battery := goodIn_r _ [5, 6, 7, 8, 9, 10, 11, 12, 13, 14, 15, 16, 17, 18, 19, 20, 21, 22, 23, 24, 25, 26, 27, 28, 29, 30, 31, 32, 33, 34, 35, 36, 37, 38, 39, 40, 41, 42, 43, 44, 45, 46, 47, 48, 49, 50, 51, 52, 53, 54, 55, 56, 57, 58, 59, 60, 61, 62, 63, 64, 65, 66, 67, 68, 69, 70, 71, 72, 73, 74, 75, 76, 77, 78, 79, 80, 81, 82, 83, 84, 85, 86, 87, 88, 89, 306, 307, 308, 309, 310, 311, 312, 313, 314, 315, 316, 317, 318, 319, 320, 321, 322, 323, 324, 325, 326, 327, 328, 329, 330, 331, 332, 333, 334, 335, 336, 337, 338, 339, 340, 341, 342, 343, 344] (by decide +kernel) (by decide +kernel)
set_option maxRecDepth 20000 in
theorem gL_refusesAny_X6_battery : GoodIn wsL_refusesAny (wsV RL 39 RX6 yX6_battery wsX6_battery) := goodIn_app (goodIn_of _ (by decide +kernel)) ggL_refusesAny_X6_battery
set_option maxRecDepth 20000 in
theorem ggL_refusesAny_X6_count : GoodIn wsL_refusesAny wsX6_count := goodIn_r _ [93, 6, 94, 7, 8, 95, 96, 10, 97, 98, 99, 100, 101, 9, 102, 103, 104, 105, 106, 107, 46, 108, 49, 48, 83, 84, 85, 86, 109, 110, 111, 112, 87, 88, 89, 113, 114, 115, 25, 116, 35, 27, 117, 4, 118, 306, 307, 308, 309, 310, 311, 312, 313, 314, 315, 316, 317, 318, 319, 320, 321, 322, 323, 324, 325, 326, 327, 328, 329, 330, 331, 332, 335, 336, 337, 338, 339, 333, 334, 345, 346, 347] (by decide +kernel) (by decide +kernel)
set_option maxRecDepth 20000 in
theorem gL_refusesAny_X6_count : GoodIn wsL_refusesAny (wsV RL 19 RX6 yX6_count wsX6_count) := goodIn_app (goodIn_of _ (by decide +kernel)) ggL_refusesAny_X6_count
set_option maxRecDepth 20000 in
theorem ggL_refusesAny_X6_setCharge : GoodIn wsL_refusesAny wsX6_setCharge := goodIn_r _ [122, 6, 7, 123, 124, 125, 9, 126, 127, 128, 46, 129, 48, 11, 12, 13, 14, 15, 16, 17, 18, 19, 20, 21, 22, 23, 24, 25, 26, 27, 28, 29, 30, 31, 32, 33, 34, 35, 36, 37, 38, 39, 40, 41, 42, 43, 44, 45, 47, 49, 50, 51, 52, 53, 54, 55, 56, 57, 58, 59, 60, 61, 62, 63, 64, 65, 66, 67, 68, 69, 70, 71, 72, 73, 74, 75, 76, 77, 78, 306, 307, 308, 309, 310, 311, 312, 313, 314, 315, 316, 317, 318, 319, 320, 321, 322, 323, 324, 325, 326, 327, 328, 329, 330, 331, 332, 333, 334, 335, 336, 337, 338, 339, 340, 341, 342, 343, 344] (by decide +kernel) (by decide +kernel)
set_option maxRecDepth 20000 in
theorem gL_refusesAny_X6_setCharge : GoodIn wsL_refusesAny (wsV RL 44 RX6 yX6_setCharge wsX6_setCharge) := goodIn_app (goodIn_of _ (by decide +kernel)) ggL_refusesAny_X6_setCharge
set_option maxRecDepth 20000 in
theorem ggL_refusesAny_X6_setting : GoodIn wsL_refusesAny wsX6_setting := goodIn_r _ [133, 6, 123, 134, 135, 4, 136, 306, 307, 308, 309, 310, 311, 312, 313, 314, 315, 316, 317, 318, 319, 320, 321, 322, 323, 324] (by decide +kernel) (by decide +kernel)
set_option maxRecDepth 20000 in
theorem gL_refusesAny_X6_setting : GoodIn wsL_refusesAny (wsV RL 29 RX6 yX6_setting wsX6_setting) := goodIn_app (goodIn_of _ (by decide +kernel)) ggL_refusesAny_X6_setting
set_option maxRecDepth 20000 in
theorem ggL_refusesAny_X6_use : GoodIn wsL_refusesAny wsX6_use := goodIn_r _ [140, 6, 10, 7, 9, 105, 106, 107, 46, 108, 49, 48, 83, 84, 85, 86, 11, 12, 13, 14, 15, 16, 17, 18, 19, 20, 21, 22, 23, 24, 25, 26, 27, 28, 29, 30, 31, 32, 33, 34, 35, 36, 37, 38, 39, 40, 41, 42, 43, 44, 45, 47, 50, 51, 52, 53, 54, 55, 56, 57, 58, 59, 60, 61, 62, 63, 64, 65, 66, 67, 68, 69, 70, 71, 72, 73, 74, 75, 76, 77, 78, 141, 142, 143, 144, 306, 307, 308, 309, 310, 311, 312, 313, 314, 315, 316, 317, 318, 319, 320, 321, 322, 323, 324, 325, 326, 327, 328, 329, 330, 331, 332, 333, 334, 335, 336, 337, 338, 339, 340, 341, 342, 343, 344] (by decide +kernel) (by decide +kernel)
set_option maxRecDepth 20000 in
theorem gL_refusesAny_X6_use : GoodIn wsL_refusesAny (wsV RL 47 RX6 yX6_use wsX6_use) := goodIn_app (goodIn_of _ (by decide +kernel)) ggL_refusesAny_X6_use
set_option maxRecDepth 20000 in
theorem ggL_refusesAny_X6_set : GoodIn wsL_refusesAny wsX6_set := goodIn_r _ [148, 149, 150, 6, 123, 9, 134, 135, 4, 136, 151, 152, 153, 25, 154, 32, 27, 155, 110, 111, 46, 112, 49, 48, 87, 88, 85, 89, 11, 12, 13, 14, 15, 16, 17, 18, 19, 20, 21, 22, 23, 24, 26, 28, 29, 30, 31, 33, 34, 35, 36, 37, 38, 39, 40, 41, 42, 43, 44, 45, 47, 50, 51, 52, 53, 54, 55, 56, 57, 58, 59, 60, 61, 62, 63, 64, 65, 66, 67, 68, 69, 70, 71, 72, 73, 74, 75, 76, 77, 78, 306, 307, 308, 309, 310, 311, 312, 313, 314, 315, 316, 317, 318, 319, 320, 321, 322, 323, 324, 325, 326, 327, 328, 329, 330, 331, 332, 333, 334, 335, 336, 337, 338, 339, 340, 341, 342, 343, 344] (by decide +kernel) (by decide +kernel)
set_option maxRecDepth 20000 in
theorem gL_refusesAny_X6_set : GoodIn wsL_refusesAny (wsV RL 50 RX6 yX6_set wsX6_set) := goodIn_app (goodIn_of _ (by decide +kernel)) ggL_refusesAny_X6_set
set_option maxRecDepth 20000 in
theorem ggL_refusesAny_X6_pass : GoodIn wsL_refusesAny wsX6_pass := goodIn_r _ [159, 6, 94, 160, 9, 10, 11, 12, 13, 14, 15, 16, 17, 18, 19, 20, 21, 22, 23, 24, 25, 26, 27, 28, 29, 30, 31, 32, 33, 34, 35, 36, 37, 38, 39, 40, 41, 42, 43, 44, 45, 46, 47, 48, 49, 50, 51, 52, 53, 54, 55, 56, 57, 58, 59, 60, 61, 62, 63, 64, 65, 66, 67, 68, 69, 70, 71, 72, 73, 74, 75, 76, 77, 78, 161, 162, 163, 164, 165, 166, 167, 168, 169, 114, 115, 116, 117, 4, 118, 170, 171, 172, 173, 174, 175, 176, 177, 178, 179, 180, 181, 182, 183, 184, 185, 186, 187, 188, 189, 190, 191, 192, 193, 194, 195, 196, 197, 198, 199, 200, 201, 202, 203, 204, 155, 110, 111, 112, 87, 88, 85, 89, 205, 206, 207, 208, 209, 210, 211, 84, 86, 212, 213, 214, 215, 216, 217, 218, 219, 220, 221, 222, 223, 224, 225, 226, 227, 228, 229, 230, 231, 232, 233, 234, 235, 236, 83, 237, 106, 107, 108, 306, 307, 308, 309, 310, 311, 312, 313, 314, 315, 316, 317, 318, 319, 320, 321, 322, 323, 324, 333, 334, 325, 326, 327, 328, 329, 330, 331, 332, 335, 336, 337, 338, 339, 340, 341, 342, 343, 344] (by decide +kernel) (by decide +kernel)
set_option maxRecDepth 20000 in
theorem gL_refusesAny_X6_pass : GoodIn wsL_refusesAny (wsV RL 53 RX6 yX6_pass wsX6_pass) := goodIn_app (goodIn_of _ (by decide +kernel)) ggL_refusesAny_X6_pass
set_option maxRecDepth 20000 in
theorem ggL_refusesAny_X6_cell : GoodIn wsL_refusesAny wsX6_cell := goodIn_r _ [241, 6, 7, 124, 123, 125, 242, 243, 244, 245, 246, 126, 127, 128, 46, 129, 48, 247, 205, 4, 206, 306, 307, 308, 309, 310, 311, 312, 313, 314, 315, 316, 317, 318, 319, 320, 321, 322, 323, 324, 325, 326, 327, 328, 329, 330, 331, 332] (by decide +kernel) (by decide +kernel)
set_option maxRecDepth 20000 in
theorem gL_refusesAny_X6_cell : GoodIn wsL_refusesAny (wsV RL 13 RX6 yX6_cell wsX6_cell) := goodIn_app (goodIn_of _ (by decide +kernel)) ggL_refusesAny_X6_cell
set_option maxRecDepth 20000 in
theorem ggL_refusesAny_X6_stage : GoodIn wsL_refusesAny wsX6_stage := goodIn_r _ [251, 6, 95, 252, 253, 254, 255, 256, 190, 191, 60, 192, 62, 257, 194, 195, 25, 196, 33, 27, 197, 198, 199, 200, 63, 65, 66, 306, 307, 308, 309, 310, 311, 312, 313, 314, 315, 316, 317, 318, 319, 320, 321, 322, 323, 324, 335, 336, 337, 338, 339] (by decide +kernel) (by decide +kernel)
set_option maxRecDepth 20000 in
theorem gL_refusesAny_X6_stage : GoodIn wsL_refusesAny (wsV RL 26 RX6 yX6_stage wsX6_stage) := goodIn_app (goodIn_of _ (by decide +kernel)) ggL_refusesAny_X6_stage
set_option maxRecDepth 20000 in
theorem ggL_refusesAny_X6_voltage : GoodIn wsL_refusesAny wsX6_voltage := goodIn_r _ [261, 6, 262, 202, 203, 25, 204, 32, 27, 155, 110, 111, 46, 112, 49, 48, 87, 88, 85, 89, 205, 4, 206, 306, 307, 308, 309, 310, 311, 312, 313, 314, 315, 316, 317, 318, 319, 320, 321, 322, 323, 324, 325, 326, 327, 328, 329, 330, 331, 332] (by decide +kernel) (by decide +kernel)
set_option maxRecDepth 20000 in
theorem gL_refusesAny_X6_voltage : GoodIn wsL_refusesAny (wsV RL 56 RX6 yX6_voltage wsX6_voltage) := goodIn_app (goodIn_of _ (by decide +kernel)) ggL_refusesAny_X6_voltage
set_option maxRecDepth 20000 in
theorem ggL_refusesAny_X6_chargeIn : GoodIn wsL_refusesAny wsX6_chargeIn := goodIn_r _ [266, 6, 7, 267, 124, 126, 127, 128, 46, 129, 48, 268, 23, 24, 25, 26, 27, 28, 29, 30, 31, 32, 33, 34, 35, 36, 37, 38, 39, 40, 41, 42, 43, 44, 45, 47, 49, 50, 51, 52, 53, 54, 55, 56, 57, 58, 59, 60, 61, 62, 63, 64, 65, 66, 67, 68, 69, 70, 71, 72, 73, 74, 75, 76, 77, 78, 161, 162, 163, 164, 165, 166, 167, 168, 169, 114, 115, 116, 117, 4, 118, 170, 171, 172, 173, 174, 175, 176, 177, 178, 179, 180, 181, 182, 183, 184, 185, 186, 187, 188, 189, 190, 191, 192, 193, 194, 195, 196, 197, 198, 199, 200, 201, 202, 203, 204, 155, 110, 111, 112, 87, 88, 85, 89, 205, 206, 207, 208, 209, 210, 211, 84, 86, 212, 213, 214, 215, 216, 217, 218, 219, 220, 221, 222, 223, 224, 225, 226, 227, 228, 229, 230, 231, 232, 233, 234, 235, 236, 83, 237, 106, 107, 108, 306, 307, 308, 309, 310, 311, 312, 313, 314, 315, 316, 317, 318, 319, 320, 321, 322, 323, 324, 325, 326, 327, 328, 329, 330, 331, 332, 335, 336, 337, 338, 339, 340, 341, 342, 343, 344] (by decide +kernel) (by decide +kernel)
set_option maxRecDepth 20000 in
theorem gL_refusesAny_X6_chargeIn : GoodIn wsL_refusesAny (wsV RL 59 RX6 yX6_chargeIn wsX6_chargeIn) := goodIn_app (goodIn_of _ (by decide +kernel)) ggL_refusesAny_X6_chargeIn
set_option maxRecDepth 20000 in
theorem ggL_refusesAny_X6_event : GoodIn wsL_refusesAny wsX6_event := goodIn_r _ [272, 6, 273, 274, 275, 276, 277, 278, 279, 280, 71, 281, 74, 282, 283, 284, 285, 306, 307, 308, 309, 310, 311, 312, 313, 314, 315, 316, 317, 318, 319, 320, 321, 322, 323, 324, 340, 341, 342, 343, 344] (by decide +kernel) (by decide +kernel)
set_option maxRecDepth 20000 in
theorem gL_refusesAny_X6_event : GoodIn wsL_refusesAny (wsV RL 23 RX6 yX6_event wsX6_event) := goodIn_app (goodIn_of _ (by decide +kernel)) ggL_refusesAny_X6_event
set_option maxRecDepth 20000 in
theorem ggL_refusesAny_X6_warmest : GoodIn wsL_refusesAny wsX6_warmest := goodIn_r _ [289, 6, 10, 123, 267, 268, 23, 24, 25, 26, 27, 28, 29, 30, 31, 32, 33, 34, 35, 36, 37, 38, 39, 40, 41, 42, 43, 44, 45, 46, 47, 48, 49, 50, 51, 52, 53, 54, 55, 56, 57, 58, 59, 60, 61, 62, 63, 64, 65, 66, 67, 68, 69, 70, 71, 72, 73, 74, 75, 76, 77, 78, 290, 291, 292, 293, 169, 114, 115, 116, 117, 4, 118, 165, 166, 167, 168, 170, 171, 172, 173, 174, 175, 176, 177, 178, 179, 180, 181, 182, 183, 184, 185, 186, 187, 188, 189, 190, 191, 192, 193, 194, 195, 196, 197, 198, 199, 200, 201, 202, 203, 204, 155, 110, 111, 112, 87, 88, 85, 89, 205, 206, 207, 208, 209, 210, 211, 84, 86, 212, 213, 214, 215, 216, 217, 218, 219, 220, 221, 222, 223, 224, 225, 226, 227, 228, 229, 230, 231, 232, 233, 234, 235, 236, 83, 237, 106, 107, 108, 306, 307, 308, 309, 310, 311, 312, 313, 314, 315, 316, 317, 318, 319, 320, 321, 322, 323, 324, 325, 326, 327, 328, 329, 330, 331, 332, 335, 336, 337, 338, 339, 340, 341, 342, 343, 344] (by decide +kernel) (by decide +kernel)
set_option maxRecDepth 20000 in
theorem gL_refusesAny_X6_warmest : GoodIn wsL_refusesAny (wsV RL 62 RX6 yX6_warmest wsX6_warmest) := goodIn_app (goodIn_of _ (by decide +kernel)) ggL_refusesAny_X6_warmest
set_option maxRecDepth 20000 in
theorem ggL_refusesAny_X6_start : GoodIn wsL_refusesAny wsX6_start := goodIn_r _ [297, 6, 10, 95, 96, 9, 11, 12, 13, 14, 15, 16, 17, 18, 19, 20, 21, 22, 23, 24, 25, 26, 27, 28, 29, 30, 31, 32, 33, 34, 35, 36, 37, 38, 39, 40, 41, 42, 43, 44, 45, 46, 47, 48, 49, 50, 51, 52, 53, 54, 55, 56, 57, 58, 59, 60, 61, 62, 63, 64, 65, 66, 67, 68, 69, 70, 71, 72, 73, 74, 75, 76, 77, 78, 298, 299, 300, 301, 224, 225, 226, 227, 174, 175, 176, 177, 306, 307, 308, 309, 310, 311, 312, 313, 314, 315, 316, 317, 318, 319, 320, 321, 322, 323, 324, 335, 336, 337, 338, 339, 333, 334, 325, 326, 327, 328, 329, 330, 331, 332, 340, 341, 342, 343, 344] (by decide +kernel) (by decide +kernel)
set_option maxRecDepth 20000 in
theorem gL_refusesAny_X6_start : GoodIn wsL_refusesAny (wsV RL 65 RX6 yX6_start wsX6_start) := goodIn_app (goodIn_of _ (by decide +kernel)) ggL_refusesAny_X6_start
set_option maxRecDepth 20000 in
theorem ggL_refusesAny_X6_stop : GoodIn wsL_refusesAny wsX6_stop := goodIn_r _ [305, 6, 10, 9, 11, 12, 13, 14, 15, 16, 17, 18, 19, 20, 21, 22, 23, 24, 25, 26, 27, 28, 29, 30, 31, 32, 33, 34, 35, 36, 37, 38, 39, 40, 41, 42, 43, 44, 45, 46, 47, 48, 49, 50, 51, 52, 53, 54, 55, 56, 57, 58, 59, 60, 61, 62, 63, 64, 65, 66, 67, 68, 69, 70, 71, 72, 73, 74, 75, 76, 77, 78, 306, 307, 308, 309, 310, 311, 312, 313, 314, 315, 316, 317, 318, 319, 320, 321, 322, 323, 324, 333, 334, 325, 326, 327, 328, 329, 330, 331, 332, 335, 336, 337, 338, 339, 340, 341, 342, 343, 344] (by decide +kernel) (by decide +kernel)
set_option maxRecDepth 20000 in
theorem gL_refusesAny_X6_stop : GoodIn wsL_refusesAny (wsV RL 68 RX6 yX6_stop wsX6_stop) := goodIn_app (goodIn_of _ (by decide +kernel)) ggL_refusesAny_X6_stop
theorem dL_refusesAny_0 : decode cL_refusesAny 0 = .ok (.iload_n 1, 1) := by decide +kernel
theorem dL_refusesAny_1 : decode cL_refusesAny 1 = .ok (.ifCond .ne 7, 3) := by decide +kernel
theorem dL_refusesAny_4 : decode cL_refusesAny 4 = .ok (.iconst (-1), 1) := by decide +kernel
theorem dL_refusesAny_5 : decode cL_refusesAny 5 = .ok (.goto 5, 3) := by decide +kernel
theorem dL_refusesAny_8 : decode cL_refusesAny 8 = .ok (.bipush 9, 2) := by decide +kernel
theorem dL_refusesAny_10 : decode cL_refusesAny 10 = .ok (.istore_n 2, 1) := by decide +kernel
theorem dL_refusesAny_11 : decode cL_refusesAny 11 = .ok (.aload_n 0, 1) := by decide +kernel
theorem dL_refusesAny_12 : decode cL_refusesAny 12 = .ok (.iload_n 1, 1) := by decide +kernel
theorem dL_refusesAny_13 : decode cL_refusesAny 13 = .ok (.ifCond .ne 7, 3) := by decide +kernel
theorem dL_refusesAny_16 : decode cL_refusesAny 16 = .ok (.iconst 0, 1) := by decide +kernel
theorem dL_refusesAny_17 : decode cL_refusesAny 17 = .ok (.goto 5, 3) := by decide +kernel
theorem dL_refusesAny_20 : decode cL_refusesAny 20 = .ok (.bipush 7, 2) := by decide +kernel
theorem dL_refusesAny_22 : decode cL_refusesAny 22 = .ok (.invokevirtual 39, 3) := by decide +kernel
theorem dL_refusesAny_25 : decode cL_refusesAny 25 = .ok (.bipush (-2), 2) := by decide +kernel
theorem dL_refusesAny_27 : decode cL_refusesAny 27 = .ok (.if_icmp .ne 104, 3) := by decide +kernel
theorem dL_refusesAny_30 : decode cL_refusesAny 30 = .ok (.aload_n 0, 1) := by decide +kernel
theorem dL_refusesAny_31 : decode cL_refusesAny 31 = .ok (.iload_n 1, 1) := by decide +kernel
theorem dL_refusesAny_32 : decode cL_refusesAny 32 = .ok (.ifCond .ne 7, 3) := by decide +kernel
theorem dL_refusesAny_35 : decode cL_refusesAny 35 = .ok (.iconst (-1), 1) := by decide +kernel
theorem dL_refusesAny_36 : decode cL_refusesAny 36 = .ok (.goto 8, 3) := by decide +kernel
theorem dL_refusesAny_39 : decode cL_refusesAny 39 = .ok (.aload_n 0, 1) := by decide +kernel
theorem dL_refusesAny_40 : decode cL_refusesAny 40 = .ok (.iconst 1, 1) := by decide +kernel
theorem dL_refusesAny_41 : decode cL_refusesAny 41 = .ok (.invokevirtual 19, 3) := by decide +kernel
theorem dL_refusesAny_44 : decode cL_refusesAny 44 = .ok (.iconst (-1), 1) := by decide +kernel
theorem dL_refusesAny_45 : decode cL_refusesAny 45 = .ok (.invokevirtual 44, 3) := by decide +kernel
theorem dL_refusesAny_48 : decode cL_refusesAny 48 = .ok (.iconst (-1), 1) := by decide +kernel
theorem dL_refusesAny_49 : decode cL_refusesAny 49 = .ok (.if_icmp .ne 82, 3) := by decide +kernel
theorem dL_refusesAny_52 : decode cL_refusesAny 52 = .ok (.aload_n 0, 1) := by decide +kernel
theorem dL_refusesAny_53 : decode cL_refusesAny 53 = .ok (.iconst 0, 1) := by decide +kernel
theorem dL_refusesAny_54 : decode cL_refusesAny 54 = .ok (.iload_n 1, 1) := by decide +kernel
theorem dL_refusesAny_55 : decode cL_refusesAny 55 = .ok (.ifCond .ne 7, 3) := by decide +kernel
theorem dL_refusesAny_58 : decode cL_refusesAny 58 = .ok (.iconst (-1), 1) := by decide +kernel
theorem dL_refusesAny_59 : decode cL_refusesAny 59 = .ok (.goto 12, 3) := by decide +kernel
theorem dL_refusesAny_62 : decode cL_refusesAny 62 = .ok (.aload_n 0, 1) := by decide +kernel
theorem dL_refusesAny_63 : decode cL_refusesAny 63 = .ok (.iconst 0, 1) := by decide +kernel
theorem dL_refusesAny_64 : decode cL_refusesAny 64 = .ok (.invokevirtual 29, 3) := by decide +kernel
theorem dL_refusesAny_67 : decode cL_refusesAny 67 = .ok (.sipush 999, 3) := by decide +kernel
theorem dL_refusesAny_70 : decode cL_refusesAny 70 = .ok (.isub, 1) := by decide +kernel
theorem dL_refusesAny_71 : decode cL_refusesAny 71 = .ok (.invokevirtual 44, 3) := by decide +kernel
theorem dL_refusesAny_74 : decode cL_refusesAny 74 = .ok (.bipush (-2), 2) := by decide +kernel
theorem dL_refusesAny_76 : decode cL_refusesAny 76 = .ok (.if_icmp .ne 55, 3) := by decide +kernel
theorem dL_refusesAny_79 : decode cL_refusesAny 79 = .ok (.aload_n 0, 1) := by decide +kernel
theorem dL_refusesAny_80 : decode cL_refusesAny 80 = .ok (.iload_n 1, 1) := by decide +kernel
theorem dL_refusesAny_81 : decode cL_refusesAny 81 = .ok (.ifCond .ne 7, 3) := by decide +kernel
theorem dL_refusesAny_84 : decode cL_refusesAny 84 = .ok (.iconst 0, 1) := by decide +kernel
theorem dL_refusesAny_85 : decode cL_refusesAny 85 = .ok (.goto 6, 3) := by decide +kernel
theorem dL_refusesAny_88 : decode cL_refusesAny 88 = .ok (.sipush 5001, 3) := by decide +kernel
theorem dL_refusesAny_91 : decode cL_refusesAny 91 = .ok (.invokevirtual 47, 3) := by decide +kernel
theorem dL_refusesAny_94 : decode cL_refusesAny 94 = .ok (.bipush (-2), 2) := by decide +kernel
theorem dL_refusesAny_96 : decode cL_refusesAny 96 = .ok (.if_icmp .ne 35, 3) := by decide +kernel
theorem dL_refusesAny_99 : decode cL_refusesAny 99 = .ok (.aload_n 0, 1) := by decide +kernel
theorem dL_refusesAny_100 : decode cL_refusesAny 100 = .ok (.iload_n 2, 1) := by decide +kernel
theorem dL_refusesAny_101 : decode cL_refusesAny 101 = .ok (.sipush 9999, 3) := by decide +kernel
theorem dL_refusesAny_104 : decode cL_refusesAny 104 = .ok (.invokevirtual 50, 3) := by decide +kernel
theorem dL_refusesAny_107 : decode cL_refusesAny 107 = .ok (.iconst (-1), 1) := by decide +kernel
theorem dL_refusesAny_108 : decode cL_refusesAny 108 = .ok (.if_icmp .ne 23, 3) := by decide +kernel
theorem dL_refusesAny_111 : decode cL_refusesAny 111 = .ok (.aload_n 0, 1) := by decide +kernel
theorem dL_refusesAny_112 : decode cL_refusesAny 112 = .ok (.iload_n 1, 1) := by decide +kernel
theorem dL_refusesAny_113 : decode cL_refusesAny 113 = .ok (.ifCond .ne 7, 3) := by decide +kernel
theorem dL_refusesAny_116 : decode cL_refusesAny 116 = .ok (.iconst 0, 1) := by decide +kernel
theorem dL_refusesAny_117 : decode cL_refusesAny 117 = .ok (.goto 6, 3) := by decide +kernel
theorem dL_refusesAny_120 : decode cL_refusesAny 120 = .ok (.sipush 201, 3) := by decide +kernel
theorem dL_refusesAny_123 : decode cL_refusesAny 123 = .ok (.invokevirtual 53, 3) := by decide +kernel
theorem dL_refusesAny_126 : decode cL_refusesAny 126 = .ok (.bipush (-2), 2) := by decide +kernel
theorem dL_refusesAny_128 : decode cL_refusesAny 128 = .ok (.if_icmp .eq 5, 3) := by decide +kernel
theorem dL_refusesAny_131 : decode cL_refusesAny 131 = .ok (.iconst 0, 1) := by decide +kernel
theorem dL_refusesAny_132 : decode cL_refusesAny 132 = .ok (.ireturn, 1) := by decide +kernel
theorem dL_refusesAny_133 : decode cL_refusesAny 133 = .ok (.iconst 0, 1) := by decide +kernel
theorem dL_refusesAny_134 : decode cL_refusesAny 134 = .ok (.istore_n 3, 1) := by decide +kernel
theorem dL_refusesAny_135 : decode cL_refusesAny 135 = .ok (.iload_n 3, 1) := by decide +kernel
theorem dL_refusesAny_136 : decode cL_refusesAny 136 = .ok (.bipush 9, 2) := by decide +kernel
theorem dL_refusesAny_138 : decode cL_refusesAny 138 = .ok (.if_icmp .ge 166, 3) := by decide +kernel
theorem dL_refusesAny_141 : decode cL_refusesAny 141 = .ok (.iload_n 3, 1) := by decide +kernel
theorem dL_refusesAny_142 : decode cL_refusesAny 142 = .ok (.ifCond .ne 8, 3) := by decide +kernel
theorem dL_refusesAny_145 : decode cL_refusesAny 145 = .ok (.bipush 100, 2) := by decide +kernel
theorem dL_refusesAny_147 : decode cL_refusesAny 147 = .ok (.goto 35, 3) := by decide +kernel
theorem dL_refusesAny_150 : decode cL_refusesAny 150 = .ok (.iload_n 3, 1) := by decide +kernel
theorem dL_refusesAny_151 : decode cL_refusesAny 151 = .ok (.iconst 2, 1) := by decide +kernel
theorem dL_refusesAny_152 : decode cL_refusesAny 152 = .ok (.if_icmp .ne 8, 3) := by decide +kernel
theorem dL_refusesAny_155 : decode cL_refusesAny 155 = .ok (.bipush 50, 2) := by decide +kernel
theorem dL_refusesAny_157 : decode cL_refusesAny 157 = .ok (.goto 25, 3) := by decide +kernel
theorem dL_refusesAny_160 : decode cL_refusesAny 160 = .ok (.iload_n 3, 1) := by decide +kernel
theorem dL_refusesAny_161 : decode cL_refusesAny 161 = .ok (.iconst 3, 1) := by decide +kernel
theorem dL_refusesAny_162 : decode cL_refusesAny 162 = .ok (.if_icmp .eq 14, 3) := by decide +kernel
theorem dL_refusesAny_165 : decode cL_refusesAny 165 = .ok (.iload_n 3, 1) := by decide +kernel
theorem dL_refusesAny_166 : decode cL_refusesAny 166 = .ok (.iconst 5, 1) := by decide +kernel
theorem dL_refusesAny_167 : decode cL_refusesAny 167 = .ok (.if_icmp .eq 9, 3) := by decide +kernel
theorem dL_refusesAny_170 : decode cL_refusesAny 170 = .ok (.iload_n 3, 1) := by decide +kernel
theorem dL_refusesAny_171 : decode cL_refusesAny 171 = .ok (.bipush 6, 2) := by decide +kernel
theorem dL_refusesAny_173 : decode cL_refusesAny 173 = .ok (.if_icmp .ne 8, 3) := by decide +kernel
theorem dL_refusesAny_176 : decode cL_refusesAny 176 = .ok (.bipush (-30), 2) := by decide +kernel
theorem dL_refusesAny_178 : decode cL_refusesAny 178 = .ok (.goto 4, 3) := by decide +kernel
theorem dL_refusesAny_181 : decode cL_refusesAny 181 = .ok (.iconst 0, 1) := by decide +kernel
theorem dL_refusesAny_182 : decode cL_refusesAny 182 = .ok (.istore 4, 2) := by decide +kernel
theorem dL_refusesAny_184 : decode cL_refusesAny 184 = .ok (.iload_n 3, 1) := by decide +kernel
theorem dL_refusesAny_185 : decode cL_refusesAny 185 = .ok (.ifCond .ne 9, 3) := by decide +kernel
theorem dL_refusesAny_188 : decode cL_refusesAny 188 = .ok (.sipush 5000, 3) := by decide +kernel
theorem dL_refusesAny_191 : decode cL_refusesAny 191 = .ok (.goto 59, 3) := by decide +kernel
theorem dL_refusesAny_194 : decode cL_refusesAny 194 = .ok (.iload_n 3, 1) := by decide +kernel
theorem dL_refusesAny_195 : decode cL_refusesAny 195 = .ok (.iconst 1, 1) := by decide +kernel
theorem dL_refusesAny_196 : decode cL_refusesAny 196 = .ok (.if_icmp .ne 9, 3) := by decide +kernel
theorem dL_refusesAny_199 : decode cL_refusesAny 199 = .ok (.sipush 200, 3) := by decide +kernel
theorem dL_refusesAny_202 : decode cL_refusesAny 202 = .ok (.goto 48, 3) := by decide +kernel
theorem dL_refusesAny_205 : decode cL_refusesAny 205 = .ok (.iload_n 3, 1) := by decide +kernel
theorem dL_refusesAny_206 : decode cL_refusesAny 206 = .ok (.iconst 2, 1) := by decide +kernel
theorem dL_refusesAny_207 : decode cL_refusesAny 207 = .ok (.if_icmp .ne 8, 3) := by decide +kernel
theorem dL_refusesAny_210 : decode cL_refusesAny 210 = .ok (.bipush 100, 2) := by decide +kernel
theorem dL_refusesAny_212 : decode cL_refusesAny 212 = .ok (.goto 38, 3) := by decide +kernel
theorem dL_refusesAny_215 : decode cL_refusesAny 215 = .ok (.iload_n 3, 1) := by decide +kernel
theorem dL_refusesAny_216 : decode cL_refusesAny 216 = .ok (.iconst 4, 1) := by decide +kernel
theorem dL_refusesAny_217 : decode cL_refusesAny 217 = .ok (.if_icmp .ne 8, 3) := by decide +kernel
theorem dL_refusesAny_220 : decode cL_refusesAny 220 = .ok (.bipush 10, 2) := by decide +kernel
theorem dL_refusesAny_222 : decode cL_refusesAny 222 = .ok (.goto 28, 3) := by decide +kernel
theorem dL_refusesAny_225 : decode cL_refusesAny 225 = .ok (.iload_n 3, 1) := by decide +kernel
theorem dL_refusesAny_226 : decode cL_refusesAny 226 = .ok (.bipush 7, 2) := by decide +kernel
theorem dL_refusesAny_228 : decode cL_refusesAny 228 = .ok (.if_icmp .ne 9, 3) := by decide +kernel
theorem dL_refusesAny_231 : decode cL_refusesAny 231 = .ok (.sipush 500, 3) := by decide +kernel
theorem dL_refusesAny_234 : decode cL_refusesAny 234 = .ok (.goto 16, 3) := by decide +kernel
theorem dL_refusesAny_237 : decode cL_refusesAny 237 = .ok (.iload_n 3, 1) := by decide +kernel
theorem dL_refusesAny_238 : decode cL_refusesAny 238 = .ok (.bipush 8, 2) := by decide +kernel
theorem dL_refusesAny_240 : decode cL_refusesAny 240 = .ok (.if_icmp .ne 8, 3) := by decide +kernel
theorem dL_refusesAny_243 : decode cL_refusesAny 243 = .ok (.bipush 50, 2) := by decide +kernel
theorem dL_refusesAny_245 : decode cL_refusesAny 245 = .ok (.goto 5, 3) := by decide +kernel
theorem dL_refusesAny_248 : decode cL_refusesAny 248 = .ok (.bipush 80, 2) := by decide +kernel
theorem dL_refusesAny_250 : decode cL_refusesAny 250 = .ok (.istore 5, 2) := by decide +kernel
theorem dL_refusesAny_252 : decode cL_refusesAny 252 = .ok (.aload_n 0, 1) := by decide +kernel
theorem dL_refusesAny_253 : decode cL_refusesAny 253 = .ok (.iload_n 3, 1) := by decide +kernel
theorem dL_refusesAny_254 : decode cL_refusesAny 254 = .ok (.iload_n 1, 1) := by decide +kernel
theorem dL_refusesAny_255 : decode cL_refusesAny 255 = .ok (.ifCond .ne 10, 3) := by decide +kernel
theorem dL_refusesAny_258 : decode cL_refusesAny 258 = .ok (.iload 4, 2) := by decide +kernel
theorem dL_refusesAny_260 : decode cL_refusesAny 260 = .ok (.iconst 1, 1) := by decide +kernel
theorem dL_refusesAny_261 : decode cL_refusesAny 261 = .ok (.isub, 1) := by decide +kernel
theorem dL_refusesAny_262 : decode cL_refusesAny 262 = .ok (.goto 7, 3) := by decide +kernel
theorem dL_refusesAny_265 : decode cL_refusesAny 265 = .ok (.iload 5, 2) := by decide +kernel
theorem dL_refusesAny_267 : decode cL_refusesAny 267 = .ok (.iconst 1, 1) := by decide +kernel
theorem dL_refusesAny_268 : decode cL_refusesAny 268 = .ok (.iadd, 1) := by decide +kernel
theorem dL_refusesAny_269 : decode cL_refusesAny 269 = .ok (.invokevirtual 50, 3) := by decide +kernel
theorem dL_refusesAny_272 : decode cL_refusesAny 272 = .ok (.bipush (-2), 2) := by decide +kernel
theorem dL_refusesAny_274 : decode cL_refusesAny 274 = .ok (.if_icmp .ne 22, 3) := by decide +kernel
theorem dL_refusesAny_277 : decode cL_refusesAny 277 = .ok (.aload_n 0, 1) := by decide +kernel
theorem dL_refusesAny_278 : decode cL_refusesAny 278 = .ok (.iload_n 3, 1) := by decide +kernel
theorem dL_refusesAny_279 : decode cL_refusesAny 279 = .ok (.aload_n 0, 1) := by decide +kernel
theorem dL_refusesAny_280 : decode cL_refusesAny 280 = .ok (.iload_n 3, 1) := by decide +kernel
theorem dL_refusesAny_281 : decode cL_refusesAny 281 = .ok (.invokevirtual 29, 3) := by decide +kernel
