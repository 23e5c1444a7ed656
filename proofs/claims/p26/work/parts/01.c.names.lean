theorem dX4_copyFrom_34 : decode cX4_copyFrom 34 = .ok (.invokevirtual 75, 3) := by decide +kernel
theorem dX4_copyFrom_37 : decode cX4_copyFrom 37 = .ok (.aload_n 0, 1) := by decide +kernel
theorem dX4_copyFrom_38 : decode cX4_copyFrom 38 = .ok (.getfield 32, 3) := by decide +kernel
theorem dX4_copyFrom_41 : decode cX4_copyFrom 41 = .ok (.aload_n 1, 1) := by decide +kernel
theorem dX4_copyFrom_42 : decode cX4_copyFrom 42 = .ok (.getfield 32, 3) := by decide +kernel
theorem dX4_copyFrom_45 : decode cX4_copyFrom 45 = .ok (.invokevirtual 78, 3) := by decide +kernel
theorem dX4_copyFrom_48 : decode cX4_copyFrom 48 = .ok (.aload_n 0, 1) := by decide +kernel
theorem dX4_copyFrom_49 : decode cX4_copyFrom 49 = .ok (.aload_n 1, 1) := by decide +kernel
theorem dX4_copyFrom_50 : decode cX4_copyFrom 50 = .ok (.getfield 36, 3) := by decide +kernel
theorem dX4_copyFrom_53 : decode cX4_copyFrom 53 = .ok (.putfield 36, 3) := by decide +kernel
theorem dX4_copyFrom_56 : decode cX4_copyFrom 56 = .ok (.aload_n 0, 1) := by decide +kernel
theorem dX4_copyFrom_57 : decode cX4_copyFrom 57 = .ok (.aload_n 1, 1) := by decide +kernel
theorem dX4_copyFrom_58 : decode cX4_copyFrom 58 = .ok (.getfield 40, 3) := by decide +kernel
theorem dX4_copyFrom_61 : decode cX4_copyFrom 61 = .ok (.putfield 40, 3) := by decide +kernel
theorem dX4_copyFrom_64 : decode cX4_copyFrom 64 = .ok (.aload_n 0, 1) := by decide +kernel
theorem dX4_copyFrom_65 : decode cX4_copyFrom 65 = .ok (.aload_n 1, 1) := by decide +kernel
theorem dX4_copyFrom_66 : decode cX4_copyFrom 66 = .ok (.getfield 43, 3) := by decide +kernel
theorem dX4_copyFrom_69 : decode cX4_copyFrom 69 = .ok (.putfield 43, 3) := by decide +kernel
theorem dX4_copyFrom_72 : decode cX4_copyFrom 72 = .ok (.aload_n 0, 1) := by decide +kernel
theorem dX4_copyFrom_73 : decode cX4_copyFrom 73 = .ok (.aload_n 1, 1) := by decide +kernel
theorem dX4_copyFrom_74 : decode cX4_copyFrom 74 = .ok (.getfield 46, 3) := by decide +kernel
theorem dX4_copyFrom_77 : decode cX4_copyFrom 77 = .ok (.putfield 46, 3) := by decide +kernel
theorem dX4_copyFrom_80 : decode cX4_copyFrom 80 = .ok (.aload_n 0, 1) := by decide +kernel
theorem dX4_copyFrom_81 : decode cX4_copyFrom 81 = .ok (.aload_n 1, 1) := by decide +kernel
theorem dX4_copyFrom_82 : decode cX4_copyFrom 82 = .ok (.getfield 49, 3) := by decide +kernel
theorem dX4_copyFrom_85 : decode cX4_copyFrom 85 = .ok (.putfield 49, 3) := by decide +kernel
theorem dX4_copyFrom_88 : decode cX4_copyFrom 88 = .ok (.aload_n 0, 1) := by decide +kernel
theorem dX4_copyFrom_89 : decode cX4_copyFrom 89 = .ok (.aload_n 1, 1) := by decide +kernel
theorem dX4_copyFrom_90 : decode cX4_copyFrom 90 = .ok (.getfield 52, 3) := by decide +kernel
theorem dX4_copyFrom_93 : decode cX4_copyFrom 93 = .ok (.putfield 52, 3) := by decide +kernel
theorem dX4_copyFrom_96 : decode cX4_copyFrom 96 = .ok (.aload_n 0, 1) := by decide +kernel
theorem dX4_copyFrom_97 : decode cX4_copyFrom 97 = .ok (.aload_n 1, 1) := by decide +kernel
theorem dX4_copyFrom_98 : decode cX4_copyFrom 98 = .ok (.getfield 56, 3) := by decide +kernel
theorem dX4_copyFrom_101 : decode cX4_copyFrom 101 = .ok (.putfield 56, 3) := by decide +kernel
theorem dX4_copyFrom_104 : decode cX4_copyFrom 104 = .ok (.aload_n 0, 1) := by decide +kernel
theorem dX4_copyFrom_105 : decode cX4_copyFrom 105 = .ok (.aload_n 1, 1) := by decide +kernel
theorem dX4_copyFrom_106 : decode cX4_copyFrom 106 = .ok (.getfield 59, 3) := by decide +kernel
theorem dX4_copyFrom_109 : decode cX4_copyFrom 109 = .ok (.putfield 59, 3) := by decide +kernel
theorem dX4_copyFrom_112 : decode cX4_copyFrom 112 = .ok (.return_, 1) := by decide +kernel
set_option maxRecDepth 20000 in
theorem ggX4_allows_X0_greatestCharge : GoodIn wsX4_allows wsX0_greatestCharge := goodIn_r _ [7, 8, 9, 10, 11, 12, 13, 26, 27, 28, 29, 30, 31, 32, 33] (by decide +kernel) (by decide +kernel)
set_option maxRecDepth 20000 in
theorem gX4_allows_X0_greatestCharge : GoodIn wsX4_allows (wsV RX4 81 RX0 yX0_greatestCharge wsX0_greatestCharge) := goodIn_app (goodIn_of _ (by decide +kernel)) ggX4_allows_X0_greatestCharge
theorem dX4_allows_0 : decode cX4_allows 0 = .ok (.iload_n 1, 1) := by decide +kernel
theorem dX4_allows_1 : decode cX4_allows 1 = .ok (.lookupswitch 85 #[(0, 35), (5, 52), (6, 69)], 35) := by decide +kernel
theorem dX4_allows_36 : decode cX4_allows 36 = .ok (.iload_n 2, 1) := by decide +kernel
theorem dX4_allows_37 : decode cX4_allows 37 = .ok (.aload_n 0, 1) := by decide +kernel
theorem dX4_allows_38 : decode cX4_allows 38 = .ok (.getfield 18, 3) := by decide +kernel
theorem dX4_allows_41 : decode cX4_allows 41 = .ok (.invokevirtual 81, 3) := by decide +kernel
theorem dX4_allows_44 : decode cX4_allows 44 = .ok (.if_icmp .lt 7, 3) := by decide +kernel
theorem dX4_allows_47 : decode cX4_allows 47 = .ok (.iconst 1, 1) := by decide +kernel
theorem dX4_allows_48 : decode cX4_allows 48 = .ok (.goto 4, 3) := by decide +kernel
theorem dX4_allows_51 : decode cX4_allows 51 = .ok (.iconst 0, 1) := by decide +kernel
theorem dX4_allows_52 : decode cX4_allows 52 = .ok (.ireturn, 1) := by decide +kernel
theorem dX4_allows_53 : decode cX4_allows 53 = .ok (.iload_n 2, 1) := by decide +kernel
theorem dX4_allows_54 : decode cX4_allows 54 = .ok (.aload_n 0, 1) := by decide +kernel
theorem dX4_allows_55 : decode cX4_allows 55 = .ok (.getfield 9, 3) := by decide +kernel
theorem dX4_allows_58 : decode cX4_allows 58 = .ok (.bipush 6, 2) := by decide +kernel
theorem dX4_allows_60 : decode cX4_allows 60 = .ok (.iaload, 1) := by decide +kernel
theorem dX4_allows_61 : decode cX4_allows 61 = .ok (.if_icmp .gt 7, 3) := by decide +kernel
theorem dX4_allows_64 : decode cX4_allows 64 = .ok (.iconst 1, 1) := by decide +kernel
theorem dX4_allows_65 : decode cX4_allows 65 = .ok (.goto 4, 3) := by decide +kernel
theorem dX4_allows_68 : decode cX4_allows 68 = .ok (.iconst 0, 1) := by decide +kernel
theorem dX4_allows_69 : decode cX4_allows 69 = .ok (.ireturn, 1) := by decide +kernel
theorem dX4_allows_70 : decode cX4_allows 70 = .ok (.iload_n 2, 1) := by decide +kernel
theorem dX4_allows_71 : decode cX4_allows 71 = .ok (.aload_n 0, 1) := by decide +kernel
theorem dX4_allows_72 : decode cX4_allows 72 = .ok (.getfield 9, 3) := by decide +kernel
theorem dX4_allows_75 : decode cX4_allows 75 = .ok (.iconst 5, 1) := by decide +kernel
theorem dX4_allows_76 : decode cX4_allows 76 = .ok (.iaload, 1) := by decide +kernel
theorem dX4_allows_77 : decode cX4_allows 77 = .ok (.if_icmp .lt 7, 3) := by decide +kernel
theorem dX4_allows_80 : decode cX4_allows 80 = .ok (.iconst 1, 1) := by decide +kernel
theorem dX4_allows_81 : decode cX4_allows 81 = .ok (.goto 4, 3) := by decide +kernel
theorem dX4_allows_84 : decode cX4_allows 84 = .ok (.iconst 0, 1) := by decide +kernel
theorem dX4_allows_85 : decode cX4_allows 85 = .ok (.ireturn, 1) := by decide +kernel
theorem dX4_allows_86 : decode cX4_allows 86 = .ok (.iconst 1, 1) := by decide +kernel
theorem dX4_allows_87 : decode cX4_allows 87 = .ok (.ireturn, 1) := by decide +kernel
set_option maxRecDepth 20000 in
theorem ggX4_isPaused_X6_isIn : GoodIn wsX4_isPaused wsX6_isIn := goodIn_r _ [5] (by decide +kernel) (by decide +kernel)
set_option maxRecDepth 20000 in
theorem gX4_isPaused_X6_isIn_n85 : GoodIn wsX4_isPaused (wsX6_isIn) := ggX4_isPaused_X6_isIn
theorem dX4_isPaused_0 : decode cX4_isPaused 0 = .ok (.aload_n 0, 1) := by decide +kernel
theorem dX4_isPaused_1 : decode cX4_isPaused 1 = .ok (.getfield 36, 3) := by decide +kernel
theorem dX4_isPaused_4 : decode cX4_isPaused 4 = .ok (.iconst 1, 1) := by decide +kernel
theorem dX4_isPaused_5 : decode cX4_isPaused 5 = .ok (.if_icmp .ne 32, 3) := by decide +kernel
theorem dX4_isPaused_8 : decode cX4_isPaused 8 = .ok (.aload_n 0, 1) := by decide +kernel
theorem dX4_isPaused_9 : decode cX4_isPaused 9 = .ok (.getfield 9, 3) := by decide +kernel
theorem dX4_isPaused_12 : decode cX4_isPaused 12 = .ok (.iconst 3, 1) := by decide +kernel
theorem dX4_isPaused_13 : decode cX4_isPaused 13 = .ok (.iaload, 1) := by decide +kernel
theorem dX4_isPaused_14 : decode cX4_isPaused 14 = .ok (.aload_n 0, 1) := by decide +kernel
theorem dX4_isPaused_15 : decode cX4_isPaused 15 = .ok (.getfield 9, 3) := by decide +kernel
theorem dX4_isPaused_18 : decode cX4_isPaused 18 = .ok (.iconst 5, 1) := by decide +kernel
theorem dX4_isPaused_19 : decode cX4_isPaused 19 = .ok (.iaload, 1) := by decide +kernel
theorem dX4_isPaused_20 : decode cX4_isPaused 20 = .ok (.aload_n 0, 1) := by decide +kernel
theorem dX4_isPaused_21 : decode cX4_isPaused 21 = .ok (.getfield 9, 3) := by decide +kernel
theorem dX4_isPaused_24 : decode cX4_isPaused 24 = .ok (.bipush 6, 2) := by decide +kernel
theorem dX4_isPaused_26 : decode cX4_isPaused 26 = .ok (.iaload, 1) := by decide +kernel
theorem dX4_isPaused_27 : decode cX4_isPaused 27 = .ok (.invokestatic 85, 3) := by decide +kernel
theorem dX4_isPaused_30 : decode cX4_isPaused 30 = .ok (.ifCond .ne 7, 3) := by decide +kernel
theorem dX4_isPaused_33 : decode cX4_isPaused 33 = .ok (.iconst 1, 1) := by decide +kernel
theorem dX4_isPaused_34 : decode cX4_isPaused 34 = .ok (.goto 4, 3) := by decide +kernel
theorem dX4_isPaused_37 : decode cX4_isPaused 37 = .ok (.iconst 0, 1) := by decide +kernel
theorem dX4_isPaused_38 : decode cX4_isPaused 38 = .ok (.ireturn, 1) := by decide +kernel
set_option maxRecDepth 20000 in
theorem ggX4_limitOfNow_X3_limitOf : GoodIn wsX4_limitOfNow wsX3_limitOf := goodIn_r _ [7, 8, 9, 10, 23, 24, 25, 26, 27] (by decide +kernel) (by decide +kernel)
set_option maxRecDepth 20000 in
theorem gX4_limitOfNow_X3_limitOf : GoodIn wsX4_limitOfNow (wsV RX4 89 RX3 yX3_limitOf wsX3_limitOf) := goodIn_app (goodIn_of _ (by decide +kernel)) ggX4_limitOfNow_X3_limitOf
theorem dX4_limitOfNow_0 : decode cX4_limitOfNow 0 = .ok (.aload_n 0, 1) := by decide +kernel
theorem dX4_limitOfNow_1 : decode cX4_limitOfNow 1 = .ok (.getfield 25, 3) := by decide +kernel
theorem dX4_limitOfNow_4 : decode cX4_limitOfNow 4 = .ok (.iload_n 1, 1) := by decide +kernel
theorem dX4_limitOfNow_5 : decode cX4_limitOfNow 5 = .ok (.invokevirtual 89, 3) := by decide +kernel
theorem dX4_limitOfNow_8 : decode cX4_limitOfNow 8 = .ok (.aload_n 0, 1) := by decide +kernel
theorem dX4_limitOfNow_9 : decode cX4_limitOfNow 9 = .ok (.getfield 9, 3) := by decide +kernel
theorem dX4_limitOfNow_12 : decode cX4_limitOfNow 12 = .ok (.iconst 4, 1) := by decide +kernel
theorem dX4_limitOfNow_13 : decode cX4_limitOfNow 13 = .ok (.iaload, 1) := by decide +kernel
theorem dX4_limitOfNow_14 : decode cX4_limitOfNow 14 = .ok (.aload_n 0, 1) := by decide +kernel
theorem dX4_limitOfNow_15 : decode cX4_limitOfNow 15 = .ok (.getfield 9, 3) := by decide +kernel
theorem dX4_limitOfNow_18 : decode cX4_limitOfNow 18 = .ok (.iconst 3, 1) := by decide +kernel
theorem dX4_limitOfNow_19 : decode cX4_limitOfNow 19 = .ok (.iaload, 1) := by decide +kernel
theorem dX4_limitOfNow_20 : decode cX4_limitOfNow 20 = .ok (.bipush 25, 2) := by decide +kernel
theorem dX4_limitOfNow_22 : decode cX4_limitOfNow 22 = .ok (.isub, 1) := by decide +kernel
theorem dX4_limitOfNow_23 : decode cX4_limitOfNow 23 = .ok (.imul, 1) := by decide +kernel
theorem dX4_limitOfNow_24 : decode cX4_limitOfNow 24 = .ok (.isub, 1) := by decide +kernel
theorem dX4_limitOfNow_25 : decode cX4_limitOfNow 25 = .ok (.ireturn, 1) := by decide +kernel
set_option maxRecDepth 20000 in
theorem ggX4_greatestVoltage_X0_greatestCharge : GoodIn wsX4_greatestVoltage wsX0_greatestCharge := goodIn_r _ [7, 8, 9, 10, 11, 12, 13, 29, 30, 31, 32, 33, 34, 35, 36] (by decide +kernel) (by decide +kernel)
set_option maxRecDepth 20000 in
theorem gX4_greatestVoltage_X0_greatestCharge : GoodIn wsX4_greatestVoltage (wsV RX4 81 RX0 yX0_greatestCharge wsX0_greatestCharge) := goodIn_app (goodIn_of _ (by decide +kernel)) ggX4_greatestVoltage_X0_greatestCharge
set_option maxRecDepth 20000 in
theorem ggX4_greatestVoltage_X6_baseVoltage : GoodIn wsX4_greatestVoltage wsX6_baseVoltage := goodIn_r _ [16] (by decide +kernel) (by decide +kernel)
set_option maxRecDepth 20000 in
theorem gX4_greatestVoltage_X6_baseVoltage_n93 : GoodIn wsX4_greatestVoltage (wsX6_baseVoltage) := ggX4_greatestVoltage_X6_baseVoltage
theorem dX4_greatestVoltage_0 : decode cX4_greatestVoltage 0 = .ok (.aload_n 0, 1) := by decide +kernel
theorem dX4_greatestVoltage_1 : decode cX4_greatestVoltage 1 = .ok (.getfield 18, 3) := by decide +kernel
theorem dX4_greatestVoltage_4 : decode cX4_greatestVoltage 4 = .ok (.invokevirtual 81, 3) := by decide +kernel
theorem dX4_greatestVoltage_7 : decode cX4_greatestVoltage 7 = .ok (.aload_n 0, 1) := by decide +kernel
theorem dX4_greatestVoltage_8 : decode cX4_greatestVoltage 8 = .ok (.getfield 9, 3) := by decide +kernel
theorem dX4_greatestVoltage_11 : decode cX4_greatestVoltage 11 = .ok (.iconst 0, 1) := by decide +kernel
theorem dX4_greatestVoltage_12 : decode cX4_greatestVoltage 12 = .ok (.iaload, 1) := by decide +kernel
theorem dX4_greatestVoltage_13 : decode cX4_greatestVoltage 13 = .ok (.invokestatic 93, 3) := by decide +kernel
theorem dX4_greatestVoltage_16 : decode cX4_greatestVoltage 16 = .ok (.iload_n 1, 1) := by decide +kernel
theorem dX4_greatestVoltage_17 : decode cX4_greatestVoltage 17 = .ok (.aload_n 0, 1) := by decide +kernel
theorem dX4_greatestVoltage_18 : decode cX4_greatestVoltage 18 = .ok (.getfield 9, 3) := by decide +kernel
theorem dX4_greatestVoltage_21 : decode cX4_greatestVoltage 21 = .ok (.iconst 1, 1) := by decide +kernel
theorem dX4_greatestVoltage_22 : decode cX4_greatestVoltage 22 = .ok (.iaload, 1) := by decide +kernel
theorem dX4_greatestVoltage_23 : decode cX4_greatestVoltage 23 = .ok (.imul, 1) := by decide +kernel
theorem dX4_greatestVoltage_24 : decode cX4_greatestVoltage 24 = .ok (.sipush 1000, 3) := by decide +kernel
theorem dX4_greatestVoltage_27 : decode cX4_greatestVoltage 27 = .ok (.idiv, 1) := by decide +kernel
theorem dX4_greatestVoltage_28 : decode cX4_greatestVoltage 28 = .ok (.iadd, 1) := by decide +kernel
theorem dX4_greatestVoltage_29 : decode cX4_greatestVoltage 29 = .ok (.ireturn, 1) := by decide +kernel
set_option maxRecDepth 20000 in
theorem ggX4_beginCharging_X4_begin : GoodIn wsX4_beginCharging wsX4_begin := goodIn_r _ [7, 8, 9, 10, 11, 12, 13, 14, 15, 16, 17, 18, 19, 20, 21, 22, 23, 24, 25, 26, 27, 28, 29, 30, 31, 32, 33, 34, 35, 36, 37, 38] (by decide +kernel) (by decide +kernel)
set_option maxRecDepth 20000 in
theorem gX4_beginCharging_X4_begin : GoodIn wsX4_beginCharging (wsV RX4 97 RX4 yX4_begin wsX4_begin) := goodIn_app (goodIn_of _ (by decide +kernel)) ggX4_beginCharging_X4_begin
theorem dX4_beginCharging_0 : decode cX4_beginCharging 0 = .ok (.aload_n 0, 1) := by decide +kernel
theorem dX4_beginCharging_1 : decode cX4_beginCharging 1 = .ok (.iconst 1, 1) := by decide +kernel
theorem dX4_beginCharging_2 : decode cX4_beginCharging 2 = .ok (.putfield 36, 3) := by decide +kernel
theorem dX4_beginCharging_5 : decode cX4_beginCharging 5 = .ok (.aload_n 0, 1) := by decide +kernel
theorem dX4_beginCharging_6 : decode cX4_beginCharging 6 = .ok (.iconst 0, 1) := by decide +kernel
theorem dX4_beginCharging_7 : decode cX4_beginCharging 7 = .ok (.putfield 52, 3) := by decide +kernel
theorem dX4_beginCharging_10 : decode cX4_beginCharging 10 = .ok (.aload_n 0, 1) := by decide +kernel
theorem dX4_beginCharging_11 : decode cX4_beginCharging 11 = .ok (.iconst 0, 1) := by decide +kernel
theorem dX4_beginCharging_12 : decode cX4_beginCharging 12 = .ok (.invokevirtual 97, 3) := by decide +kernel
theorem dX4_beginCharging_15 : decode cX4_beginCharging 15 = .ok (.return_, 1) := by decide +kernel
set_option maxRecDepth 20000 in
theorem ggX4_begin_X2_add : GoodIn wsX4_begin wsX2_add := goodIn_r _ [9, 10, 11, 12, 13, 14, 27, 28, 29, 30, 31] (by decide +kernel) (by decide +kernel)
set_option maxRecDepth 20000 in
theorem gX4_begin_X2_add : GoodIn wsX4_begin (wsV RX4 101 RX2 yX2_add wsX2_add) := goodIn_app (goodIn_of _ (by decide +kernel)) ggX4_begin_X2_add
theorem dX4_begin_0 : decode cX4_begin 0 = .ok (.aload_n 0, 1) := by decide +kernel
theorem dX4_begin_1 : decode cX4_begin 1 = .ok (.iload_n 1, 1) := by decide +kernel
theorem dX4_begin_2 : decode cX4_begin 2 = .ok (.putfield 40, 3) := by decide +kernel
theorem dX4_begin_5 : decode cX4_begin 5 = .ok (.aload_n 0, 1) := by decide +kernel
theorem dX4_begin_6 : decode cX4_begin 6 = .ok (.iconst 0, 1) := by decide +kernel
theorem dX4_begin_7 : decode cX4_begin 7 = .ok (.putfield 43, 3) := by decide +kernel
theorem dX4_begin_10 : decode cX4_begin 10 = .ok (.aload_n 0, 1) := by decide +kernel
theorem dX4_begin_11 : decode cX4_begin 11 = .ok (.getfield 32, 3) := by decide +kernel
theorem dX4_begin_14 : decode cX4_begin 14 = .ok (.iconst 0, 1) := by decide +kernel
theorem dX4_begin_15 : decode cX4_begin 15 = .ok (.aload_n 0, 1) := by decide +kernel
theorem dX4_begin_16 : decode cX4_begin 16 = .ok (.getfield 46, 3) := by decide +kernel
theorem dX4_begin_19 : decode cX4_begin 19 = .ok (.aload_n 0, 1) := by decide +kernel
theorem dX4_begin_20 : decode cX4_begin 20 = .ok (.getfield 40, 3) := by decide +kernel
theorem dX4_begin_23 : decode cX4_begin 23 = .ok (.invokevirtual 101, 3) := by decide +kernel
theorem dX4_begin_26 : decode cX4_begin 26 = .ok (.return_, 1) := by decide +kernel
set_option maxRecDepth 20000 in
theorem ggX4_passTicks_X4_passOneTick : GoodIn wsX4_passTicks wsX4_passOneTick := goodIn_r _ [5, 6, 7, 8, 9, 10, 11, 12, 13, 4, 14, 15, 16, 17, 18, 19, 20, 21, 22, 23, 24, 25, 26, 27, 28, 29, 30, 31, 32, 33, 34, 35, 36, 37, 38, 39, 40, 41, 42, 43, 44, 45, 46, 47, 48, 49, 50, 51, 52, 53, 54, 55, 56, 57, 58, 59, 60, 61, 62, 63, 64, 65, 66, 67, 68, 69, 70, 71, 72, 73, 74, 75, 76, 77, 78, 79, 80, 81, 82, 83, 84, 85, 86, 87, 88, 89, 90, 91, 92, 93, 94, 95, 96, 97, 98, 99, 100, 101, 102, 103, 104, 105, 106, 107, 108, 109, 110, 111, 112, 113, 114, 115, 116, 117, 118, 119, 120, 121, 122, 123, 124, 125, 126, 127, 128, 129, 130, 131, 132, 133, 134, 135, 136, 137, 138, 139, 140, 141, 142, 143, 144, 145, 146, 147, 148, 149, 150, 151, 152, 153, 154, 155] (by decide +kernel) (by decide +kernel)
set_option maxRecDepth 20000 in
theorem gX4_passTicks_X4_passOneTick : GoodIn wsX4_passTicks (wsV RX4 105 RX4 yX4_passOneTick wsX4_passOneTick) := goodIn_app (goodIn_of _ (by decide +kernel)) ggX4_passTicks_X4_passOneTick
theorem dX4_passTicks_0 : decode cX4_passTicks 0 = .ok (.iconst 0, 1) := by decide +kernel
theorem dX4_passTicks_1 : decode cX4_passTicks 1 = .ok (.istore_n 2, 1) := by decide +kernel
theorem dX4_passTicks_2 : decode cX4_passTicks 2 = .ok (.iload_n 2, 1) := by decide +kernel
theorem dX4_passTicks_3 : decode cX4_passTicks 3 = .ok (.iload_n 1, 1) := by decide +kernel
theorem dX4_passTicks_4 : decode cX4_passTicks 4 = .ok (.if_icmp .ge 13, 3) := by decide +kernel
theorem dX4_passTicks_7 : decode cX4_passTicks 7 = .ok (.aload_n 0, 1) := by decide +kernel
theorem dX4_passTicks_8 : decode cX4_passTicks 8 = .ok (.invokevirtual 105, 3) := by decide +kernel
theorem dX4_passTicks_11 : decode cX4_passTicks 11 = .ok (.iinc 2 1, 3) := by decide +kernel
theorem dX4_passTicks_14 : decode cX4_passTicks 14 = .ok (.goto (-12), 3) := by decide +kernel
theorem dX4_passTicks_17 : decode cX4_passTicks 17 = .ok (.return_, 1) := by decide +kernel
set_option maxRecDepth 20000 in
theorem ggX4_runUntilDone_X4_isPaused : GoodIn wsX4_runUntilDone wsX4_isPaused := goodIn_r _ [6, 1, 7, 8, 9, 10, 126, 127, 128, 129, 130, 131, 132, 133, 134, 135, 136, 137] (by decide +kernel) (by decide +kernel)
set_option maxRecDepth 20000 in
theorem gX4_runUntilDone_X4_isPaused : GoodIn wsX4_runUntilDone (wsV RX4 108 RX4 yX4_isPaused wsX4_isPaused) := goodIn_app (goodIn_of _ (by decide +kernel)) ggX4_runUntilDone_X4_isPaused
set_option maxRecDepth 20000 in
theorem ggX4_runUntilDone_X4_passOneTick : GoodIn wsX4_runUntilDone wsX4_passOneTick := goodIn_r _ [14, 1, 15, 7, 16, 17, 2, 3, 4, 5, 6, 8, 9, 10, 18, 19, 20, 21, 22, 23, 24, 25, 26, 27, 28, 29, 30, 31, 32, 33, 34, 35, 36, 37, 38, 39, 40, 41, 42, 43, 44, 45, 46, 47, 48, 49, 50, 51, 52, 53, 54, 55, 56, 57, 58, 59, 60, 61, 62, 63, 64, 65, 66, 67, 68, 69, 70, 71, 72, 73, 74, 75, 76, 77, 78, 79, 80, 81, 82, 83, 84, 85, 86, 87, 88, 89, 90, 91, 92, 93, 94, 95, 96, 97, 98, 99, 100, 101, 102, 103, 104, 105, 106, 107, 108, 109, 110, 111, 112, 113, 114, 115, 116, 117, 118, 119, 120, 121, 122, 123, 124, 125, 126, 127, 128, 129, 130, 131, 132, 133, 134, 135, 136, 137, 138, 139, 140, 141, 142, 143, 144, 145, 146, 147, 148, 149, 150, 151, 152, 153, 154, 155] (by decide +kernel) (by decide +kernel)
set_option maxRecDepth 20000 in
theorem gX4_runUntilDone_X4_passOneTick : GoodIn wsX4_runUntilDone (wsV RX4 105 RX4 yX4_passOneTick wsX4_passOneTick) := goodIn_app (goodIn_of _ (by decide +kernel)) ggX4_runUntilDone_X4_passOneTick
theorem dX4_runUntilDone_0 : decode cX4_runUntilDone 0 = .ok (.iconst 1, 1) := by decide +kernel
theorem dX4_runUntilDone_1 : decode cX4_runUntilDone 1 = .ok (.istore_n 2, 1) := by decide +kernel
theorem dX4_runUntilDone_2 : decode cX4_runUntilDone 2 = .ok (.iload_n 2, 1) := by decide +kernel
theorem dX4_runUntilDone_3 : decode cX4_runUntilDone 3 = .ok (.iload_n 1, 1) := by decide +kernel
theorem dX4_runUntilDone_4 : decode cX4_runUntilDone 4 = .ok (.if_icmp .gt 38, 3) := by decide +kernel
theorem dX4_runUntilDone_7 : decode cX4_runUntilDone 7 = .ok (.aload_n 0, 1) := by decide +kernel
theorem dX4_runUntilDone_8 : decode cX4_runUntilDone 8 = .ok (.getfield 36, 3) := by decide +kernel
theorem dX4_runUntilDone_11 : decode cX4_runUntilDone 11 = .ok (.iconst 1, 1) := by decide +kernel
theorem dX4_runUntilDone_12 : decode cX4_runUntilDone 12 = .ok (.if_icmp .ne 30, 3) := by decide +kernel
theorem dX4_runUntilDone_15 : decode cX4_runUntilDone 15 = .ok (.aload_n 0, 1) := by decide +kernel
theorem dX4_runUntilDone_16 : decode cX4_runUntilDone 16 = .ok (.invokevirtual 108, 3) := by decide +kernel
theorem dX4_runUntilDone_19 : decode cX4_runUntilDone 19 = .ok (.ifCond .ne 23, 3) := by decide +kernel
theorem dX4_runUntilDone_22 : decode cX4_runUntilDone 22 = .ok (.aload_n 0, 1) := by decide +kernel
theorem dX4_runUntilDone_23 : decode cX4_runUntilDone 23 = .ok (.invokevirtual 105, 3) := by decide +kernel
theorem dX4_runUntilDone_26 : decode cX4_runUntilDone 26 = .ok (.aload_n 0, 1) := by decide +kernel
theorem dX4_runUntilDone_27 : decode cX4_runUntilDone 27 = .ok (.getfield 36, 3) := by decide +kernel
theorem dX4_runUntilDone_30 : decode cX4_runUntilDone 30 = .ok (.iconst 2, 1) := by decide +kernel
theorem dX4_runUntilDone_31 : decode cX4_runUntilDone 31 = .ok (.if_icmp .ne 5, 3) := by decide +kernel
theorem dX4_runUntilDone_34 : decode cX4_runUntilDone 34 = .ok (.iload_n 2, 1) := by decide +kernel
theorem dX4_runUntilDone_35 : decode cX4_runUntilDone 35 = .ok (.ireturn, 1) := by decide +kernel
theorem dX4_runUntilDone_36 : decode cX4_runUntilDone 36 = .ok (.iinc 2 1, 3) := by decide +kernel
theorem dX4_runUntilDone_39 : decode cX4_runUntilDone 39 = .ok (.goto (-37), 3) := by decide +kernel
theorem dX4_runUntilDone_42 : decode cX4_runUntilDone 42 = .ok (.bipush (-5), 2) := by decide +kernel
theorem dX4_runUntilDone_44 : decode cX4_runUntilDone 44 = .ok (.ireturn, 1) := by decide +kernel
set_option maxRecDepth 20000 in
theorem ggX4_passOneTick_X4_isPaused : GoodIn wsX4_passOneTick wsX4_isPaused := goodIn_r _ [10, 1, 3, 11, 12, 13, 122, 123, 124, 125, 126, 127, 128, 129, 130, 131, 132, 133] (by decide +kernel) (by decide +kernel)
set_option maxRecDepth 20000 in
theorem gX4_passOneTick_X4_isPaused : GoodIn wsX4_passOneTick (wsV RX4 108 RX4 yX4_isPaused wsX4_isPaused) := goodIn_app (goodIn_of _ (by decide +kernel)) ggX4_passOneTick_X4_isPaused
set_option maxRecDepth 20000 in
theorem ggX4_passOneTick_X4_countPausedTick : GoodIn wsX4_passOneTick wsX4_countPausedTick := goodIn_r _ [17, 2, 18, 5, 19, 20, 21, 22, 23, 24, 25, 26, 27, 28, 29, 30, 122, 123, 124, 125, 126, 127, 128, 129, 130, 131, 132, 133, 134, 135, 136, 137, 138] (by decide +kernel) (by decide +kernel)
set_option maxRecDepth 20000 in
theorem gX4_passOneTick_X4_countPausedTick : GoodIn wsX4_passOneTick (wsV RX4 112 RX4 yX4_countPausedTick wsX4_countPausedTick) := goodIn_app (goodIn_of _ (by decide +kernel)) ggX4_passOneTick_X4_countPausedTick
set_option maxRecDepth 20000 in
theorem ggX4_passOneTick_X4_charge : GoodIn wsX4_passOneTick wsX4_charge := goodIn_r _ [34, 4, 3, 35, 1, 36, 18, 5, 19, 37, 38, 39, 9, 40, 41, 42, 43, 44, 45, 46, 47, 48, 49, 50, 51, 52, 53, 54, 55, 56, 57, 58, 59, 60, 61, 62, 63, 64, 65, 66, 67, 68, 69, 70, 71, 72, 73, 74, 75, 76, 77, 12, 78, 79, 80, 81, 82, 83, 84, 85, 86, 87, 88, 89, 90, 91, 92, 93, 94, 95, 96, 97, 98, 99, 100, 101, 102, 103, 104, 105, 106, 21, 22, 23, 24, 25, 26, 27, 28, 29, 30, 107, 108, 109, 110, 111, 122, 123, 124, 125, 126, 127, 128, 129, 130, 131, 132, 133, 139, 140, 141, 142, 143, 144, 145, 146, 147, 148, 149, 150, 151, 134, 135, 136, 137, 138] (by decide +kernel) (by decide +kernel)
set_option maxRecDepth 20000 in
theorem gX4_passOneTick_X4_charge : GoodIn wsX4_passOneTick (wsV RX4 115 RX4 yX4_charge wsX4_charge) := goodIn_app (goodIn_of _ (by decide +kernel)) ggX4_passOneTick_X4_charge
set_option maxRecDepth 20000 in
theorem ggX4_passOneTick_X0_loseTo : GoodIn wsX4_passOneTick wsX0_loseTo := goodIn_r _ [115, 72, 71, 116, 84, 75, 85, 117, 118, 119, 120, 69, 121, 77, 12, 78, 144, 145, 146, 147, 148, 149, 150, 151] (by decide +kernel) (by decide +kernel)
set_option maxRecDepth 20000 in
theorem gX4_passOneTick_X0_loseTo : GoodIn wsX4_passOneTick (wsV RX4 118 RX0 yX0_loseTo wsX0_loseTo) := goodIn_app (goodIn_of _ (by decide +kernel)) ggX4_passOneTick_X0_loseTo
theorem dX4_passOneTick_0 : decode cX4_passOneTick 0 = .ok (.aload_n 0, 1) := by decide +kernel
theorem dX4_passOneTick_1 : decode cX4_passOneTick 1 = .ok (.invokevirtual 108, 3) := by decide +kernel
theorem dX4_passOneTick_4 : decode cX4_passOneTick 4 = .ok (.istore_n 1, 1) := by decide +kernel
theorem dX4_passOneTick_5 : decode cX4_passOneTick 5 = .ok (.iload_n 1, 1) := by decide +kernel
theorem dX4_passOneTick_6 : decode cX4_passOneTick 6 = .ok (.ifCond .eq 10, 3) := by decide +kernel
theorem dX4_passOneTick_9 : decode cX4_passOneTick 9 = .ok (.aload_n 0, 1) := by decide +kernel
theorem dX4_passOneTick_10 : decode cX4_passOneTick 10 = .ok (.invokevirtual 112, 3) := by decide +kernel
theorem dX4_passOneTick_13 : decode cX4_passOneTick 13 = .ok (.goto 15, 3) := by decide +kernel
theorem dX4_passOneTick_16 : decode cX4_passOneTick 16 = .ok (.aload_n 0, 1) := by decide +kernel
theorem dX4_passOneTick_17 : decode cX4_passOneTick 17 = .ok (.getfield 36, 3) := by decide +kernel
theorem dX4_passOneTick_20 : decode cX4_passOneTick 20 = .ok (.iconst 1, 1) := by decide +kernel
theorem dX4_passOneTick_21 : decode cX4_passOneTick 21 = .ok (.if_icmp .ne 7, 3) := by decide +kernel
theorem dX4_passOneTick_24 : decode cX4_passOneTick 24 = .ok (.aload_n 0, 1) := by decide +kernel
theorem dX4_passOneTick_25 : decode cX4_passOneTick 25 = .ok (.invokevirtual 115, 3) := by decide +kernel
theorem dX4_passOneTick_28 : decode cX4_passOneTick 28 = .ok (.aload_n 0, 1) := by decide +kernel
theorem dX4_passOneTick_29 : decode cX4_passOneTick 29 = .ok (.iload_n 1, 1) := by decide +kernel
theorem dX4_passOneTick_30 : decode cX4_passOneTick 30 = .ok (.putfield 52, 3) := by decide +kernel
theorem dX4_passOneTick_33 : decode cX4_passOneTick 33 = .ok (.aload_n 0, 1) := by decide +kernel
theorem dX4_passOneTick_34 : decode cX4_passOneTick 34 = .ok (.getfield 9, 3) := by decide +kernel
theorem dX4_passOneTick_37 : decode cX4_passOneTick 37 = .ok (.bipush 8, 2) := by decide +kernel
theorem dX4_passOneTick_39 : decode cX4_passOneTick 39 = .ok (.iaload, 1) := by decide +kernel
theorem dX4_passOneTick_40 : decode cX4_passOneTick 40 = .ok (.ifCond .le 30, 3) := by decide +kernel
theorem dX4_passOneTick_43 : decode cX4_passOneTick 43 = .ok (.aload_n 0, 1) := by decide +kernel
theorem dX4_passOneTick_44 : decode cX4_passOneTick 44 = .ok (.getfield 18, 3) := by decide +kernel
theorem dX4_passOneTick_47 : decode cX4_passOneTick 47 = .ok (.aload_n 0, 1) := by decide +kernel
theorem dX4_passOneTick_48 : decode cX4_passOneTick 48 = .ok (.getfield 9, 3) := by decide +kernel
theorem dX4_passOneTick_51 : decode cX4_passOneTick 51 = .ok (.bipush 8, 2) := by decide +kernel
theorem dX4_passOneTick_53 : decode cX4_passOneTick 53 = .ok (.iaload, 1) := by decide +kernel
theorem dX4_passOneTick_54 : decode cX4_passOneTick 54 = .ok (.aload_n 0, 1) := by decide +kernel
theorem dX4_passOneTick_55 : decode cX4_passOneTick 55 = .ok (.getfield 9, 3) := by decide +kernel
theorem dX4_passOneTick_58 : decode cX4_passOneTick 58 = .ok (.bipush 7, 2) := by decide +kernel
theorem dX4_passOneTick_60 : decode cX4_passOneTick 60 = .ok (.iaload, 1) := by decide +kernel
theorem dX4_passOneTick_61 : decode cX4_passOneTick 61 = .ok (.aload_n 0, 1) := by decide +kernel
theorem dX4_passOneTick_62 : decode cX4_passOneTick 62 = .ok (.getfield 9, 3) := by decide +kernel
theorem dX4_passOneTick_65 : decode cX4_passOneTick 65 = .ok (.iconst 0, 1) := by decide +kernel
theorem dX4_passOneTick_66 : decode cX4_passOneTick 66 = .ok (.iaload, 1) := by decide +kernel
theorem dX4_passOneTick_67 : decode cX4_passOneTick 67 = .ok (.invokevirtual 118, 3) := by decide +kernel
theorem dX4_passOneTick_70 : decode cX4_passOneTick 70 = .ok (.aload_n 0, 1) := by decide +kernel
theorem dX4_passOneTick_71 : decode cX4_passOneTick 71 = .ok (.dup, 1) := by decide +kernel
theorem dX4_passOneTick_72 : decode cX4_passOneTick 72 = .ok (.getfield 46, 3) := by decide +kernel
theorem dX4_passOneTick_75 : decode cX4_passOneTick 75 = .ok (.iconst 1, 1) := by decide +kernel
theorem dX4_passOneTick_76 : decode cX4_passOneTick 76 = .ok (.iadd, 1) := by decide +kernel
theorem dX4_passOneTick_77 : decode cX4_passOneTick 77 = .ok (.putfield 46, 3) := by decide +kernel
theorem dX4_passOneTick_80 : decode cX4_passOneTick 80 = .ok (.return_, 1) := by decide +kernel
set_option maxRecDepth 20000 in
theorem ggX4_countPausedTick_X2_add : GoodIn wsX4_countPausedTick wsX2_add := goodIn_r _ [10, 11, 12, 13, 14, 15, 28, 29, 30, 31, 32] (by decide +kernel) (by decide +kernel)
set_option maxRecDepth 20000 in
theorem gX4_countPausedTick_X2_add : GoodIn wsX4_countPausedTick (wsV RX4 101 RX2 yX2_add wsX2_add) := goodIn_app (goodIn_of _ (by decide +kernel)) ggX4_countPausedTick_X2_add
theorem dX4_countPausedTick_0 : decode cX4_countPausedTick 0 = .ok (.aload_n 0, 1) := by decide +kernel
theorem dX4_countPausedTick_1 : decode cX4_countPausedTick 1 = .ok (.getfield 52, 3) := by decide +kernel
theorem dX4_countPausedTick_4 : decode cX4_countPausedTick 4 = .ok (.ifCond .ne 19, 3) := by decide +kernel
theorem dX4_countPausedTick_7 : decode cX4_countPausedTick 7 = .ok (.aload_n 0, 1) := by decide +kernel
theorem dX4_countPausedTick_8 : decode cX4_countPausedTick 8 = .ok (.getfield 32, 3) := by decide +kernel
theorem dX4_countPausedTick_11 : decode cX4_countPausedTick 11 = .ok (.iconst 3, 1) := by decide +kernel
theorem dX4_countPausedTick_12 : decode cX4_countPausedTick 12 = .ok (.aload_n 0, 1) := by decide +kernel
theorem dX4_countPausedTick_13 : decode cX4_countPausedTick 13 = .ok (.getfield 46, 3) := by decide +kernel
theorem dX4_countPausedTick_16 : decode cX4_countPausedTick 16 = .ok (.aload_n 0, 1) := by decide +kernel
theorem dX4_countPausedTick_17 : decode cX4_countPausedTick 17 = .ok (.getfield 40, 3) := by decide +kernel
theorem dX4_countPausedTick_20 : decode cX4_countPausedTick 20 = .ok (.invokevirtual 101, 3) := by decide +kernel
theorem dX4_countPausedTick_23 : decode cX4_countPausedTick 23 = .ok (.aload_n 0, 1) := by decide +kernel
theorem dX4_countPausedTick_24 : decode cX4_countPausedTick 24 = .ok (.dup, 1) := by decide +kernel
theorem dX4_countPausedTick_25 : decode cX4_countPausedTick 25 = .ok (.getfield 49, 3) := by decide +kernel
theorem dX4_countPausedTick_28 : decode cX4_countPausedTick 28 = .ok (.iconst 1, 1) := by decide +kernel
theorem dX4_countPausedTick_29 : decode cX4_countPausedTick 29 = .ok (.iadd, 1) := by decide +kernel
theorem dX4_countPausedTick_30 : decode cX4_countPausedTick 30 = .ok (.putfield 49, 3) := by decide +kernel
theorem dX4_countPausedTick_33 : decode cX4_countPausedTick 33 = .ok (.return_, 1) := by decide +kernel
set_option maxRecDepth 20000 in
theorem ggX4_charge_X4_currentOfStage : GoodIn wsX4_charge wsX4_currentOfStage := goodIn_r _ [13, 14, 8, 15, 16, 17, 18, 19, 20, 21, 22, 23, 24, 25, 26, 12, 27, 2, 28, 29, 30, 31, 32, 33, 34, 35, 36, 37, 38, 1, 39, 40, 41, 42, 43, 44, 45, 46, 47, 48, 49, 50, 51, 52, 53, 54, 55, 56, 57, 58, 59, 96, 97, 98, 99, 100, 101, 102, 103, 104, 105, 106, 107, 108, 109, 110, 111, 112, 113, 114, 115, 116, 117, 118, 119, 120] (by decide +kernel) (by decide +kernel)
set_option maxRecDepth 20000 in
theorem gX4_charge_X4_currentOfStage : GoodIn wsX4_charge (wsV RX4 121 RX4 yX4_currentOfStage wsX4_currentOfStage) := goodIn_app (goodIn_of _ (by decide +kernel)) ggX4_charge_X4_currentOfStage
set_option maxRecDepth 20000 in
theorem ggX4_charge_X0_takeIn : GoodIn wsX4_charge wsX0_takeIn := goodIn_r _ [63, 45, 64, 44, 46, 47, 48, 49, 65, 66, 67, 113, 114, 115, 116, 117, 118, 119, 120] (by decide +kernel) (by decide +kernel)
set_option maxRecDepth 20000 in
theorem gX4_charge_X0_takeIn : GoodIn wsX4_charge (wsV RX4 124 RX0 yX0_takeIn wsX0_takeIn) := goodIn_app (goodIn_of _ (by decide +kernel)) ggX4_charge_X0_takeIn
set_option maxRecDepth 20000 in
theorem ggX4_charge_X4_endsBehind : GoodIn wsX4_charge wsX4_endsBehind := goodIn_r _ [71, 14, 8, 15, 3, 16, 18, 19, 20, 21, 22, 23, 35, 36, 37, 12, 38, 1, 2, 39, 40, 41, 42, 43, 44, 45, 46, 47, 48, 49, 50, 51, 52, 24, 25, 26, 27, 28, 29, 30, 31, 32, 33, 34, 96, 97, 98, 99, 100, 101, 102, 103, 104, 105, 106, 107, 108, 109, 110, 111, 112, 113, 114, 115, 116, 117, 118, 119, 120] (by decide +kernel) (by decide +kernel)
set_option maxRecDepth 20000 in
theorem gX4_charge_X4_endsBehind : GoodIn wsX4_charge (wsV RX4 127 RX4 yX4_endsBehind wsX4_endsBehind) := goodIn_app (goodIn_of _ (by decide +kernel)) ggX4_charge_X4_endsBehind
set_option maxRecDepth 20000 in
theorem ggX4_charge_X4_endStage : GoodIn wsX4_charge wsX4_endStage := goodIn_r _ [75, 14, 8, 4, 76, 6, 7, 18, 19, 20, 21, 22, 23, 77, 78, 79, 12, 80, 3, 81, 82, 83, 84, 85, 86, 87, 88, 89, 90, 96, 97, 98, 99, 100, 101, 102, 103, 104, 105, 106, 107, 108, 109, 110, 111, 112, 121, 122, 123, 124, 125] (by decide +kernel) (by decide +kernel)
set_option maxRecDepth 20000 in
theorem gX4_charge_X4_endStage : GoodIn wsX4_charge (wsV RX4 131 RX4 yX4_endStage wsX4_endStage) := goodIn_app (goodIn_of _ (by decide +kernel)) ggX4_charge_X4_endStage
set_option maxRecDepth 20000 in
theorem ggX4_charge_X4_hasRunOut : GoodIn wsX4_charge wsX4_hasRunOut := goodIn_r _ [94, 14, 8, 95, 3, 18, 19, 20, 21, 22, 23, 96, 97, 98, 99, 100, 101, 102, 103, 104, 105, 106, 107, 108, 109, 110, 111, 112] (by decide +kernel) (by decide +kernel)
set_option maxRecDepth 20000 in
theorem gX4_charge_X4_hasRunOut : GoodIn wsX4_charge (wsV RX4 134 RX4 yX4_hasRunOut wsX4_hasRunOut) := goodIn_app (goodIn_of _ (by decide +kernel)) ggX4_charge_X4_hasRunOut
set_option maxRecDepth 20000 in
theorem ggX4_charge_X2_add : GoodIn wsX4_charge wsX2_add := goodIn_r _ [85, 86, 87, 88, 89, 90, 121, 122, 123, 124, 125] (by decide +kernel) (by decide +kernel)
set_option maxRecDepth 20000 in
theorem gX4_charge_X2_add : GoodIn wsX4_charge (wsV RX4 101 RX2 yX2_add wsX2_add) := goodIn_app (goodIn_of _ (by decide +kernel)) ggX4_charge_X2_add
theorem dX4_charge_0 : decode cX4_charge 0 = .ok (.aload_n 0, 1) := by decide +kernel
theorem dX4_charge_1 : decode cX4_charge 1 = .ok (.invokevirtual 121, 3) := by decide +kernel
theorem dX4_charge_4 : decode cX4_charge 4 = .ok (.istore_n 1, 1) := by decide +kernel
theorem dX4_charge_5 : decode cX4_charge 5 = .ok (.iload_n 1, 1) := by decide +kernel
theorem dX4_charge_6 : decode cX4_charge 6 = .ok (.iconst (-1), 1) := by decide +kernel
theorem dX4_charge_7 : decode cX4_charge 7 = .ok (.if_icmp .ne 7, 3) := by decide +kernel
theorem dX4_charge_10 : decode cX4_charge 10 = .ok (.iconst 1, 1) := by decide +kernel
theorem dX4_charge_11 : decode cX4_charge 11 = .ok (.goto 4, 3) := by decide +kernel
theorem dX4_charge_14 : decode cX4_charge 14 = .ok (.iconst 0, 1) := by decide +kernel
theorem dX4_charge_15 : decode cX4_charge 15 = .ok (.istore_n 2, 1) := by decide +kernel
theorem dX4_charge_16 : decode cX4_charge 16 = .ok (.iload_n 2, 1) := by decide +kernel
theorem dX4_charge_17 : decode cX4_charge 17 = .ok (.ifCond .ne 39, 3) := by decide +kernel
theorem dX4_charge_20 : decode cX4_charge 20 = .ok (.aload_n 0, 1) := by decide +kernel
theorem dX4_charge_21 : decode cX4_charge 21 = .ok (.getfield 18, 3) := by decide +kernel
theorem dX4_charge_24 : decode cX4_charge 24 = .ok (.iload_n 1, 1) := by decide +kernel
theorem dX4_charge_25 : decode cX4_charge 25 = .ok (.aload_n 0, 1) := by decide +kernel
theorem dX4_charge_26 : decode cX4_charge 26 = .ok (.getfield 9, 3) := by decide +kernel
theorem dX4_charge_29 : decode cX4_charge 29 = .ok (.iconst 2, 1) := by decide +kernel
theorem dX4_charge_30 : decode cX4_charge 30 = .ok (.iaload, 1) := by decide +kernel
theorem dX4_charge_31 : decode cX4_charge 31 = .ok (.aload_n 0, 1) := by decide +kernel
theorem dX4_charge_32 : decode cX4_charge 32 = .ok (.getfield 9, 3) := by decide +kernel
theorem dX4_charge_35 : decode cX4_charge 35 = .ok (.iconst 0, 1) := by decide +kernel
theorem dX4_charge_36 : decode cX4_charge 36 = .ok (.iaload, 1) := by decide +kernel
theorem dX4_charge_37 : decode cX4_charge 37 = .ok (.invokevirtual 124, 3) := by decide +kernel
theorem dX4_charge_40 : decode cX4_charge 40 = .ok (.aload_n 0, 1) := by decide +kernel
theorem dX4_charge_41 : decode cX4_charge 41 = .ok (.dup, 1) := by decide +kernel
theorem dX4_charge_42 : decode cX4_charge 42 = .ok (.getfield 43, 3) := by decide +kernel
theorem dX4_charge_45 : decode cX4_charge 45 = .ok (.iconst 1, 1) := by decide +kernel
theorem dX4_charge_46 : decode cX4_charge 46 = .ok (.iadd, 1) := by decide +kernel
theorem dX4_charge_47 : decode cX4_charge 47 = .ok (.putfield 43, 3) := by decide +kernel
theorem dX4_charge_50 : decode cX4_charge 50 = .ok (.aload_n 0, 1) := by decide +kernel
theorem dX4_charge_51 : decode cX4_charge 51 = .ok (.iload_n 1, 1) := by decide +kernel
theorem dX4_charge_52 : decode cX4_charge 52 = .ok (.invokevirtual 127, 3) := by decide +kernel
theorem dX4_charge_55 : decode cX4_charge 55 = .ok (.istore_n 2, 1) := by decide +kernel
theorem dX4_charge_56 : decode cX4_charge 56 = .ok (.iload_n 2, 1) := by decide +kernel
theorem dX4_charge_57 : decode cX4_charge 57 = .ok (.ifCond .eq 10, 3) := by decide +kernel
theorem dX4_charge_60 : decode cX4_charge 60 = .ok (.aload_n 0, 1) := by decide +kernel
theorem dX4_charge_61 : decode cX4_charge 61 = .ok (.invokevirtual 131, 3) := by decide +kernel
theorem dX4_charge_64 : decode cX4_charge 64 = .ok (.goto 41, 3) := by decide +kernel
theorem dX4_charge_67 : decode cX4_charge 67 = .ok (.aload_n 0, 1) := by decide +kernel
theorem dX4_charge_68 : decode cX4_charge 68 = .ok (.invokevirtual 134, 3) := by decide +kernel
theorem dX4_charge_71 : decode cX4_charge 71 = .ok (.ifCond .eq 34, 3) := by decide +kernel
theorem dX4_charge_74 : decode cX4_charge 74 = .ok (.aload_n 0, 1) := by decide +kernel
theorem dX4_charge_75 : decode cX4_charge 75 = .ok (.iconst 3, 1) := by decide +kernel
theorem dX4_charge_76 : decode cX4_charge 76 = .ok (.putfield 36, 3) := by decide +kernel
theorem dX4_charge_79 : decode cX4_charge 79 = .ok (.aload_n 0, 1) := by decide +kernel
theorem dX4_charge_80 : decode cX4_charge 80 = .ok (.dup, 1) := by decide +kernel
theorem dX4_charge_81 : decode cX4_charge 81 = .ok (.getfield 59, 3) := by decide +kernel
theorem dX4_charge_84 : decode cX4_charge 84 = .ok (.iconst 1, 1) := by decide +kernel
theorem dX4_charge_85 : decode cX4_charge 85 = .ok (.iadd, 1) := by decide +kernel
theorem dX4_charge_86 : decode cX4_charge 86 = .ok (.putfield 59, 3) := by decide +kernel
theorem dX4_charge_89 : decode cX4_charge 89 = .ok (.aload_n 0, 1) := by decide +kernel
theorem dX4_charge_90 : decode cX4_charge 90 = .ok (.getfield 32, 3) := by decide +kernel
theorem dX4_charge_93 : decode cX4_charge 93 = .ok (.iconst 2, 1) := by decide +kernel
theorem dX4_charge_94 : decode cX4_charge 94 = .ok (.aload_n 0, 1) := by decide +kernel
theorem dX4_charge_95 : decode cX4_charge 95 = .ok (.getfield 46, 3) := by decide +kernel
theorem dX4_charge_98 : decode cX4_charge 98 = .ok (.aload_n 0, 1) := by decide +kernel
theorem dX4_charge_99 : decode cX4_charge 99 = .ok (.getfield 40, 3) := by decide +kernel
theorem dX4_charge_102 : decode cX4_charge 102 = .ok (.invokevirtual 101, 3) := by decide +kernel
theorem dX4_charge_105 : decode cX4_charge 105 = .ok (.return_, 1) := by decide +kernel
set_option maxRecDepth 20000 in
theorem ggX4_endStage_X3_has : GoodIn wsX4_endStage wsX3_has := goodIn_r _ [11, 12, 41, 42, 43, 44, 45] (by decide +kernel) (by decide +kernel)
set_option maxRecDepth 20000 in
theorem gX4_endStage_X3_has : GoodIn wsX4_endStage (wsV RX4 137 RX3 yX3_has wsX3_has) := goodIn_app (goodIn_of _ (by decide +kernel)) ggX4_endStage_X3_has
set_option maxRecDepth 20000 in
theorem ggX4_endStage_X4_begin : GoodIn wsX4_endStage wsX4_begin := goodIn_r _ [17, 2, 18, 5, 6, 19, 20, 21, 22, 23, 24, 25, 26, 27, 28, 29, 30, 31, 32, 33, 34, 35, 36, 37, 38, 39, 40, 46, 47, 48, 49, 50] (by decide +kernel) (by decide +kernel)
set_option maxRecDepth 20000 in
theorem gX4_endStage_X4_begin : GoodIn wsX4_endStage (wsV RX4 97 RX4 yX4_begin wsX4_begin) := goodIn_app (goodIn_of _ (by decide +kernel)) ggX4_endStage_X4_begin
set_option maxRecDepth 20000 in
theorem ggX4_endStage_X2_add : GoodIn wsX4_endStage wsX2_add := goodIn_r _ [23, 24, 25, 26, 27, 28, 46, 47, 48, 49, 50] (by decide +kernel) (by decide +kernel)
set_option maxRecDepth 20000 in
theorem gX4_endStage_X2_add : GoodIn wsX4_endStage (wsV RX4 101 RX2 yX2_add wsX2_add) := goodIn_app (goodIn_of _ (by decide +kernel)) ggX4_endStage_X2_add
theorem dX4_endStage_0 : decode cX4_endStage 0 = .ok (.aload_n 0, 1) := by decide +kernel
theorem dX4_endStage_1 : decode cX4_endStage 1 = .ok (.getfield 25, 3) := by decide +kernel
theorem dX4_endStage_4 : decode cX4_endStage 4 = .ok (.aload_n 0, 1) := by decide +kernel
theorem dX4_endStage_5 : decode cX4_endStage 5 = .ok (.getfield 40, 3) := by decide +kernel
theorem dX4_endStage_8 : decode cX4_endStage 8 = .ok (.iconst 1, 1) := by decide +kernel
theorem dX4_endStage_9 : decode cX4_endStage 9 = .ok (.iadd, 1) := by decide +kernel
theorem dX4_endStage_10 : decode cX4_endStage 10 = .ok (.invokevirtual 137, 3) := by decide +kernel
theorem dX4_endStage_13 : decode cX4_endStage 13 = .ok (.ifCond .eq 16, 3) := by decide +kernel
theorem dX4_endStage_16 : decode cX4_endStage 16 = .ok (.aload_n 0, 1) := by decide +kernel
theorem dX4_endStage_17 : decode cX4_endStage 17 = .ok (.aload_n 0, 1) := by decide +kernel
theorem dX4_endStage_18 : decode cX4_endStage 18 = .ok (.getfield 40, 3) := by decide +kernel
theorem dX4_endStage_21 : decode cX4_endStage 21 = .ok (.iconst 1, 1) := by decide +kernel
theorem dX4_endStage_22 : decode cX4_endStage 22 = .ok (.iadd, 1) := by decide +kernel
theorem dX4_endStage_23 : decode cX4_endStage 23 = .ok (.invokevirtual 97, 3) := by decide +kernel
theorem dX4_endStage_26 : decode cX4_endStage 26 = .ok (.goto 34, 3) := by decide +kernel
theorem dX4_endStage_29 : decode cX4_endStage 29 = .ok (.aload_n 0, 1) := by decide +kernel
theorem dX4_endStage_30 : decode cX4_endStage 30 = .ok (.iconst 2, 1) := by decide +kernel
theorem dX4_endStage_31 : decode cX4_endStage 31 = .ok (.putfield 36, 3) := by decide +kernel
theorem dX4_endStage_34 : decode cX4_endStage 34 = .ok (.aload_n 0, 1) := by decide +kernel
theorem dX4_endStage_35 : decode cX4_endStage 35 = .ok (.dup, 1) := by decide +kernel
theorem dX4_endStage_36 : decode cX4_endStage 36 = .ok (.getfield 56, 3) := by decide +kernel
theorem dX4_endStage_39 : decode cX4_endStage 39 = .ok (.iconst 1, 1) := by decide +kernel
theorem dX4_endStage_40 : decode cX4_endStage 40 = .ok (.iadd, 1) := by decide +kernel
theorem dX4_endStage_41 : decode cX4_endStage 41 = .ok (.putfield 56, 3) := by decide +kernel
theorem dX4_endStage_44 : decode cX4_endStage 44 = .ok (.aload_n 0, 1) := by decide +kernel
theorem dX4_endStage_45 : decode cX4_endStage 45 = .ok (.getfield 32, 3) := by decide +kernel
theorem dX4_endStage_48 : decode cX4_endStage 48 = .ok (.iconst 1, 1) := by decide +kernel
theorem dX4_endStage_49 : decode cX4_endStage 49 = .ok (.aload_n 0, 1) := by decide +kernel
theorem dX4_endStage_50 : decode cX4_endStage 50 = .ok (.getfield 46, 3) := by decide +kernel
theorem dX4_endStage_53 : decode cX4_endStage 53 = .ok (.aload_n 0, 1) := by decide +kernel
theorem dX4_endStage_54 : decode cX4_endStage 54 = .ok (.getfield 40, 3) := by decide +kernel
theorem dX4_endStage_57 : decode cX4_endStage 57 = .ok (.invokevirtual 101, 3) := by decide +kernel
theorem dX4_endStage_60 : decode cX4_endStage 60 = .ok (.return_, 1) := by decide +kernel
set_option maxRecDepth 20000 in
theorem ggX4_hasRunOut_X3_has : GoodIn wsX4_hasRunOut wsX3_has := goodIn_r _ [9, 10, 23, 24, 25, 26, 27] (by decide +kernel) (by decide +kernel)
set_option maxRecDepth 20000 in
theorem gX4_hasRunOut_X3_has : GoodIn wsX4_hasRunOut (wsV RX4 137 RX3 yX3_has wsX3_has) := goodIn_app (goodIn_of _ (by decide +kernel)) ggX4_hasRunOut_X3_has
theorem dX4_hasRunOut_0 : decode cX4_hasRunOut 0 = .ok (.aload_n 0, 1) := by decide +kernel
theorem dX4_hasRunOut_1 : decode cX4_hasRunOut 1 = .ok (.getfield 25, 3) := by decide +kernel
theorem dX4_hasRunOut_4 : decode cX4_hasRunOut 4 = .ok (.aload_n 0, 1) := by decide +kernel
theorem dX4_hasRunOut_5 : decode cX4_hasRunOut 5 = .ok (.getfield 40, 3) := by decide +kernel
theorem dX4_hasRunOut_8 : decode cX4_hasRunOut 8 = .ok (.invokevirtual 137, 3) := by decide +kernel
theorem dX4_hasRunOut_11 : decode cX4_hasRunOut 11 = .ok (.ifCond .eq 41, 3) := by decide +kernel
theorem dX4_hasRunOut_14 : decode cX4_hasRunOut 14 = .ok (.aload_n 0, 1) := by decide +kernel
theorem dX4_hasRunOut_15 : decode cX4_hasRunOut 15 = .ok (.getfield 25, 3) := by decide +kernel
theorem dX4_hasRunOut_18 : decode cX4_hasRunOut 18 = .ok (.getfield 140, 3) := by decide +kernel
theorem dX4_hasRunOut_21 : decode cX4_hasRunOut 21 = .ok (.aload_n 0, 1) := by decide +kernel
theorem dX4_hasRunOut_22 : decode cX4_hasRunOut 22 = .ok (.getfield 40, 3) := by decide +kernel
theorem dX4_hasRunOut_25 : decode cX4_hasRunOut 25 = .ok (.iaload, 1) := by decide +kernel
theorem dX4_hasRunOut_26 : decode cX4_hasRunOut 26 = .ok (.ifCond .le 26, 3) := by decide +kernel
theorem dX4_hasRunOut_29 : decode cX4_hasRunOut 29 = .ok (.aload_n 0, 1) := by decide +kernel
theorem dX4_hasRunOut_30 : decode cX4_hasRunOut 30 = .ok (.getfield 43, 3) := by decide +kernel
theorem dX4_hasRunOut_33 : decode cX4_hasRunOut 33 = .ok (.aload_n 0, 1) := by decide +kernel
theorem dX4_hasRunOut_34 : decode cX4_hasRunOut 34 = .ok (.getfield 25, 3) := by decide +kernel
theorem dX4_hasRunOut_37 : decode cX4_hasRunOut 37 = .ok (.getfield 140, 3) := by decide +kernel
theorem dX4_hasRunOut_40 : decode cX4_hasRunOut 40 = .ok (.aload_n 0, 1) := by decide +kernel
theorem dX4_hasRunOut_41 : decode cX4_hasRunOut 41 = .ok (.getfield 40, 3) := by decide +kernel
theorem dX4_hasRunOut_44 : decode cX4_hasRunOut 44 = .ok (.iaload, 1) := by decide +kernel
theorem dX4_hasRunOut_45 : decode cX4_hasRunOut 45 = .ok (.if_icmp .lt 7, 3) := by decide +kernel
theorem dX4_hasRunOut_48 : decode cX4_hasRunOut 48 = .ok (.iconst 1, 1) := by decide +kernel
theorem dX4_hasRunOut_49 : decode cX4_hasRunOut 49 = .ok (.goto 4, 3) := by decide +kernel
theorem dX4_hasRunOut_52 : decode cX4_hasRunOut 52 = .ok (.iconst 0, 1) := by decide +kernel
theorem dX4_hasRunOut_53 : decode cX4_hasRunOut 53 = .ok (.ireturn, 1) := by decide +kernel
set_option maxRecDepth 20000 in
theorem ggX4_currentOfStage_X3_has : GoodIn wsX4_currentOfStage wsX3_has := goodIn_r _ [10, 11, 63, 64, 65, 66, 67] (by decide +kernel) (by decide +kernel)
set_option maxRecDepth 20000 in
theorem gX4_currentOfStage_X3_has : GoodIn wsX4_currentOfStage (wsV RX4 137 RX3 yX3_has wsX3_has) := goodIn_app (goodIn_of _ (by decide +kernel)) ggX4_currentOfStage_X3_has
set_option maxRecDepth 20000 in
theorem ggX4_currentOfStage_X4_limitOfNow : GoodIn wsX4_currentOfStage wsX4_limitOfNow := goodIn_r _ [16, 1, 17, 18, 19, 20, 9, 21, 22, 23, 24, 51, 52, 53, 54, 55, 56, 57, 58, 59, 60, 61, 62, 63, 64, 65, 66, 67] (by decide +kernel) (by decide +kernel)
set_option maxRecDepth 20000 in
theorem gX4_currentOfStage_X4_limitOfNow : GoodIn wsX4_currentOfStage (wsV RX4 149 RX4 yX4_limitOfNow wsX4_limitOfNow) := goodIn_app (goodIn_of _ (by decide +kernel)) ggX4_currentOfStage_X4_limitOfNow
set_option maxRecDepth 20000 in
theorem ggX4_currentOfStage_X4_greatestVoltage : GoodIn wsX4_currentOfStage wsX4_greatestVoltage := goodIn_r _ [28, 29, 17, 30, 31, 32, 33, 34, 35, 36, 37, 38, 39, 40, 41, 42, 43, 51, 52, 53, 54, 55, 56, 57, 58, 59, 60, 61, 62, 68, 69, 70, 71, 72, 73, 74, 75] (by decide +kernel) (by decide +kernel)
set_option maxRecDepth 20000 in
theorem gX4_currentOfStage_X4_greatestVoltage : GoodIn wsX4_currentOfStage (wsV RX4 152 RX4 yX4_greatestVoltage wsX4_greatestVoltage) := goodIn_app (goodIn_of _ (by decide +kernel)) ggX4_currentOfStage_X4_greatestVoltage
set_option maxRecDepth 20000 in
theorem ggX4_currentOfStage_X4_heldCurrent : GoodIn wsX4_currentOfStage wsX4_heldCurrent := goodIn_r _ [47, 17, 48, 49, 39, 50, 51, 52, 53, 54, 55, 56, 57, 58, 59, 60, 61, 62] (by decide +kernel) (by decide +kernel)
set_option maxRecDepth 20000 in
theorem gX4_currentOfStage_X4_heldCurrent : GoodIn wsX4_currentOfStage (wsV RX4 155 RX4 yX4_heldCurrent wsX4_heldCurrent) := goodIn_app (goodIn_of _ (by decide +kernel)) ggX4_currentOfStage_X4_heldCurrent
theorem dX4_currentOfStage_0 : decode cX4_currentOfStage 0 = .ok (.aload_n 0, 1) := by decide +kernel
theorem dX4_currentOfStage_1 : decode cX4_currentOfStage 1 = .ok (.getfield 25, 3) := by decide +kernel
theorem dX4_currentOfStage_4 : decode cX4_currentOfStage 4 = .ok (.aload_n 0, 1) := by decide +kernel
theorem dX4_currentOfStage_5 : decode cX4_currentOfStage 5 = .ok (.getfield 40, 3) := by decide +kernel
theorem dX4_currentOfStage_8 : decode cX4_currentOfStage 8 = .ok (.invokevirtual 137, 3) := by decide +kernel
theorem dX4_currentOfStage_11 : decode cX4_currentOfStage 11 = .ok (.ifCond .ne 5, 3) := by decide +kernel
theorem dX4_currentOfStage_14 : decode cX4_currentOfStage 14 = .ok (.iconst (-1), 1) := by decide +kernel
theorem dX4_currentOfStage_15 : decode cX4_currentOfStage 15 = .ok (.ireturn, 1) := by decide +kernel
theorem dX4_currentOfStage_16 : decode cX4_currentOfStage 16 = .ok (.aload_n 0, 1) := by decide +kernel
theorem dX4_currentOfStage_17 : decode cX4_currentOfStage 17 = .ok (.getfield 25, 3) := by decide +kernel
theorem dX4_currentOfStage_20 : decode cX4_currentOfStage 20 = .ok (.getfield 143, 3) := by decide +kernel
theorem dX4_currentOfStage_23 : decode cX4_currentOfStage 23 = .ok (.aload_n 0, 1) := by decide +kernel
theorem dX4_currentOfStage_24 : decode cX4_currentOfStage 24 = .ok (.getfield 40, 3) := by decide +kernel
theorem dX4_currentOfStage_27 : decode cX4_currentOfStage 27 = .ok (.iaload, 1) := by decide +kernel
theorem dX4_currentOfStage_28 : decode cX4_currentOfStage 28 = .ok (.lookupswitch 82 #[(0, 28), (1, 41)], 28) := by decide +kernel
theorem dX4_currentOfStage_56 : decode cX4_currentOfStage 56 = .ok (.aload_n 0, 1) := by decide +kernel
theorem dX4_currentOfStage_57 : decode cX4_currentOfStage 57 = .ok (.getfield 25, 3) := by decide +kernel
theorem dX4_currentOfStage_60 : decode cX4_currentOfStage 60 = .ok (.getfield 146, 3) := by decide +kernel
theorem dX4_currentOfStage_63 : decode cX4_currentOfStage 63 = .ok (.aload_n 0, 1) := by decide +kernel
theorem dX4_currentOfStage_64 : decode cX4_currentOfStage 64 = .ok (.getfield 40, 3) := by decide +kernel
theorem dX4_currentOfStage_67 : decode cX4_currentOfStage 67 = .ok (.iaload, 1) := by decide +kernel
theorem dX4_currentOfStage_68 : decode cX4_currentOfStage 68 = .ok (.ireturn, 1) := by decide +kernel
theorem dX4_currentOfStage_69 : decode cX4_currentOfStage 69 = .ok (.aload_n 0, 1) := by decide +kernel
theorem dX4_currentOfStage_70 : decode cX4_currentOfStage 70 = .ok (.aload_n 0, 1) := by decide +kernel
theorem dX4_currentOfStage_71 : decode cX4_currentOfStage 71 = .ok (.aload_n 0, 1) := by decide +kernel
theorem dX4_currentOfStage_72 : decode cX4_currentOfStage 72 = .ok (.getfield 40, 3) := by decide +kernel
theorem dX4_currentOfStage_75 : decode cX4_currentOfStage 75 = .ok (.invokevirtual 149, 3) := by decide +kernel
theorem dX4_currentOfStage_78 : decode cX4_currentOfStage 78 = .ok (.aload_n 0, 1) := by decide +kernel
theorem dX4_currentOfStage_79 : decode cX4_currentOfStage 79 = .ok (.iconst 0, 1) := by decide +kernel
theorem dX4_currentOfStage_80 : decode cX4_currentOfStage 80 = .ok (.invokevirtual 152, 3) := by decide +kernel
theorem dX4_currentOfStage_83 : decode cX4_currentOfStage 83 = .ok (.isub, 1) := by decide +kernel
theorem dX4_currentOfStage_84 : decode cX4_currentOfStage 84 = .ok (.invokevirtual 155, 3) := by decide +kernel
theorem dX4_currentOfStage_87 : decode cX4_currentOfStage 87 = .ok (.istore_n 1, 1) := by decide +kernel
theorem dX4_currentOfStage_88 : decode cX4_currentOfStage 88 = .ok (.iload_n 1, 1) := by decide +kernel
theorem dX4_currentOfStage_89 : decode cX4_currentOfStage 89 = .ok (.aload_n 0, 1) := by decide +kernel
theorem dX4_currentOfStage_90 : decode cX4_currentOfStage 90 = .ok (.getfield 25, 3) := by decide +kernel
theorem dX4_currentOfStage_93 : decode cX4_currentOfStage 93 = .ok (.getfield 158, 3) := by decide +kernel
theorem dX4_currentOfStage_96 : decode cX4_currentOfStage 96 = .ok (.aload_n 0, 1) := by decide +kernel
theorem dX4_currentOfStage_97 : decode cX4_currentOfStage 97 = .ok (.getfield 40, 3) := by decide +kernel
theorem dX4_currentOfStage_100 : decode cX4_currentOfStage 100 = .ok (.iaload, 1) := by decide +kernel
theorem dX4_currentOfStage_101 : decode cX4_currentOfStage 101 = .ok (.if_icmp .gt 7, 3) := by decide +kernel
theorem dX4_currentOfStage_104 : decode cX4_currentOfStage 104 = .ok (.iconst (-1), 1) := by decide +kernel
theorem dX4_currentOfStage_105 : decode cX4_currentOfStage 105 = .ok (.goto 4, 3) := by decide +kernel
theorem dX4_currentOfStage_108 : decode cX4_currentOfStage 108 = .ok (.iload_n 1, 1) := by decide +kernel
theorem dX4_currentOfStage_109 : decode cX4_currentOfStage 109 = .ok (.ireturn, 1) := by decide +kernel
theorem dX4_currentOfStage_110 : decode cX4_currentOfStage 110 = .ok (.iconst 0, 1) := by decide +kernel
theorem dX4_currentOfStage_111 : decode cX4_currentOfStage 111 = .ok (.ireturn, 1) := by decide +kernel
theorem dX4_heldCurrent_0 : decode cX4_heldCurrent 0 = .ok (.aload_n 0, 1) := by decide +kernel
theorem dX4_heldCurrent_1 : decode cX4_heldCurrent 1 = .ok (.getfield 9, 3) := by decide +kernel
theorem dX4_heldCurrent_4 : decode cX4_heldCurrent 4 = .ok (.iconst 1, 1) := by decide +kernel
theorem dX4_heldCurrent_5 : decode cX4_heldCurrent 5 = .ok (.iaload, 1) := by decide +kernel
theorem dX4_heldCurrent_6 : decode cX4_heldCurrent 6 = .ok (.istore_n 2, 1) := by decide +kernel
theorem dX4_heldCurrent_7 : decode cX4_heldCurrent 7 = .ok (.iload_n 1, 1) := by decide +kernel
theorem dX4_heldCurrent_8 : decode cX4_heldCurrent 8 = .ok (.ifCond .ge 5, 3) := by decide +kernel
theorem dX4_heldCurrent_11 : decode cX4_heldCurrent 11 = .ok (.iconst 0, 1) := by decide +kernel
theorem dX4_heldCurrent_12 : decode cX4_heldCurrent 12 = .ok (.ireturn, 1) := by decide +kernel
theorem dX4_heldCurrent_13 : decode cX4_heldCurrent 13 = .ok (.iload_n 2, 1) := by decide +kernel
theorem dX4_heldCurrent_14 : decode cX4_heldCurrent 14 = .ok (.ifCond .gt 7, 3) := by decide +kernel
theorem dX4_heldCurrent_17 : decode cX4_heldCurrent 17 = .ok (.sipush 2000, 3) := by decide +kernel
theorem dX4_heldCurrent_20 : decode cX4_heldCurrent 20 = .ok (.ireturn, 1) := by decide +kernel
theorem dX4_heldCurrent_21 : decode cX4_heldCurrent 21 = .ok (.sipush 2000, 3) := by decide +kernel
theorem dX4_heldCurrent_24 : decode cX4_heldCurrent 24 = .ok (.iload_n 1, 1) := by decide +kernel
theorem dX4_heldCurrent_25 : decode cX4_heldCurrent 25 = .ok (.iconst 1, 1) := by decide +kernel
theorem dX4_heldCurrent_26 : decode cX4_heldCurrent 26 = .ok (.iadd, 1) := by decide +kernel
theorem dX4_heldCurrent_27 : decode cX4_heldCurrent 27 = .ok (.sipush 1000, 3) := by decide +kernel
theorem dX4_heldCurrent_30 : decode cX4_heldCurrent 30 = .ok (.imul, 1) := by decide +kernel
theorem dX4_heldCurrent_31 : decode cX4_heldCurrent 31 = .ok (.iconst 1, 1) := by decide +kernel
theorem dX4_heldCurrent_32 : decode cX4_heldCurrent 32 = .ok (.isub, 1) := by decide +kernel
theorem dX4_heldCurrent_33 : decode cX4_heldCurrent 33 = .ok (.iload_n 2, 1) := by decide +kernel
theorem dX4_heldCurrent_34 : decode cX4_heldCurrent 34 = .ok (.idiv, 1) := by decide +kernel
theorem dX4_heldCurrent_35 : decode cX4_heldCurrent 35 = .ok (.invokestatic 161, 3) := by decide +kernel
theorem dX4_heldCurrent_38 : decode cX4_heldCurrent 38 = .ok (.ireturn, 1) := by decide +kernel
set_option maxRecDepth 20000 in
theorem ggX4_endsBehind_X3_has : GoodIn wsX4_endsBehind wsX3_has := goodIn_r _ [10, 11, 56, 57, 58, 59, 60] (by decide +kernel) (by decide +kernel)
set_option maxRecDepth 20000 in
theorem gX4_endsBehind_X3_has : GoodIn wsX4_endsBehind (wsV RX4 137 RX3 yX3_has wsX3_has) := goodIn_app (goodIn_of _ (by decide +kernel)) ggX4_endsBehind_X3_has
set_option maxRecDepth 20000 in
theorem ggX4_endsBehind_X4_greatestVoltage : GoodIn wsX4_endsBehind wsX4_greatestVoltage := goodIn_r _ [16, 17, 18, 19, 20, 21, 22, 23, 24, 25, 26, 27, 28, 29, 30, 31, 32, 44, 45, 46, 47, 48, 49, 50, 51, 52, 53, 54, 55, 61, 62, 63, 64, 65, 66, 67, 68] (by decide +kernel) (by decide +kernel)
set_option maxRecDepth 20000 in
theorem gX4_endsBehind_X4_greatestVoltage : GoodIn wsX4_endsBehind (wsV RX4 152 RX4 yX4_greatestVoltage wsX4_greatestVoltage) := goodIn_app (goodIn_of _ (by decide +kernel)) ggX4_endsBehind_X4_greatestVoltage
set_option maxRecDepth 20000 in
theorem ggX4_endsBehind_X4_limitOfNow : GoodIn wsX4_endsBehind wsX4_limitOfNow := goodIn_r _ [36, 1, 18, 37, 38, 39, 9, 40, 41, 42, 43, 44, 45, 46, 47, 48, 49, 50, 51, 52, 53, 54, 55, 56, 57, 58, 59, 60] (by decide +kernel) (by decide +kernel)
set_option maxRecDepth 20000 in
theorem gX4_endsBehind_X4_limitOfNow : GoodIn wsX4_endsBehind (wsV RX4 149 RX4 yX4_limitOfNow wsX4_limitOfNow) := goodIn_app (goodIn_of _ (by decide +kernel)) ggX4_endsBehind_X4_limitOfNow
theorem dX4_endsBehind_0 : decode cX4_endsBehind 0 = .ok (.aload_n 0, 1) := by decide +kernel
theorem dX4_endsBehind_1 : decode cX4_endsBehind 1 = .ok (.getfield 25, 3) := by decide +kernel
theorem dX4_endsBehind_4 : decode cX4_endsBehind 4 = .ok (.aload_n 0, 1) := by decide +kernel
theorem dX4_endsBehind_5 : decode cX4_endsBehind 5 = .ok (.getfield 40, 3) := by decide +kernel
theorem dX4_endsBehind_8 : decode cX4_endsBehind 8 = .ok (.invokevirtual 137, 3) := by decide +kernel
theorem dX4_endsBehind_11 : decode cX4_endsBehind 11 = .ok (.ifCond .ne 5, 3) := by decide +kernel
theorem dX4_endsBehind_14 : decode cX4_endsBehind 14 = .ok (.iconst 1, 1) := by decide +kernel
theorem dX4_endsBehind_15 : decode cX4_endsBehind 15 = .ok (.ireturn, 1) := by decide +kernel
theorem dX4_endsBehind_16 : decode cX4_endsBehind 16 = .ok (.aload_n 0, 1) := by decide +kernel
theorem dX4_endsBehind_17 : decode cX4_endsBehind 17 = .ok (.getfield 25, 3) := by decide +kernel
theorem dX4_endsBehind_20 : decode cX4_endsBehind 20 = .ok (.getfield 143, 3) := by decide +kernel
theorem dX4_endsBehind_23 : decode cX4_endsBehind 23 = .ok (.aload_n 0, 1) := by decide +kernel
theorem dX4_endsBehind_24 : decode cX4_endsBehind 24 = .ok (.getfield 40, 3) := by decide +kernel
theorem dX4_endsBehind_27 : decode cX4_endsBehind 27 = .ok (.iaload, 1) := by decide +kernel
theorem dX4_endsBehind_28 : decode cX4_endsBehind 28 = .ok (.lookupswitch 75 #[(0, 28), (2, 50)], 28) := by decide +kernel
theorem dX4_endsBehind_56 : decode cX4_endsBehind 56 = .ok (.aload_n 0, 1) := by decide +kernel
theorem dX4_endsBehind_57 : decode cX4_endsBehind 57 = .ok (.iload_n 1, 1) := by decide +kernel
theorem dX4_endsBehind_58 : decode cX4_endsBehind 58 = .ok (.invokevirtual 152, 3) := by decide +kernel
theorem dX4_endsBehind_61 : decode cX4_endsBehind 61 = .ok (.aload_n 0, 1) := by decide +kernel
theorem dX4_endsBehind_62 : decode cX4_endsBehind 62 = .ok (.aload_n 0, 1) := by decide +kernel
theorem dX4_endsBehind_63 : decode cX4_endsBehind 63 = .ok (.getfield 40, 3) := by decide +kernel
theorem dX4_endsBehind_66 : decode cX4_endsBehind 66 = .ok (.invokevirtual 149, 3) := by decide +kernel
theorem dX4_endsBehind_69 : decode cX4_endsBehind 69 = .ok (.if_icmp .lt 7, 3) := by decide +kernel
theorem dX4_endsBehind_72 : decode cX4_endsBehind 72 = .ok (.iconst 1, 1) := by decide +kernel
theorem dX4_endsBehind_73 : decode cX4_endsBehind 73 = .ok (.goto 4, 3) := by decide +kernel
theorem dX4_endsBehind_76 : decode cX4_endsBehind 76 = .ok (.iconst 0, 1) := by decide +kernel
theorem dX4_endsBehind_77 : decode cX4_endsBehind 77 = .ok (.ireturn, 1) := by decide +kernel
theorem dX4_endsBehind_78 : decode cX4_endsBehind 78 = .ok (.aload_n 0, 1) := by decide +kernel
theorem dX4_endsBehind_79 : decode cX4_endsBehind 79 = .ok (.getfield 43, 3) := by decide +kernel
theorem dX4_endsBehind_82 : decode cX4_endsBehind 82 = .ok (.aload_n 0, 1) := by decide +kernel
theorem dX4_endsBehind_83 : decode cX4_endsBehind 83 = .ok (.getfield 25, 3) := by decide +kernel
theorem dX4_endsBehind_86 : decode cX4_endsBehind 86 = .ok (.getfield 146, 3) := by decide +kernel
theorem dX4_endsBehind_89 : decode cX4_endsBehind 89 = .ok (.aload_n 0, 1) := by decide +kernel
theorem dX4_endsBehind_90 : decode cX4_endsBehind 90 = .ok (.getfield 40, 3) := by decide +kernel
theorem dX4_endsBehind_93 : decode cX4_endsBehind 93 = .ok (.iaload, 1) := by decide +kernel
theorem dX4_endsBehind_94 : decode cX4_endsBehind 94 = .ok (.if_icmp .lt 7, 3) := by decide +kernel
theorem dX4_endsBehind_97 : decode cX4_endsBehind 97 = .ok (.iconst 1, 1) := by decide +kernel
theorem dX4_endsBehind_98 : decode cX4_endsBehind 98 = .ok (.goto 4, 3) := by decide +kernel
theorem dX4_endsBehind_101 : decode cX4_endsBehind 101 = .ok (.iconst 0, 1) := by decide +kernel
theorem dX4_endsBehind_102 : decode cX4_endsBehind 102 = .ok (.ireturn, 1) := by decide +kernel
theorem dX4_endsBehind_103 : decode cX4_endsBehind 103 = .ok (.iconst 0, 1) := by decide +kernel
theorem dX4_endsBehind_104 : decode cX4_endsBehind 104 = .ok (.ireturn, 1) := by decide +kernel
theorem dX5_init_0 : decode cX5_init 0 = .ok (.aload_n 0, 1) := by decide +kernel
theorem dX5_init_1 : decode cX5_init 1 = .ok (.invokespecial 3, 3) := by decide +kernel
theorem dX5_init_4 : decode cX5_init 4 = .ok (.aload_n 0, 1) := by decide +kernel
theorem dX5_init_5 : decode cX5_init 5 = .ok (.iconst 0, 1) := by decide +kernel
theorem dX5_init_6 : decode cX5_init 6 = .ok (.putfield 9, 3) := by decide +kernel
theorem dX5_init_9 : decode cX5_init 9 = .ok (.aload_n 0, 1) := by decide +kernel
theorem dX5_init_10 : decode cX5_init 10 = .ok (.iconst 0, 1) := by decide +kernel
theorem dX5_init_11 : decode cX5_init 11 = .ok (.putfield 15, 3) := by decide +kernel
theorem dX5_init_14 : decode cX5_init 14 = .ok (.aload_n 0, 1) := by decide +kernel
theorem dX5_init_15 : decode cX5_init 15 = .ok (.bipush 60, 2) := by decide +kernel
theorem dX5_init_17 : decode cX5_init 17 = .ok (.newarray .char, 2) := by decide +kernel
theorem dX5_init_19 : decode cX5_init 19 = .ok (.putfield 18, 3) := by decide +kernel
theorem dX5_init_22 : decode cX5_init 22 = .ok (.return_, 1) := by decide +kernel
theorem dX5_add_0 : decode cX5_add 0 = .ok (.aload_n 0, 1) := by decide +kernel
theorem dX5_add_1 : decode cX5_add 1 = .ok (.getfield 9, 3) := by decide +kernel
theorem dX5_add_4 : decode cX5_add 4 = .ok (.bipush 60, 2) := by decide +kernel
theorem dX5_add_6 : decode cX5_add 6 = .ok (.if_icmp .ge 23, 3) := by decide +kernel
theorem dX5_add_9 : decode cX5_add 9 = .ok (.aload_n 0, 1) := by decide +kernel
theorem dX5_add_10 : decode cX5_add 10 = .ok (.getfield 18, 3) := by decide +kernel
theorem dX5_add_13 : decode cX5_add 13 = .ok (.aload_n 0, 1) := by decide +kernel
theorem dX5_add_14 : decode cX5_add 14 = .ok (.getfield 9, 3) := by decide +kernel
theorem dX5_add_17 : decode cX5_add 17 = .ok (.iload_n 1, 1) := by decide +kernel
theorem dX5_add_18 : decode cX5_add 18 = .ok (.castore, 1) := by decide +kernel
theorem dX5_add_19 : decode cX5_add 19 = .ok (.aload_n 0, 1) := by decide +kernel
theorem dX5_add_20 : decode cX5_add 20 = .ok (.dup, 1) := by decide +kernel
theorem dX5_add_21 : decode cX5_add 21 = .ok (.getfield 9, 3) := by decide +kernel
theorem dX5_add_24 : decode cX5_add 24 = .ok (.iconst 1, 1) := by decide +kernel
theorem dX5_add_25 : decode cX5_add 25 = .ok (.iadd, 1) := by decide +kernel
theorem dX5_add_26 : decode cX5_add 26 = .ok (.putfield 9, 3) := by decide +kernel
theorem dX5_add_29 : decode cX5_add 29 = .ok (.return_, 1) := by decide +kernel
set_option maxRecDepth 20000 in
theorem ggX5_readInto_X5_readStage : GoodIn wsX5_readInto wsX5_readStage := goodIn_r _ [8, 2, 9, 10, 11, 7, 12, 1, 3, 13, 14, 15, 16, 17, 18, 19, 20, 21, 22, 23, 24, 25, 26, 27, 28, 29, 30, 31, 32, 33, 34, 35, 36, 37, 38, 39, 40, 41, 42, 43, 44, 45, 46, 50, 51, 52, 53, 54, 47, 48, 49] (by decide +kernel) (by decide +kernel)
set_option maxRecDepth 20000 in
theorem gX5_readInto_X5_readStage : GoodIn wsX5_readInto (wsV RX5 27 RX5 yX5_readStage wsX5_readStage) := goodIn_app (goodIn_of _ (by decide +kernel)) ggX5_readInto_X5_readStage
set_option maxRecDepth 20000 in
theorem ggX5_readInto_X5_accepts : GoodIn wsX5_readInto wsX5_accepts := goodIn_r _ [12, 1, 3, 13, 47, 48, 49] (by decide +kernel) (by decide +kernel)
set_option maxRecDepth 20000 in
theorem gX5_readInto_X5_accepts : GoodIn wsX5_readInto (wsV RX5 31 RX5 yX5_accepts wsX5_accepts) := goodIn_app (goodIn_of _ (by decide +kernel)) ggX5_readInto_X5_accepts
theorem dX5_readInto_0 : decode cX5_readInto 0 = .ok (.aload_n 0, 1) := by decide +kernel
theorem dX5_readInto_1 : decode cX5_readInto 1 = .ok (.iconst 0, 1) := by decide +kernel
theorem dX5_readInto_2 : decode cX5_readInto 2 = .ok (.putfield 15, 3) := by decide +kernel
theorem dX5_readInto_5 : decode cX5_readInto 5 = .ok (.aload_n 1, 1) := by decide +kernel
theorem dX5_readInto_6 : decode cX5_readInto 6 = .ok (.iconst 0, 1) := by decide +kernel
theorem dX5_readInto_7 : decode cX5_readInto 7 = .ok (.putfield 22, 3) := by decide +kernel
theorem dX5_readInto_10 : decode cX5_readInto 10 = .ok (.iconst 1, 1) := by decide +kernel
theorem dX5_readInto_11 : decode cX5_readInto 11 = .ok (.istore_n 2, 1) := by decide +kernel
theorem dX5_readInto_12 : decode cX5_readInto 12 = .ok (.iload_n 2, 1) := by decide +kernel
theorem dX5_readInto_13 : decode cX5_readInto 13 = .ok (.iconst 5, 1) := by decide +kernel
theorem dX5_readInto_14 : decode cX5_readInto 14 = .ok (.if_icmp .gt 48, 3) := by decide +kernel
theorem dX5_readInto_17 : decode cX5_readInto 17 = .ok (.aload_n 0, 1) := by decide +kernel
theorem dX5_readInto_18 : decode cX5_readInto 18 = .ok (.aload_n 1, 1) := by decide +kernel
theorem dX5_readInto_19 : decode cX5_readInto 19 = .ok (.invokevirtual 27, 3) := by decide +kernel
theorem dX5_readInto_22 : decode cX5_readInto 22 = .ok (.ifCond .ne 5, 3) := by decide +kernel
theorem dX5_readInto_25 : decode cX5_readInto 25 = .ok (.iconst 0, 1) := by decide +kernel
theorem dX5_readInto_26 : decode cX5_readInto 26 = .ok (.ireturn, 1) := by decide +kernel
theorem dX5_readInto_27 : decode cX5_readInto 27 = .ok (.aload_n 0, 1) := by decide +kernel
theorem dX5_readInto_28 : decode cX5_readInto 28 = .ok (.getfield 15, 3) := by decide +kernel
theorem dX5_readInto_31 : decode cX5_readInto 31 = .ok (.aload_n 0, 1) := by decide +kernel
theorem dX5_readInto_32 : decode cX5_readInto 32 = .ok (.getfield 9, 3) := by decide +kernel
theorem dX5_readInto_35 : decode cX5_readInto 35 = .ok (.if_icmp .ne 5, 3) := by decide +kernel
theorem dX5_readInto_38 : decode cX5_readInto 38 = .ok (.iconst 1, 1) := by decide +kernel
theorem dX5_readInto_39 : decode cX5_readInto 39 = .ok (.ireturn, 1) := by decide +kernel
theorem dX5_readInto_40 : decode cX5_readInto 40 = .ok (.iload_n 2, 1) := by decide +kernel
theorem dX5_readInto_41 : decode cX5_readInto 41 = .ok (.iconst 5, 1) := by decide +kernel
theorem dX5_readInto_42 : decode cX5_readInto 42 = .ok (.if_icmp .eq 12, 3) := by decide +kernel
theorem dX5_readInto_45 : decode cX5_readInto 45 = .ok (.aload_n 0, 1) := by decide +kernel
theorem dX5_readInto_46 : decode cX5_readInto 46 = .ok (.bipush 59, 2) := by decide +kernel
theorem dX5_readInto_48 : decode cX5_readInto 48 = .ok (.invokevirtual 31, 3) := by decide +kernel
theorem dX5_readInto_51 : decode cX5_readInto 51 = .ok (.ifCond .ne 5, 3) := by decide +kernel
theorem dX5_readInto_54 : decode cX5_readInto 54 = .ok (.iconst 0, 1) := by decide +kernel
theorem dX5_readInto_55 : decode cX5_readInto 55 = .ok (.ireturn, 1) := by decide +kernel
theorem dX5_readInto_56 : decode cX5_readInto 56 = .ok (.iinc 2 1, 3) := by decide +kernel
theorem dX5_readInto_59 : decode cX5_readInto 59 = .ok (.goto (-47), 3) := by decide +kernel
theorem dX5_readInto_62 : decode cX5_readInto 62 = .ok (.iconst 0, 1) := by decide +kernel
theorem dX5_readInto_63 : decode cX5_readInto 63 = .ok (.ireturn, 1) := by decide +kernel
set_option maxRecDepth 20000 in
theorem ggX5_readStage_X5_accepts : GoodIn wsX5_readStage wsX5_accepts := goodIn_r _ [6, 7, 8, 9, 48, 49, 50] (by decide +kernel) (by decide +kernel)
set_option maxRecDepth 20000 in
theorem gX5_readStage_X5_accepts : GoodIn wsX5_readStage (wsV RX5 31 RX5 yX5_accepts wsX5_accepts) := goodIn_app (goodIn_of _ (by decide +kernel)) ggX5_readStage_X5_accepts
set_option maxRecDepth 20000 in
theorem ggX5_readStage_X3_addStage : GoodIn wsX5_readStage wsX3_addStage := goodIn_r _ [14, 15, 16, 17, 18, 19, 43, 44, 45, 46, 47] (by decide +kernel) (by decide +kernel)
set_option maxRecDepth 20000 in
theorem gX5_readStage_X3_addStage : GoodIn wsX5_readStage (wsV RX5 35 RX3 yX3_addStage wsX3_addStage) := goodIn_app (goodIn_of _ (by decide +kernel)) ggX5_readStage_X3_addStage
set_option maxRecDepth 20000 in
theorem ggX5_readStage_X5_readPair : GoodIn wsX5_readStage wsX5_readPair := goodIn_r _ [23, 24, 25, 26, 27, 5, 28, 29, 30, 31, 32, 33, 9, 7, 34, 35, 36, 37, 8, 2, 3, 4, 6, 43, 44, 45, 46, 47, 48, 49, 50] (by decide +kernel) (by decide +kernel)
set_option maxRecDepth 20000 in
theorem gX5_readStage_X5_readPair : GoodIn wsX5_readStage (wsV RX5 39 RX5 yX5_readPair wsX5_readPair) := goodIn_app (goodIn_of _ (by decide +kernel)) ggX5_readStage_X5_readPair
set_option maxRecDepth 20000 in
theorem ggX5_readStage_X5_readTimer : GoodIn wsX5_readStage wsX5_readTimer := goodIn_r _ [41, 42, 2, 3, 4, 5, 6, 7, 8, 9, 30, 31, 32, 33, 34, 35, 36, 37, 43, 44, 45, 46, 47, 48, 49, 50] (by decide +kernel) (by decide +kernel)
set_option maxRecDepth 20000 in
theorem gX5_readStage_X5_readTimer : GoodIn wsX5_readStage (wsV RX5 43 RX5 yX5_readTimer wsX5_readTimer) := goodIn_app (goodIn_of _ (by decide +kernel)) ggX5_readStage_X5_readTimer
set_option maxRecDepth 20000 in
theorem ggX5_readStage_X5_readFirst : GoodIn wsX5_readStage wsX5_readFirst := goodIn_r _ [28, 29, 30, 31, 32, 5, 33, 9, 7, 34, 35, 36, 37, 8, 43, 44, 45, 46, 47, 48, 49, 50] (by decide +kernel) (by decide +kernel)
set_option maxRecDepth 20000 in
theorem gX5_readStage_X5_readFirst : GoodIn wsX5_readStage (wsV RX5 46 RX5 yX5_readFirst wsX5_readFirst) := goodIn_app (goodIn_of _ (by decide +kernel)) ggX5_readStage_X5_readFirst
theorem dX5_readStage_0 : decode cX5_readStage 0 = .ok (.aload_n 1, 1) := by decide +kernel
theorem dX5_readStage_1 : decode cX5_readStage 1 = .ok (.getfield 22, 3) := by decide +kernel
theorem dX5_readStage_4 : decode cX5_readStage 4 = .ok (.istore_n 2, 1) := by decide +kernel
theorem dX5_readStage_5 : decode cX5_readStage 5 = .ok (.aload_n 0, 1) := by decide +kernel
theorem dX5_readStage_6 : decode cX5_readStage 6 = .ok (.bipush 99, 2) := by decide +kernel
theorem dX5_readStage_8 : decode cX5_readStage 8 = .ok (.invokevirtual 31, 3) := by decide +kernel
theorem dX5_readStage_11 : decode cX5_readStage 11 = .ok (.ifCond .eq 35, 3) := by decide +kernel
theorem dX5_readStage_14 : decode cX5_readStage 14 = .ok (.aload_n 1, 1) := by decide +kernel
theorem dX5_readStage_15 : decode cX5_readStage 15 = .ok (.iconst 0, 1) := by decide +kernel
theorem dX5_readStage_16 : decode cX5_readStage 16 = .ok (.invokevirtual 35, 3) := by decide +kernel
theorem dX5_readStage_19 : decode cX5_readStage 19 = .ok (.ifCond .eq 25, 3) := by decide +kernel
theorem dX5_readStage_22 : decode cX5_readStage 22 = .ok (.aload_n 0, 1) := by decide +kernel
theorem dX5_readStage_23 : decode cX5_readStage 23 = .ok (.aload_n 1, 1) := by decide +kernel
theorem dX5_readStage_24 : decode cX5_readStage 24 = .ok (.iload_n 2, 1) := by decide +kernel
theorem dX5_readStage_25 : decode cX5_readStage 25 = .ok (.invokevirtual 39, 3) := by decide +kernel
theorem dX5_readStage_28 : decode cX5_readStage 28 = .ok (.ifCond .eq 16, 3) := by decide +kernel
theorem dX5_readStage_31 : decode cX5_readStage 31 = .ok (.aload_n 0, 1) := by decide +kernel
theorem dX5_readStage_32 : decode cX5_readStage 32 = .ok (.aload_n 1, 1) := by decide +kernel
theorem dX5_readStage_33 : decode cX5_readStage 33 = .ok (.iload_n 2, 1) := by decide +kernel
theorem dX5_readStage_34 : decode cX5_readStage 34 = .ok (.invokevirtual 43, 3) := by decide +kernel
theorem dX5_readStage_37 : decode cX5_readStage 37 = .ok (.ifCond .eq 7, 3) := by decide +kernel
theorem dX5_readStage_40 : decode cX5_readStage 40 = .ok (.iconst 1, 1) := by decide +kernel
theorem dX5_readStage_41 : decode cX5_readStage 41 = .ok (.goto 4, 3) := by decide +kernel
theorem dX5_readStage_44 : decode cX5_readStage 44 = .ok (.iconst 0, 1) := by decide +kernel
theorem dX5_readStage_45 : decode cX5_readStage 45 = .ok (.ireturn, 1) := by decide +kernel
theorem dX5_readStage_46 : decode cX5_readStage 46 = .ok (.aload_n 0, 1) := by decide +kernel
theorem dX5_readStage_47 : decode cX5_readStage 47 = .ok (.bipush 118, 2) := by decide +kernel
theorem dX5_readStage_49 : decode cX5_readStage 49 = .ok (.invokevirtual 31, 3) := by decide +kernel
theorem dX5_readStage_52 : decode cX5_readStage 52 = .ok (.ifCond .eq 35, 3) := by decide +kernel
theorem dX5_readStage_55 : decode cX5_readStage 55 = .ok (.aload_n 1, 1) := by decide +kernel
theorem dX5_readStage_56 : decode cX5_readStage 56 = .ok (.iconst 1, 1) := by decide +kernel
theorem dX5_readStage_57 : decode cX5_readStage 57 = .ok (.invokevirtual 35, 3) := by decide +kernel
theorem dX5_readStage_60 : decode cX5_readStage 60 = .ok (.ifCond .eq 25, 3) := by decide +kernel
theorem dX5_readStage_63 : decode cX5_readStage 63 = .ok (.aload_n 0, 1) := by decide +kernel
theorem dX5_readStage_64 : decode cX5_readStage 64 = .ok (.aload_n 1, 1) := by decide +kernel
theorem dX5_readStage_65 : decode cX5_readStage 65 = .ok (.iload_n 2, 1) := by decide +kernel
theorem dX5_readStage_66 : decode cX5_readStage 66 = .ok (.invokevirtual 39, 3) := by decide +kernel
theorem dX5_readStage_69 : decode cX5_readStage 69 = .ok (.ifCond .eq 16, 3) := by decide +kernel
theorem dX5_readStage_72 : decode cX5_readStage 72 = .ok (.aload_n 0, 1) := by decide +kernel
theorem dX5_readStage_73 : decode cX5_readStage 73 = .ok (.aload_n 1, 1) := by decide +kernel
theorem dX5_readStage_74 : decode cX5_readStage 74 = .ok (.iload_n 2, 1) := by decide +kernel
theorem dX5_readStage_75 : decode cX5_readStage 75 = .ok (.invokevirtual 43, 3) := by decide +kernel
theorem dX5_readStage_78 : decode cX5_readStage 78 = .ok (.ifCond .eq 7, 3) := by decide +kernel
theorem dX5_readStage_81 : decode cX5_readStage 81 = .ok (.iconst 1, 1) := by decide +kernel
theorem dX5_readStage_82 : decode cX5_readStage 82 = .ok (.goto 4, 3) := by decide +kernel
theorem dX5_readStage_85 : decode cX5_readStage 85 = .ok (.iconst 0, 1) := by decide +kernel
theorem dX5_readStage_86 : decode cX5_readStage 86 = .ok (.ireturn, 1) := by decide +kernel
theorem dX5_readStage_87 : decode cX5_readStage 87 = .ok (.aload_n 0, 1) := by decide +kernel
theorem dX5_readStage_88 : decode cX5_readStage 88 = .ok (.bipush 114, 2) := by decide +kernel
theorem dX5_readStage_90 : decode cX5_readStage 90 = .ok (.invokevirtual 31, 3) := by decide +kernel
theorem dX5_readStage_93 : decode cX5_readStage 93 = .ok (.ifCond .eq 33, 3) := by decide +kernel
theorem dX5_readStage_96 : decode cX5_readStage 96 = .ok (.aload_n 1, 1) := by decide +kernel
theorem dX5_readStage_97 : decode cX5_readStage 97 = .ok (.iconst 2, 1) := by decide +kernel
theorem dX5_readStage_98 : decode cX5_readStage 98 = .ok (.invokevirtual 35, 3) := by decide +kernel
theorem dX5_readStage_101 : decode cX5_readStage 101 = .ok (.ifCond .eq 25, 3) := by decide +kernel
theorem dX5_readStage_104 : decode cX5_readStage 104 = .ok (.aload_n 0, 1) := by decide +kernel
theorem dX5_readStage_105 : decode cX5_readStage 105 = .ok (.aload_n 1, 1) := by decide +kernel
theorem dX5_readStage_106 : decode cX5_readStage 106 = .ok (.iload_n 2, 1) := by decide +kernel
theorem dX5_readStage_107 : decode cX5_readStage 107 = .ok (.invokevirtual 46, 3) := by decide +kernel
theorem dX5_readStage_110 : decode cX5_readStage 110 = .ok (.ifCond .eq 16, 3) := by decide +kernel
theorem dX5_readStage_113 : decode cX5_readStage 113 = .ok (.aload_n 0, 1) := by decide +kernel
theorem dX5_readStage_114 : decode cX5_readStage 114 = .ok (.aload_n 1, 1) := by decide +kernel
theorem dX5_readStage_115 : decode cX5_readStage 115 = .ok (.iload_n 2, 1) := by decide +kernel
theorem dX5_readStage_116 : decode cX5_readStage 116 = .ok (.invokevirtual 43, 3) := by decide +kernel
theorem dX5_readStage_119 : decode cX5_readStage 119 = .ok (.ifCond .eq 7, 3) := by decide +kernel
theorem dX5_readStage_122 : decode cX5_readStage 122 = .ok (.iconst 1, 1) := by decide +kernel
theorem dX5_readStage_123 : decode cX5_readStage 123 = .ok (.goto 4, 3) := by decide +kernel
theorem dX5_readStage_126 : decode cX5_readStage 126 = .ok (.iconst 0, 1) := by decide +kernel
theorem dX5_readStage_127 : decode cX5_readStage 127 = .ok (.ireturn, 1) := by decide +kernel
set_option maxRecDepth 20000 in
theorem ggX5_readPair_X5_readFirst : GoodIn wsX5_readPair wsX5_readFirst := goodIn_r _ [6, 7, 8, 9, 10, 5, 11, 12, 13, 14, 15, 16, 17, 18, 23, 24, 25, 26, 27, 28, 29, 30] (by decide +kernel) (by decide +kernel)
set_option maxRecDepth 20000 in
theorem gX5_readPair_X5_readFirst : GoodIn wsX5_readPair (wsV RX5 46 RX5 yX5_readFirst wsX5_readFirst) := goodIn_app (goodIn_of _ (by decide +kernel)) ggX5_readPair_X5_readFirst
set_option maxRecDepth 20000 in
theorem ggX5_readPair_X5_accepts : GoodIn wsX5_readPair wsX5_accepts := goodIn_r _ [22, 13, 18, 12, 28, 29, 30] (by decide +kernel) (by decide +kernel)
set_option maxRecDepth 20000 in
theorem gX5_readPair_X5_accepts : GoodIn wsX5_readPair (wsV RX5 31 RX5 yX5_accepts wsX5_accepts) := goodIn_app (goodIn_of _ (by decide +kernel)) ggX5_readPair_X5_accepts
set_option maxRecDepth 20000 in
theorem ggX5_readPair_X5_readNumber : GoodIn wsX5_readPair wsX5_readNumber := goodIn_r _ [11, 12, 13, 14, 15, 16, 5, 17, 18, 28, 29, 30] (by decide +kernel) (by decide +kernel)
set_option maxRecDepth 20000 in
theorem gX5_readPair_X5_readNumber : GoodIn wsX5_readPair (wsV RX5 49 RX5 yX5_readNumber wsX5_readNumber) := goodIn_app (goodIn_of _ (by decide +kernel)) ggX5_readPair_X5_readNumber
theorem dX5_readPair_0 : decode cX5_readPair 0 = .ok (.aload_n 0, 1) := by decide +kernel
theorem dX5_readPair_1 : decode cX5_readPair 1 = .ok (.aload_n 1, 1) := by decide +kernel
theorem dX5_readPair_2 : decode cX5_readPair 2 = .ok (.iload_n 2, 1) := by decide +kernel
theorem dX5_readPair_3 : decode cX5_readPair 3 = .ok (.invokevirtual 46, 3) := by decide +kernel
theorem dX5_readPair_6 : decode cX5_readPair 6 = .ok (.ifCond .eq 12, 3) := by decide +kernel
theorem dX5_readPair_9 : decode cX5_readPair 9 = .ok (.aload_n 0, 1) := by decide +kernel
theorem dX5_readPair_10 : decode cX5_readPair 10 = .ok (.bipush 58, 2) := by decide +kernel
theorem dX5_readPair_12 : decode cX5_readPair 12 = .ok (.invokevirtual 31, 3) := by decide +kernel
theorem dX5_readPair_15 : decode cX5_readPair 15 = .ok (.ifCond .ne 5, 3) := by decide +kernel
theorem dX5_readPair_18 : decode cX5_readPair 18 = .ok (.iconst 0, 1) := by decide +kernel
theorem dX5_readPair_19 : decode cX5_readPair 19 = .ok (.ireturn, 1) := by decide +kernel
theorem dX5_readPair_20 : decode cX5_readPair 20 = .ok (.aload_n 0, 1) := by decide +kernel
theorem dX5_readPair_21 : decode cX5_readPair 21 = .ok (.bipush 48, 2) := by decide +kernel
