theorem dL_puts_45 : decode cL_puts 45 = .ok (.iconst 0, 1) := by decide +kernel
theorem dL_puts_46 : decode cL_puts 46 = .ok (.istore_n 3, 1) := by decide +kernel
theorem dL_puts_47 : decode cL_puts 47 = .ok (.iinc 4 (-8), 3) := by decide +kernel
theorem dL_puts_50 : decode cL_puts 50 = .ok (.goto (-44), 3) := by decide +kernel
theorem dL_puts_53 : decode cL_puts 53 = .ok (.iload_n 3, 1) := by decide +kernel
theorem dL_puts_54 : decode cL_puts 54 = .ok (.ireturn, 1) := by decide +kernel
set_option maxRecDepth 20000 in
theorem ggL_readOf_X6_init : GoodIn wsL_readOf wsX6_init := goodIn_r _ [6, 7, 8, 9, 10, 11, 12, 13, 14, 15, 16, 17, 18, 19, 20, 21, 22, 23, 24, 25, 26, 27, 28, 29, 30, 31, 32, 33, 34, 35, 36, 37, 38, 39, 40, 41, 42, 43, 44, 45, 46, 47, 48, 49, 50, 51, 52, 53, 54, 55, 56, 57, 58, 59, 60, 61, 62, 63, 64, 65, 66, 67, 68, 69, 70, 71, 72, 73, 74, 75, 76, 77, 78, 79, 80, 81, 82, 83, 84, 85, 86, 87, 88, 89, 90, 91, 92, 93, 94, 95, 96, 97, 98, 99, 100, 240, 241, 242, 243, 244, 245, 246, 247, 248, 249, 250, 251, 233, 234, 235, 236, 237, 238, 239, 252, 253, 254, 255, 256, 257, 258, 259, 260, 261, 262, 263, 264, 265, 266, 267, 268, 269, 270, 271, 272, 273, 274] rfl (by decide +kernel)
set_option maxRecDepth 20000 in
theorem gL_readOf_X6_init : GoodIn wsL_readOf (wsX6_init) := ggL_readOf_X6_init
set_option maxRecDepth 20000 in
theorem ggL_readOf_L_puts : GoodIn wsL_readOf wsL_puts := goodIn_r _ [104, 105, 106, 107, 108, 3, 109, 24, 110, 111, 112, 113, 23, 114, 89, 92, 233, 234, 235, 236, 237, 238, 239, 254, 255, 256] rfl (by decide +kernel)
set_option maxRecDepth 20000 in
theorem gL_readOf_L_puts : GoodIn wsL_readOf (va_wsS RL 86 yL_puts wsL_puts) := goodIn_app (goodIn_of _ (by decide +kernel)) ggL_readOf_L_puts
set_option maxRecDepth 20000 in
theorem ggL_readOf_X6_readProfile : GoodIn wsL_readOf wsX6_readProfile := goodIn_r _ [118, 24, 28, 119, 13, 120, 20, 121, 122, 123, 124, 125, 23, 126, 90, 127, 89, 128, 129, 130, 131, 132, 133, 134, 135, 92, 136, 137, 138, 27, 139, 66, 67, 68, 69, 70, 140, 141, 142, 143, 144, 145, 146, 147, 148, 149, 150, 151, 152, 153, 154, 155, 156, 157, 158, 159, 160, 161, 162, 163, 164, 165, 166, 167, 168, 169, 170, 171, 3, 172, 173, 174, 175, 19, 176, 83, 85, 177, 178, 179, 180, 181, 182, 183, 12, 184, 33, 97, 98, 99, 100, 37, 39, 43, 44, 45, 46, 47, 48, 49, 50, 51, 185, 186, 187, 36, 188, 55, 56, 189, 57, 58, 59, 60, 61, 62, 190, 191, 192, 193, 194, 195, 196, 197, 42, 198, 74, 75, 76, 199, 77, 78, 200, 233, 234, 235, 236, 237, 238, 239, 254, 255, 256, 240, 241, 242, 243, 244, 245, 246, 247, 248, 249, 250, 251, 257, 258, 259, 260, 261, 252, 253, 262, 263, 264, 265, 266, 267, 268, 269, 270, 271, 272, 273, 274] rfl (by decide +kernel)
set_option maxRecDepth 20000 in
theorem gL_readOf_X6_readProfile : GoodIn wsL_readOf (wsV RL 90 RX6 yX6_readProfile wsX6_readProfile) := goodIn_app (goodIn_of _ (by decide +kernel)) ggL_readOf_X6_readProfile
set_option maxRecDepth 20000 in
theorem ggL_readOf_X6_count : GoodIn wsL_readOf wsX6_count := goodIn_r _ [204, 13, 205, 206, 207, 121, 122, 120, 208, 209, 210, 211, 212, 20, 213, 24, 110, 214, 215, 216, 36, 217, 56, 55, 218, 219, 220, 221, 222, 223, 224, 225, 226, 227, 228, 229, 230, 231, 12, 232, 44, 33, 171, 3, 172, 233, 234, 235, 236, 237, 238, 239, 240, 241, 242, 243, 244, 245, 246, 247, 248, 249, 250, 251, 262, 263, 264, 265, 266, 267, 268, 269, 257, 258, 259, 260, 261, 252, 253, 254, 255, 256] rfl (by decide +kernel)
set_option maxRecDepth 20000 in
theorem gL_readOf_X6_count : GoodIn wsL_readOf (wsV RL 19 RX6 yX6_count wsX6_count) := goodIn_app (goodIn_of _ (by decide +kernel)) ggL_readOf_X6_count
theorem dL_readOf_0 : decode cL_readOf 0 = .ok (.new 14, 3) := by decide +kernel
theorem dL_readOf_3 : decode cL_readOf 3 = .ok (.dup, 1) := by decide +kernel
theorem dL_readOf_4 : decode cL_readOf 4 = .ok (.invokespecial 85, 3) := by decide +kernel
theorem dL_readOf_7 : decode cL_readOf 7 = .ok (.astore 4, 2) := by decide +kernel
theorem dL_readOf_9 : decode cL_readOf 9 = .ok (.aload 4, 2) := by decide +kernel
theorem dL_readOf_11 : decode cL_readOf 11 = .ok (.lload_n 0, 1) := by decide +kernel
theorem dL_readOf_12 : decode cL_readOf 12 = .ok (.invokestatic 86, 3) := by decide +kernel
theorem dL_readOf_15 : decode cL_readOf 15 = .ok (.ifCond .eq 12, 3) := by decide +kernel
theorem dL_readOf_18 : decode cL_readOf 18 = .ok (.aload 4, 2) := by decide +kernel
theorem dL_readOf_20 : decode cL_readOf 20 = .ok (.lload_n 2, 1) := by decide +kernel
theorem dL_readOf_21 : decode cL_readOf 21 = .ok (.invokestatic 86, 3) := by decide +kernel
theorem dL_readOf_24 : decode cL_readOf 24 = .ok (.ifCond .ne 6, 3) := by decide +kernel
theorem dL_readOf_27 : decode cL_readOf 27 = .ok (.bipush (-99), 2) := by decide +kernel
theorem dL_readOf_29 : decode cL_readOf 29 = .ok (.ireturn, 1) := by decide +kernel
theorem dL_readOf_30 : decode cL_readOf 30 = .ok (.aload 4, 2) := by decide +kernel
theorem dL_readOf_32 : decode cL_readOf 32 = .ok (.invokevirtual 90, 3) := by decide +kernel
theorem dL_readOf_35 : decode cL_readOf 35 = .ok (.istore 5, 2) := by decide +kernel
theorem dL_readOf_37 : decode cL_readOf 37 = .ok (.aload 4, 2) := by decide +kernel
theorem dL_readOf_39 : decode cL_readOf 39 = .ok (.bipush 12, 2) := by decide +kernel
theorem dL_readOf_41 : decode cL_readOf 41 = .ok (.invokevirtual 19, 3) := by decide +kernel
theorem dL_readOf_44 : decode cL_readOf 44 = .ok (.iload 5, 2) := by decide +kernel
theorem dL_readOf_46 : decode cL_readOf 46 = .ok (.ifCond .ge 7, 3) := by decide +kernel
theorem dL_readOf_49 : decode cL_readOf 49 = .ok (.iconst 0, 1) := by decide +kernel
theorem dL_readOf_50 : decode cL_readOf 50 = .ok (.goto 4, 3) := by decide +kernel
theorem dL_readOf_53 : decode cL_readOf 53 = .ok (.iconst 1, 1) := by decide +kernel
theorem dL_readOf_54 : decode cL_readOf 54 = .ok (.if_icmp .ne 28, 3) := by decide +kernel
theorem dL_readOf_57 : decode cL_readOf 57 = .ok (.aload 4, 2) := by decide +kernel
theorem dL_readOf_59 : decode cL_readOf 59 = .ok (.iconst 2, 1) := by decide +kernel
theorem dL_readOf_60 : decode cL_readOf 60 = .ok (.invokevirtual 19, 3) := by decide +kernel
theorem dL_readOf_63 : decode cL_readOf 63 = .ok (.iload 5, 2) := by decide +kernel
theorem dL_readOf_65 : decode cL_readOf 65 = .ok (.ifCond .ge 7, 3) := by decide +kernel
theorem dL_readOf_68 : decode cL_readOf 68 = .ok (.iconst 0, 1) := by decide +kernel
theorem dL_readOf_69 : decode cL_readOf 69 = .ok (.goto 5, 3) := by decide +kernel
theorem dL_readOf_72 : decode cL_readOf 72 = .ok (.iload 5, 2) := by decide +kernel
theorem dL_readOf_74 : decode cL_readOf 74 = .ok (.if_icmp .ne 8, 3) := by decide +kernel
theorem dL_readOf_77 : decode cL_readOf 77 = .ok (.iload 5, 2) := by decide +kernel
theorem dL_readOf_79 : decode cL_readOf 79 = .ok (.goto 5, 3) := by decide +kernel
theorem dL_readOf_82 : decode cL_readOf 82 = .ok (.bipush (-98), 2) := by decide +kernel
theorem dL_readOf_84 : decode cL_readOf 84 = .ok (.ireturn, 1) := by decide +kernel
set_option maxRecDepth 20000 in
theorem gpL_texts_L_readOf_p0 : GoodIn wsL_texts [.code yL_readOf cL_readOf 6 (some .int)] := goodIn_r _ [34] rfl (by decide +kernel)
set_option maxRecDepth 20000 in
theorem gpL_texts_L_readOf_p1 : GoodIn wsL_texts wsL_readOf_r1 := goodIn_r _ [35, 36, 37, 38, 39, 40, 41, 42, 43, 44, 45, 46, 47, 48, 49, 50, 51, 52, 53, 54, 55, 56, 57, 58] rfl (by decide +kernel)
set_option maxRecDepth 20000 in
theorem gpL_texts_L_readOf_p2 : GoodIn wsL_texts wsL_readOf_r2 := goodIn_r _ [59, 60, 61, 62, 63, 64, 65, 66, 67, 68, 69, 70, 71, 72, 73, 74, 75, 76, 77, 78, 79, 80, 81, 82] rfl (by decide +kernel)
set_option maxRecDepth 20000 in
theorem gpL_texts_L_readOf_p3 : GoodIn wsL_texts wsL_readOf_r3 := goodIn_r _ [83, 84, 85, 86, 87, 88, 89, 90, 91, 92, 93, 94, 95, 96, 97, 98, 99, 100, 101, 102, 103, 104, 105, 106] rfl (by decide +kernel)
set_option maxRecDepth 20000 in
theorem gpL_texts_L_readOf_p4 : GoodIn wsL_texts wsL_readOf_r4 := goodIn_r _ [107, 108, 109, 110, 111, 112, 113, 114, 115, 116, 117, 118, 119, 120, 121, 122, 123, 124, 125, 126, 127, 128, 129, 130] rfl (by decide +kernel)
set_option maxRecDepth 20000 in
theorem gpL_texts_L_readOf_p5 : GoodIn wsL_texts wsL_readOf_r5 := goodIn_r _ [131, 132, 133, 134, 135, 136, 33, 137, 138, 139, 140, 141, 142, 143, 144, 145, 146, 147, 148, 149, 150, 151, 152, 153] rfl (by decide +kernel)
set_option maxRecDepth 20000 in
theorem gpL_texts_L_readOf_p6 : GoodIn wsL_texts wsL_readOf_r6 := goodIn_r _ [154, 155, 156, 157, 158, 159, 160, 161, 162, 163, 164, 165, 166, 167, 168, 169, 170, 171, 172, 173, 174, 175, 176, 177] rfl (by decide +kernel)
set_option maxRecDepth 20000 in
theorem gpL_texts_L_readOf_p7 : GoodIn wsL_texts wsL_readOf_r7 := goodIn_r _ [178, 179, 180, 181, 182, 183, 184, 185, 186, 187, 188, 189, 190, 191, 192, 193, 194, 195, 196, 197, 198, 199, 200, 201] rfl (by decide +kernel)
set_option maxRecDepth 20000 in
theorem gpL_texts_L_readOf_p8 : GoodIn wsL_texts wsL_readOf_r8 := goodIn_r _ [202, 203, 204, 205, 206, 207, 208, 209, 210, 211, 212, 213, 214, 215, 216, 217, 218, 219, 220, 221, 222, 223, 224, 225] rfl (by decide +kernel)
set_option maxRecDepth 20000 in
theorem gpL_texts_L_readOf_p9 : GoodIn wsL_texts wsL_readOf_r9 := goodIn_r _ [226, 227, 228, 229, 230, 231, 232, 233, 234, 235, 236, 237, 238, 239, 240, 241, 242, 243, 244, 245, 246, 247, 248, 249] rfl (by decide +kernel)
set_option maxRecDepth 20000 in
theorem gpL_texts_L_readOf_p10 : GoodIn wsL_texts wsL_readOf_r10 := goodIn_r _ [250, 251, 252, 253, 254, 255, 256, 257, 258, 259, 260, 261, 262, 263, 264, 265] rfl (by decide +kernel)
set_option maxRecDepth 20000 in
theorem gpL_texts_L_readOf_p11 : GoodIn wsL_texts wsX60 := goodIn_r _ [266, 267, 268, 269, 270, 271, 272] rfl (by decide +kernel)
set_option maxRecDepth 20000 in
theorem gpL_texts_L_readOf_p12 : GoodIn wsL_texts wsX40 := goodIn_r _ [273, 274, 275, 276, 277, 278, 279, 280, 281, 282, 283, 284] rfl (by decide +kernel)
set_option maxRecDepth 20000 in
theorem gpL_texts_L_readOf_p13 : GoodIn wsL_texts wsX10 := goodIn_r _ [285, 286] rfl (by decide +kernel)
set_option maxRecDepth 20000 in
theorem gpL_texts_L_readOf_p14 : GoodIn wsL_texts wsX50 := goodIn_r _ [287, 288, 289] rfl (by decide +kernel)
set_option maxRecDepth 20000 in
theorem gpL_texts_L_readOf_p15 : GoodIn wsL_texts wsX30 := goodIn_r _ [290, 291, 292, 293, 294] rfl (by decide +kernel)
set_option maxRecDepth 20000 in
theorem gpL_texts_L_readOf_p16 : GoodIn wsL_texts wsX00 := goodIn_r _ [295, 296, 297, 298, 299, 300, 301, 302] rfl (by decide +kernel)
set_option maxRecDepth 20000 in
theorem gpL_texts_L_readOf_p17 : GoodIn wsL_texts wsX20 := goodIn_r _ [303, 304, 305, 306, 307] rfl (by decide +kernel)
set_option maxRecDepth 20000 in
theorem ggL_texts_L_readOf : GoodIn wsL_texts wsL_readOf := (goodIn_app (a := [.code yL_readOf cL_readOf 6 (some .int)]) gpL_texts_L_readOf_p0 (goodIn_app (goodIn_app (goodIn_app (goodIn_app (goodIn_app (goodIn_app (goodIn_app (goodIn_app gpL_texts_L_readOf_p1 (goodIn_app gpL_texts_L_readOf_p2 (goodIn_app gpL_texts_L_readOf_p3 (goodIn_app gpL_texts_L_readOf_p4 (goodIn_app gpL_texts_L_readOf_p5 (goodIn_app gpL_texts_L_readOf_p6 (goodIn_app gpL_texts_L_readOf_p7 (goodIn_app gpL_texts_L_readOf_p8 (goodIn_app gpL_texts_L_readOf_p9 gpL_texts_L_readOf_p10))))))))) gpL_texts_L_readOf_p11) gpL_texts_L_readOf_p12) gpL_texts_L_readOf_p13) gpL_texts_L_readOf_p14) gpL_texts_L_readOf_p15) gpL_texts_L_readOf_p16) gpL_texts_L_readOf_p17))
set_option maxRecDepth 20000 in
theorem gL_texts_L_readOf : GoodIn wsL_texts (va_wsS RL 93 yL_readOf wsL_readOf) := goodIn_app (goodIn_of _ (by decide +kernel)) ggL_texts_L_readOf
theorem dL_texts_0 : decode cL_texts 0 = .ok (.lconst 0, 1) := by decide +kernel
theorem dL_texts_1 : decode cL_texts 1 = .ok (.lconst 0, 1) := by decide +kernel
theorem dL_texts_2 : decode cL_texts 2 = .ok (.invokestatic 93, 3) := by decide +kernel
theorem dL_texts_5 : decode cL_texts 5 = .ok (.bipush (-100), 2) := by decide +kernel
theorem dL_texts_7 : decode cL_texts 7 = .ok (.if_icmp .ne 139, 3) := by decide +kernel
theorem dL_texts_10 : decode cL_texts 10 = .ok (.ldc2_w 97, 3) := by decide +kernel
theorem dL_texts_13 : decode cL_texts 13 = .ok (.lconst 0, 1) := by decide +kernel
theorem dL_texts_14 : decode cL_texts 14 = .ok (.invokestatic 93, 3) := by decide +kernel
theorem dL_texts_17 : decode cL_texts 17 = .ok (.bipush (-101), 2) := by decide +kernel
theorem dL_texts_19 : decode cL_texts 19 = .ok (.if_icmp .ne 127, 3) := by decide +kernel
theorem dL_texts_22 : decode cL_texts 22 = .ok (.ldc2_w 99, 3) := by decide +kernel
theorem dL_texts_25 : decode cL_texts 25 = .ok (.lconst 0, 1) := by decide +kernel
theorem dL_texts_26 : decode cL_texts 26 = .ok (.invokestatic 93, 3) := by decide +kernel
theorem dL_texts_29 : decode cL_texts 29 = .ok (.bipush (-102), 2) := by decide +kernel
theorem dL_texts_31 : decode cL_texts 31 = .ok (.if_icmp .ne 115, 3) := by decide +kernel
theorem dL_texts_34 : decode cL_texts 34 = .ok (.ldc2_w 101, 3) := by decide +kernel
theorem dL_texts_37 : decode cL_texts 37 = .ok (.lconst 0, 1) := by decide +kernel
theorem dL_texts_38 : decode cL_texts 38 = .ok (.invokestatic 93, 3) := by decide +kernel
theorem dL_texts_41 : decode cL_texts 41 = .ok (.bipush (-103), 2) := by decide +kernel
theorem dL_texts_43 : decode cL_texts 43 = .ok (.if_icmp .ne 103, 3) := by decide +kernel
theorem dL_texts_46 : decode cL_texts 46 = .ok (.ldc2_w 103, 3) := by decide +kernel
theorem dL_texts_49 : decode cL_texts 49 = .ok (.lconst 0, 1) := by decide +kernel
theorem dL_texts_50 : decode cL_texts 50 = .ok (.invokestatic 93, 3) := by decide +kernel
theorem dL_texts_53 : decode cL_texts 53 = .ok (.iconst 1, 1) := by decide +kernel
theorem dL_texts_54 : decode cL_texts 54 = .ok (.if_icmp .ne 92, 3) := by decide +kernel
theorem dL_texts_57 : decode cL_texts 57 = .ok (.ldc2_w 105, 3) := by decide +kernel
theorem dL_texts_60 : decode cL_texts 60 = .ok (.lconst 0, 1) := by decide +kernel
theorem dL_texts_61 : decode cL_texts 61 = .ok (.invokestatic 93, 3) := by decide +kernel
theorem dL_texts_64 : decode cL_texts 64 = .ok (.bipush (-108), 2) := by decide +kernel
theorem dL_texts_66 : decode cL_texts 66 = .ok (.if_icmp .ne 80, 3) := by decide +kernel
theorem dL_texts_69 : decode cL_texts 69 = .ok (.ldc2_w 105, 3) := by decide +kernel
theorem dL_texts_72 : decode cL_texts 72 = .ok (.ldc2_w 107, 3) := by decide +kernel
theorem dL_texts_75 : decode cL_texts 75 = .ok (.invokestatic 93, 3) := by decide +kernel
theorem dL_texts_78 : decode cL_texts 78 = .ok (.bipush (-108), 2) := by decide +kernel
theorem dL_texts_80 : decode cL_texts 80 = .ok (.if_icmp .ne 66, 3) := by decide +kernel
theorem dL_texts_83 : decode cL_texts 83 = .ok (.ldc2_w 105, 3) := by decide +kernel
theorem dL_texts_86 : decode cL_texts 86 = .ok (.ldc2_w 109, 3) := by decide +kernel
theorem dL_texts_89 : decode cL_texts 89 = .ok (.invokestatic 93, 3) := by decide +kernel
theorem dL_texts_92 : decode cL_texts 92 = .ok (.iconst 1, 1) := by decide +kernel
theorem dL_texts_93 : decode cL_texts 93 = .ok (.if_icmp .ne 53, 3) := by decide +kernel
theorem dL_texts_96 : decode cL_texts 96 = .ok (.ldc2_w 111, 3) := by decide +kernel
theorem dL_texts_99 : decode cL_texts 99 = .ok (.lconst 0, 1) := by decide +kernel
theorem dL_texts_100 : decode cL_texts 100 = .ok (.invokestatic 93, 3) := by decide +kernel
theorem dL_texts_103 : decode cL_texts 103 = .ok (.bipush (-2), 2) := by decide +kernel
theorem dL_texts_105 : decode cL_texts 105 = .ok (.if_icmp .ne 41, 3) := by decide +kernel
theorem dL_texts_108 : decode cL_texts 108 = .ok (.ldc2_w 113, 3) := by decide +kernel
theorem dL_texts_111 : decode cL_texts 111 = .ok (.ldc2_w 115, 3) := by decide +kernel
theorem dL_texts_114 : decode cL_texts 114 = .ok (.invokestatic 93, 3) := by decide +kernel
theorem dL_texts_117 : decode cL_texts 117 = .ok (.bipush (-2), 2) := by decide +kernel
theorem dL_texts_119 : decode cL_texts 119 = .ok (.if_icmp .ne 27, 3) := by decide +kernel
theorem dL_texts_122 : decode cL_texts 122 = .ok (.ldc2_w 117, 3) := by decide +kernel
theorem dL_texts_125 : decode cL_texts 125 = .ok (.lconst 0, 1) := by decide +kernel
theorem dL_texts_126 : decode cL_texts 126 = .ok (.invokestatic 93, 3) := by decide +kernel
theorem dL_texts_129 : decode cL_texts 129 = .ok (.bipush (-2), 2) := by decide +kernel
theorem dL_texts_131 : decode cL_texts 131 = .ok (.if_icmp .ne 15, 3) := by decide +kernel
theorem dL_texts_134 : decode cL_texts 134 = .ok (.ldc2_w 119, 3) := by decide +kernel
theorem dL_texts_137 : decode cL_texts 137 = .ok (.lconst 0, 1) := by decide +kernel
theorem dL_texts_138 : decode cL_texts 138 = .ok (.invokestatic 93, 3) := by decide +kernel
theorem dL_texts_141 : decode cL_texts 141 = .ok (.bipush (-2), 2) := by decide +kernel
theorem dL_texts_143 : decode cL_texts 143 = .ok (.if_icmp .eq 5, 3) := by decide +kernel
theorem dL_texts_146 : decode cL_texts 146 = .ok (.iconst 0, 1) := by decide +kernel
theorem dL_texts_147 : decode cL_texts 147 = .ok (.ireturn, 1) := by decide +kernel
theorem dL_texts_148 : decode cL_texts 148 = .ok (.ldc2_w 121, 3) := by decide +kernel
theorem dL_texts_151 : decode cL_texts 151 = .ok (.lconst 0, 1) := by decide +kernel
theorem dL_texts_152 : decode cL_texts 152 = .ok (.invokestatic 93, 3) := by decide +kernel
theorem dL_texts_155 : decode cL_texts 155 = .ok (.iconst 1, 1) := by decide +kernel
theorem dL_texts_156 : decode cL_texts 156 = .ok (.if_icmp .ne 135, 3) := by decide +kernel
theorem dL_texts_159 : decode cL_texts 159 = .ok (.ldc2_w 123, 3) := by decide +kernel
theorem dL_texts_162 : decode cL_texts 162 = .ok (.ldc2_w 125, 3) := by decide +kernel
theorem dL_texts_165 : decode cL_texts 165 = .ok (.invokestatic 93, 3) := by decide +kernel
theorem dL_texts_168 : decode cL_texts 168 = .ok (.bipush (-2), 2) := by decide +kernel
theorem dL_texts_170 : decode cL_texts 170 = .ok (.if_icmp .ne 121, 3) := by decide +kernel
theorem dL_texts_173 : decode cL_texts 173 = .ok (.ldc2_w 127, 3) := by decide +kernel
theorem dL_texts_176 : decode cL_texts 176 = .ok (.lconst 0, 1) := by decide +kernel
theorem dL_texts_177 : decode cL_texts 177 = .ok (.invokestatic 93, 3) := by decide +kernel
theorem dL_texts_180 : decode cL_texts 180 = .ok (.bipush (-2), 2) := by decide +kernel
theorem dL_texts_182 : decode cL_texts 182 = .ok (.if_icmp .ne 109, 3) := by decide +kernel
theorem dL_texts_185 : decode cL_texts 185 = .ok (.ldc2_w 129, 3) := by decide +kernel
theorem dL_texts_188 : decode cL_texts 188 = .ok (.lconst 0, 1) := by decide +kernel
theorem dL_texts_189 : decode cL_texts 189 = .ok (.invokestatic 93, 3) := by decide +kernel
theorem dL_texts_192 : decode cL_texts 192 = .ok (.iconst 1, 1) := by decide +kernel
theorem dL_texts_193 : decode cL_texts 193 = .ok (.if_icmp .ne 98, 3) := by decide +kernel
theorem dL_texts_196 : decode cL_texts 196 = .ok (.ldc2_w 131, 3) := by decide +kernel
theorem dL_texts_199 : decode cL_texts 199 = .ok (.lconst 0, 1) := by decide +kernel
theorem dL_texts_200 : decode cL_texts 200 = .ok (.invokestatic 93, 3) := by decide +kernel
theorem dL_texts_203 : decode cL_texts 203 = .ok (.bipush (-2), 2) := by decide +kernel
theorem dL_texts_205 : decode cL_texts 205 = .ok (.if_icmp .ne 86, 3) := by decide +kernel
theorem dL_texts_208 : decode cL_texts 208 = .ok (.ldc2_w 133, 3) := by decide +kernel
theorem dL_texts_211 : decode cL_texts 211 = .ok (.lconst 0, 1) := by decide +kernel
theorem dL_texts_212 : decode cL_texts 212 = .ok (.invokestatic 93, 3) := by decide +kernel
theorem dL_texts_215 : decode cL_texts 215 = .ok (.bipush (-105), 2) := by decide +kernel
theorem dL_texts_217 : decode cL_texts 217 = .ok (.if_icmp .ne 74, 3) := by decide +kernel
theorem dL_texts_220 : decode cL_texts 220 = .ok (.ldc2_w 135, 3) := by decide +kernel
theorem dL_texts_223 : decode cL_texts 223 = .ok (.lconst 0, 1) := by decide +kernel
theorem dL_texts_224 : decode cL_texts 224 = .ok (.invokestatic 93, 3) := by decide +kernel
theorem dL_texts_227 : decode cL_texts 227 = .ok (.bipush (-102), 2) := by decide +kernel
theorem dL_texts_229 : decode cL_texts 229 = .ok (.if_icmp .ne 62, 3) := by decide +kernel
theorem dL_texts_232 : decode cL_texts 232 = .ok (.ldc2_w 137, 3) := by decide +kernel
theorem dL_texts_235 : decode cL_texts 235 = .ok (.lconst 0, 1) := by decide +kernel
theorem dL_texts_236 : decode cL_texts 236 = .ok (.invokestatic 93, 3) := by decide +kernel
theorem dL_texts_239 : decode cL_texts 239 = .ok (.bipush (-2), 2) := by decide +kernel
theorem dL_texts_241 : decode cL_texts 241 = .ok (.if_icmp .ne 50, 3) := by decide +kernel
theorem dL_texts_244 : decode cL_texts 244 = .ok (.ldc2_w 139, 3) := by decide +kernel
theorem dL_texts_247 : decode cL_texts 247 = .ok (.lconst 0, 1) := by decide +kernel
theorem dL_texts_248 : decode cL_texts 248 = .ok (.invokestatic 93, 3) := by decide +kernel
theorem dL_texts_251 : decode cL_texts 251 = .ok (.iconst 1, 1) := by decide +kernel
theorem dL_texts_252 : decode cL_texts 252 = .ok (.if_icmp .ne 39, 3) := by decide +kernel
theorem dL_texts_255 : decode cL_texts 255 = .ok (.ldc2_w 141, 3) := by decide +kernel
theorem dL_texts_258 : decode cL_texts 258 = .ok (.lconst 0, 1) := by decide +kernel
theorem dL_texts_259 : decode cL_texts 259 = .ok (.invokestatic 93, 3) := by decide +kernel
theorem dL_texts_262 : decode cL_texts 262 = .ok (.bipush (-100), 2) := by decide +kernel
theorem dL_texts_264 : decode cL_texts 264 = .ok (.if_icmp .ne 27, 3) := by decide +kernel
theorem dL_texts_267 : decode cL_texts 267 = .ok (.ldc2_w 143, 3) := by decide +kernel
theorem dL_texts_270 : decode cL_texts 270 = .ok (.lconst 0, 1) := by decide +kernel
theorem dL_texts_271 : decode cL_texts 271 = .ok (.invokestatic 93, 3) := by decide +kernel
theorem dL_texts_274 : decode cL_texts 274 = .ok (.bipush (-103), 2) := by decide +kernel
theorem dL_texts_276 : decode cL_texts 276 = .ok (.if_icmp .ne 15, 3) := by decide +kernel
theorem dL_texts_279 : decode cL_texts 279 = .ok (.ldc2_w 145, 3) := by decide +kernel
theorem dL_texts_282 : decode cL_texts 282 = .ok (.lconst 0, 1) := by decide +kernel
theorem dL_texts_283 : decode cL_texts 283 = .ok (.invokestatic 93, 3) := by decide +kernel
theorem dL_texts_286 : decode cL_texts 286 = .ok (.bipush (-103), 2) := by decide +kernel
theorem dL_texts_288 : decode cL_texts 288 = .ok (.if_icmp .eq 5, 3) := by decide +kernel
theorem dL_texts_291 : decode cL_texts 291 = .ok (.iconst 0, 1) := by decide +kernel
theorem dL_texts_292 : decode cL_texts 292 = .ok (.ireturn, 1) := by decide +kernel
theorem dL_texts_293 : decode cL_texts 293 = .ok (.ldc2_w 147, 3) := by decide +kernel
theorem dL_texts_296 : decode cL_texts 296 = .ok (.ldc2_w 149, 3) := by decide +kernel
theorem dL_texts_299 : decode cL_texts 299 = .ok (.invokestatic 93, 3) := by decide +kernel
theorem dL_texts_302 : decode cL_texts 302 = .ok (.iconst 5, 1) := by decide +kernel
theorem dL_texts_303 : decode cL_texts 303 = .ok (.if_icmp .ne 45, 3) := by decide +kernel
theorem dL_texts_306 : decode cL_texts 306 = .ok (.ldc2_w 147, 3) := by decide +kernel
theorem dL_texts_309 : decode cL_texts 309 = .ok (.ldc2_w 151, 3) := by decide +kernel
theorem dL_texts_312 : decode cL_texts 312 = .ok (.invokestatic 93, 3) := by decide +kernel
theorem dL_texts_315 : decode cL_texts 315 = .ok (.bipush (-114), 2) := by decide +kernel
theorem dL_texts_317 : decode cL_texts 317 = .ok (.if_icmp .ne 31, 3) := by decide +kernel
theorem dL_texts_320 : decode cL_texts 320 = .ok (.ldc2_w 153, 3) := by decide +kernel
theorem dL_texts_323 : decode cL_texts 323 = .ok (.lconst 0, 1) := by decide +kernel
theorem dL_texts_324 : decode cL_texts 324 = .ok (.invokestatic 93, 3) := by decide +kernel
theorem dL_texts_327 : decode cL_texts 327 = .ok (.bipush (-102), 2) := by decide +kernel
theorem dL_texts_329 : decode cL_texts 329 = .ok (.if_icmp .ne 19, 3) := by decide +kernel
theorem dL_texts_332 : decode cL_texts 332 = .ok (.ldc2_w 155, 3) := by decide +kernel
theorem dL_texts_335 : decode cL_texts 335 = .ok (.lconst 0, 1) := by decide +kernel
theorem dL_texts_336 : decode cL_texts 336 = .ok (.invokestatic 93, 3) := by decide +kernel
theorem dL_texts_339 : decode cL_texts 339 = .ok (.bipush (-105), 2) := by decide +kernel
theorem dL_texts_341 : decode cL_texts 341 = .ok (.if_icmp .ne 7, 3) := by decide +kernel
theorem dL_texts_344 : decode cL_texts 344 = .ok (.iconst 1, 1) := by decide +kernel
theorem dL_texts_345 : decode cL_texts 345 = .ok (.goto 4, 3) := by decide +kernel
theorem dL_texts_348 : decode cL_texts 348 = .ok (.iconst 0, 1) := by decide +kernel
theorem dL_texts_349 : decode cL_texts 349 = .ok (.ireturn, 1) := by decide +kernel
set_option maxRecDepth 20000 in
theorem ggL_stages_X6_init : GoodIn wsL_stages wsX6_init := goodIn_r _ [11, 12, 13, 14, 15, 16, 17, 18, 19, 20, 21, 22, 23, 24, 25, 26, 27, 28, 29, 30, 31, 32, 33, 34, 35, 36, 37, 38, 39, 40, 41, 42, 43, 44, 45, 46, 47, 48, 49, 50, 51, 52, 53, 54, 55, 56, 57, 58, 59, 60, 61, 62, 63, 64, 65, 66, 67, 68, 69, 70, 71, 72, 73, 74, 75, 76, 77, 78, 79, 80, 81, 82, 83, 84, 85, 86, 87, 88, 89, 90, 91, 92, 93, 94, 95, 96, 97, 98, 99, 100, 101, 102, 103, 104, 105, 476, 477, 478, 479, 480, 481, 482, 483, 484, 485, 486, 487, 469, 470, 471, 472, 473, 474, 475, 488, 489, 490, 491, 492, 493, 494, 495, 496, 497, 498, 499, 500, 501, 502, 503, 504, 505, 506, 507, 508, 509, 510] rfl (by decide +kernel)
set_option maxRecDepth 20000 in
theorem gL_stages_X6_init : GoodIn wsL_stages (wsX6_init) := ggL_stages_X6_init
set_option maxRecDepth 20000 in
theorem ggL_stages_X6_start : GoodIn wsL_stages wsX6_start := goodIn_r _ [109, 18, 110, 111, 112, 25, 113, 114, 115, 24, 116, 88, 90, 117, 118, 119, 120, 121, 122, 123, 17, 124, 38, 102, 103, 104, 105, 42, 44, 48, 49, 50, 51, 52, 53, 54, 55, 56, 125, 126, 127, 41, 128, 60, 61, 129, 62, 63, 64, 65, 66, 67, 130, 131, 132, 32, 133, 71, 72, 134, 73, 74, 75, 135, 136, 137, 47, 138, 79, 80, 81, 139, 82, 83, 140, 141, 142, 143, 144, 145, 146, 147, 148, 149, 150, 151, 469, 470, 471, 472, 473, 474, 475, 476, 477, 478, 479, 480, 481, 482, 483, 484, 485, 486, 487, 493, 494, 495, 496, 497, 488, 489, 498, 499, 500, 501, 502, 503, 504, 505, 506, 507, 508, 509, 510] rfl (by decide +kernel)
set_option maxRecDepth 20000 in
theorem gL_stages_X6_start : GoodIn wsL_stages (wsV RL 65 RX6 yX6_start wsX6_start) := goodIn_app (goodIn_of _ (by decide +kernel)) ggL_stages_X6_start
set_option maxRecDepth 20000 in
theorem ggL_stages_X6_stop : GoodIn wsL_stages wsX6_stop := goodIn_r _ [155, 18, 110, 25, 113, 114, 115, 24, 116, 88, 90, 117, 118, 119, 120, 121, 122, 123, 17, 124, 38, 102, 103, 104, 105, 42, 44, 48, 49, 50, 51, 52, 53, 54, 55, 56, 125, 126, 127, 41, 128, 60, 61, 129, 62, 63, 64, 65, 66, 67, 130, 131, 132, 32, 133, 71, 72, 134, 73, 74, 75, 135, 136, 137, 47, 138, 79, 80, 81, 139, 82, 83, 469, 470, 471, 472, 473, 474, 475, 476, 477, 478, 479, 480, 481, 482, 483, 484, 485, 486, 487, 488, 489, 498, 499, 500, 501, 502, 503, 504, 505, 493, 494, 495, 496, 497, 506, 507, 508, 509, 510] rfl (by decide +kernel)
set_option maxRecDepth 20000 in
theorem gL_stages_X6_stop : GoodIn wsL_stages (wsV RL 68 RX6 yX6_stop wsX6_stop) := goodIn_app (goodIn_of _ (by decide +kernel)) ggL_stages_X6_stop
set_option maxRecDepth 20000 in
theorem ggL_stages_X6_undo : GoodIn wsL_stages wsX6_undo := goodIn_r _ [159, 25, 160, 18, 161, 162, 163, 24, 164, 88, 90, 121, 122, 123, 17, 124, 38, 102, 103, 104, 105, 42, 44, 48, 49, 50, 51, 52, 53, 54, 55, 56, 125, 126, 127, 41, 128, 60, 61, 129, 62, 63, 64, 65, 66, 67, 130, 131, 132, 32, 133, 71, 72, 134, 73, 74, 75, 135, 136, 137, 47, 138, 79, 80, 81, 139, 82, 83, 469, 470, 471, 472, 473, 474, 475, 488, 489, 476, 477, 478, 479, 480, 481, 482, 483, 484, 485, 486, 487, 498, 499, 500, 501, 502, 503, 504, 505, 493, 494, 495, 496, 497, 506, 507, 508, 509, 510] rfl (by decide +kernel)
set_option maxRecDepth 20000 in
theorem gL_stages_X6_undo : GoodIn wsL_stages (wsV RL 157 RX6 yX6_undo wsX6_undo) := goodIn_app (goodIn_of _ (by decide +kernel)) ggL_stages_X6_undo
set_option maxRecDepth 20000 in
theorem ggL_stages_X6_restore : GoodIn wsL_stages wsX6_restore := goodIn_r _ [168, 21, 25, 18, 20, 169, 113, 114, 115, 24, 116, 88, 90, 117, 118, 119, 120, 121, 122, 123, 17, 124, 38, 102, 103, 104, 105, 42, 44, 48, 49, 50, 51, 52, 53, 54, 55, 56, 125, 126, 127, 41, 128, 60, 61, 129, 62, 63, 64, 65, 66, 67, 130, 131, 132, 32, 133, 71, 72, 134, 73, 74, 75, 135, 136, 137, 47, 138, 79, 80, 81, 139, 82, 83, 170, 469, 470, 471, 472, 473, 474, 475, 476, 477, 478, 479, 480, 481, 482, 483, 484, 485, 486, 487, 488, 489, 498, 499, 500, 501, 502, 503, 504, 505, 493, 494, 495, 496, 497, 506, 507, 508, 509, 510] rfl (by decide +kernel)
set_option maxRecDepth 20000 in
theorem gL_stages_X6_restore : GoodIn wsL_stages (wsV RL 160 RX6 yX6_restore wsX6_restore) := goodIn_app (goodIn_of _ (by decide +kernel)) ggL_stages_X6_restore
set_option maxRecDepth 20000 in
theorem ggL_stages_X6_doneIn : GoodIn wsL_stages wsX6_doneIn := goodIn_r _ [174, 18, 110, 19, 170, 122, 123, 17, 124, 38, 102, 103, 104, 105, 42, 44, 48, 49, 50, 51, 52, 53, 54, 55, 56, 125, 126, 127, 41, 128, 60, 61, 129, 62, 63, 64, 65, 66, 67, 130, 131, 132, 32, 133, 71, 72, 134, 73, 74, 75, 135, 136, 137, 47, 138, 79, 80, 81, 139, 82, 83, 175, 176, 177, 178, 179, 180, 181, 182, 183, 3, 184, 185, 186, 187, 188, 189, 190, 191, 192, 148, 149, 150, 151, 193, 194, 195, 196, 197, 198, 199, 200, 201, 202, 203, 204, 205, 206, 207, 208, 209, 210, 211, 212, 213, 214, 215, 216, 217, 218, 219, 220, 221, 222, 223, 224, 225, 226, 227, 228, 229, 230, 231, 232, 233, 234, 235, 236, 237, 238, 239, 240, 241, 242, 243, 244, 245, 246, 247, 248, 144, 145, 146, 147, 249, 250, 251, 252, 253, 254, 255, 256, 257, 258, 259, 260, 261, 262, 469, 470, 471, 472, 473, 474, 475, 476, 477, 478, 479, 480, 481, 482, 483, 484, 485, 486, 487, 498, 499, 500, 501, 502, 503, 504, 505, 493, 494, 495, 496, 497, 506, 507, 508, 509, 510] rfl (by decide +kernel)
set_option maxRecDepth 20000 in
theorem gL_stages_X6_doneIn : GoodIn wsL_stages (wsV RL 36 RX6 yX6_doneIn wsX6_doneIn) := goodIn_app (goodIn_of _ (by decide +kernel)) ggL_stages_X6_doneIn
set_option maxRecDepth 20000 in
theorem ggL_stages_X6_warmest : GoodIn wsL_stages wsX6_warmest := goodIn_r _ [266, 18, 110, 267, 19, 170, 122, 123, 17, 124, 38, 102, 103, 104, 105, 42, 44, 48, 49, 50, 51, 52, 53, 54, 55, 56, 125, 126, 127, 41, 128, 60, 61, 129, 62, 63, 64, 65, 66, 67, 130, 131, 132, 32, 133, 71, 72, 134, 73, 74, 75, 135, 136, 137, 47, 138, 79, 80, 81, 139, 82, 83, 175, 176, 177, 178, 179, 180, 181, 182, 183, 3, 184, 185, 186, 187, 188, 189, 190, 191, 192, 148, 149, 150, 151, 193, 194, 195, 196, 197, 198, 199, 200, 201, 202, 203, 204, 205, 206, 207, 208, 209, 210, 211, 212, 213, 214, 215, 216, 217, 218, 219, 220, 221, 222, 223, 224, 225, 226, 227, 228, 229, 230, 231, 232, 233, 234, 235, 236, 237, 238, 239, 240, 241, 242, 243, 244, 245, 246, 247, 248, 144, 145, 146, 147, 249, 250, 251, 252, 253, 254, 255, 256, 257, 258, 259, 260, 261, 262, 469, 470, 471, 472, 473, 474, 475, 476, 477, 478, 479, 480, 481, 482, 483, 484, 485, 486, 487, 498, 499, 500, 501, 502, 503, 504, 505, 493, 494, 495, 496, 497, 506, 507, 508, 509, 510] rfl (by decide +kernel)
set_option maxRecDepth 20000 in
theorem gL_stages_X6_warmest : GoodIn wsL_stages (wsV RL 62 RX6 yX6_warmest wsX6_warmest) := goodIn_app (goodIn_of _ (by decide +kernel)) ggL_stages_X6_warmest
set_option maxRecDepth 20000 in
theorem ggL_stages_X6_battery : GoodIn wsL_stages wsX6_battery := goodIn_r _ [271, 18, 272, 273, 25, 110, 113, 114, 115, 24, 116, 88, 90, 117, 118, 119, 120, 121, 122, 123, 17, 124, 38, 102, 103, 104, 105, 42, 44, 48, 49, 50, 51, 52, 53, 54, 55, 56, 125, 126, 127, 41, 128, 60, 61, 129, 62, 63, 64, 65, 66, 67, 130, 131, 132, 32, 133, 71, 72, 134, 73, 74, 75, 135, 136, 137, 47, 138, 79, 80, 81, 139, 82, 83, 274, 275, 276, 277, 258, 235, 226, 236, 224, 225, 227, 469, 470, 471, 472, 473, 474, 475, 476, 477, 478, 479, 480, 481, 482, 483, 484, 485, 486, 487, 498, 499, 500, 501, 502, 503, 504, 505, 488, 489, 493, 494, 495, 496, 497, 506, 507, 508, 509, 510] rfl (by decide +kernel)
set_option maxRecDepth 20000 in
theorem gL_stages_X6_battery : GoodIn wsL_stages (wsV RL 39 RX6 yX6_battery wsX6_battery) := goodIn_app (goodIn_of _ (by decide +kernel)) ggL_stages_X6_battery
set_option maxRecDepth 20000 in
theorem ggL_stages_X6_set : GoodIn wsL_stages wsX6_set := goodIn_r _ [281, 282, 283, 18, 267, 25, 284, 285, 3, 286, 287, 288, 289, 17, 290, 42, 38, 220, 221, 222, 41, 223, 61, 60, 224, 225, 226, 227, 113, 114, 115, 24, 116, 88, 90, 117, 118, 119, 120, 121, 122, 123, 124, 102, 103, 104, 105, 44, 48, 49, 50, 51, 52, 53, 54, 55, 56, 125, 126, 127, 128, 129, 62, 63, 64, 65, 66, 67, 130, 131, 132, 32, 133, 71, 72, 134, 73, 74, 75, 135, 136, 137, 47, 138, 79, 80, 81, 139, 82, 83, 469, 470, 471, 472, 473, 474, 475, 476, 477, 478, 479, 480, 481, 482, 483, 484, 485, 486, 487, 498, 499, 500, 501, 502, 503, 504, 505, 488, 489, 493, 494, 495, 496, 497, 506, 507, 508, 509, 510] rfl (by decide +kernel)
set_option maxRecDepth 20000 in
theorem gL_stages_X6_set : GoodIn wsL_stages (wsV RL 50 RX6 yX6_set wsX6_set) := goodIn_app (goodIn_of _ (by decide +kernel)) ggL_stages_X6_set
set_option maxRecDepth 20000 in
theorem ggL_stages_L_puts : GoodIn wsL_stages wsL_puts := goodIn_r _ [294, 295, 296, 297, 298, 3, 299, 29, 300, 301, 302, 303, 28, 304, 94, 97, 469, 470, 471, 472, 473, 474, 475, 490, 491, 492] rfl (by decide +kernel)
set_option maxRecDepth 20000 in
theorem gL_stages_L_puts : GoodIn wsL_stages (va_wsS RL 86 yL_puts wsL_puts) := goodIn_app (goodIn_of _ (by decide +kernel)) ggL_stages_L_puts
set_option maxRecDepth 20000 in
theorem ggL_stages_X6_readProfile : GoodIn wsL_stages wsX6_readProfile := goodIn_r _ [308, 29, 33, 309, 18, 110, 25, 111, 112, 310, 311, 312, 28, 313, 95, 314, 94, 315, 316, 317, 318, 319, 320, 321, 322, 97, 323, 324, 325, 32, 326, 71, 72, 73, 74, 75, 327, 328, 329, 330, 331, 332, 333, 334, 335, 336, 337, 338, 339, 340, 341, 342, 343, 344, 345, 346, 347, 348, 349, 350, 351, 352, 353, 354, 355, 356, 357, 183, 3, 184, 113, 114, 115, 24, 116, 88, 90, 117, 118, 119, 120, 121, 122, 123, 17, 124, 38, 102, 103, 104, 105, 42, 44, 48, 49, 50, 51, 52, 53, 54, 55, 56, 125, 126, 127, 41, 128, 60, 61, 129, 62, 63, 64, 65, 66, 67, 130, 131, 132, 133, 134, 135, 136, 137, 47, 138, 79, 80, 81, 139, 82, 83, 358, 469, 470, 471, 472, 473, 474, 475, 490, 491, 492, 476, 477, 478, 479, 480, 481, 482, 483, 484, 485, 486, 487, 493, 494, 495, 496, 497, 488, 489, 498, 499, 500, 501, 502, 503, 504, 505, 506, 507, 508, 509, 510] rfl (by decide +kernel)
set_option maxRecDepth 20000 in
theorem gL_stages_X6_readProfile : GoodIn wsL_stages (wsV RL 90 RX6 yX6_readProfile wsX6_readProfile) := goodIn_app (goodIn_of _ (by decide +kernel)) ggL_stages_X6_readProfile
set_option maxRecDepth 20000 in
theorem ggL_stages_X6_stage : GoodIn wsL_stages wsX6_stage := goodIn_r _ [362, 18, 111, 363, 364, 365, 366, 367, 205, 206, 32, 207, 71, 368, 209, 210, 17, 211, 44, 38, 212, 213, 214, 215, 72, 73, 74, 469, 470, 471, 472, 473, 474, 475, 476, 477, 478, 479, 480, 481, 482, 483, 484, 485, 486, 487, 493, 494, 495, 496, 497] rfl (by decide +kernel)
set_option maxRecDepth 20000 in
theorem gL_stages_X6_stage : GoodIn wsL_stages (wsV RL 26 RX6 yX6_stage wsX6_stage) := goodIn_app (goodIn_of _ (by decide +kernel)) ggL_stages_X6_stage
set_option maxRecDepth 20000 in
theorem ggL_stages_X6_current : GoodIn wsL_stages wsX6_current := goodIn_r _ [372, 18, 110, 373, 225, 226, 227, 374, 180, 181, 17, 182, 49, 38, 183, 3, 184, 375, 198, 199, 200, 44, 50, 201, 202, 203, 204, 205, 206, 32, 207, 71, 208, 209, 210, 211, 212, 213, 214, 215, 72, 73, 74, 216, 217, 218, 219, 42, 220, 221, 222, 41, 223, 61, 60, 224, 228, 229, 230, 231, 232, 233, 234, 235, 236, 469, 470, 471, 472, 473, 474, 475, 476, 477, 478, 479, 480, 481, 482, 483, 484, 485, 486, 487, 493, 494, 495, 496, 497, 498, 499, 500, 501, 502, 503, 504, 505] rfl (by decide +kernel)
set_option maxRecDepth 20000 in
theorem gL_stages_X6_current : GoodIn wsL_stages (wsV RL 32 RX6 yX6_current wsX6_current) := goodIn_app (goodIn_of _ (by decide +kernel)) ggL_stages_X6_current
