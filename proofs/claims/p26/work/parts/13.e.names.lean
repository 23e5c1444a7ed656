theorem dL_stages_1015 : decode cL_stages 1015 = .ok (.invokevirtual 68, 3) := by decide +kernel
theorem dL_stages_1018 : decode cL_stages 1018 = .ok (.iconst 1, 1) := by decide +kernel
theorem dL_stages_1019 : decode cL_stages 1019 = .ok (.if_icmp .ne 12, 3) := by decide +kernel
theorem dL_stages_1022 : decode cL_stages 1022 = .ok (.aload_n 0, 1) := by decide +kernel
theorem dL_stages_1023 : decode cL_stages 1023 = .ok (.bipush 9, 2) := by decide +kernel
theorem dL_stages_1025 : decode cL_stages 1025 = .ok (.invokevirtual 19, 3) := by decide +kernel
theorem dL_stages_1028 : decode cL_stages 1028 = .ok (.ifCond .eq 5, 3) := by decide +kernel
theorem dL_stages_1031 : decode cL_stages 1031 = .ok (.iconst 0, 1) := by decide +kernel
theorem dL_stages_1032 : decode cL_stages 1032 = .ok (.ireturn, 1) := by decide +kernel
theorem dL_stages_1033 : decode cL_stages 1033 = .ok (.aload_n 0, 1) := by decide +kernel
theorem dL_stages_1034 : decode cL_stages 1034 = .ok (.iconst 5, 1) := by decide +kernel
theorem dL_stages_1035 : decode cL_stages 1035 = .ok (.bipush 46, 2) := by decide +kernel
theorem dL_stages_1037 : decode cL_stages 1037 = .ok (.invokevirtual 50, 3) := by decide +kernel
theorem dL_stages_1040 : decode cL_stages 1040 = .ok (.bipush (-4), 2) := by decide +kernel
theorem dL_stages_1042 : decode cL_stages 1042 = .ok (.if_icmp .ne 74, 3) := by decide +kernel
theorem dL_stages_1045 : decode cL_stages 1045 = .ok (.aload_n 0, 1) := by decide +kernel
theorem dL_stages_1046 : decode cL_stages 1046 = .ok (.bipush 6, 2) := by decide +kernel
theorem dL_stages_1048 : decode cL_stages 1048 = .ok (.iconst (-1), 1) := by decide +kernel
theorem dL_stages_1049 : decode cL_stages 1049 = .ok (.invokevirtual 50, 3) := by decide +kernel
theorem dL_stages_1052 : decode cL_stages 1052 = .ok (.bipush (-4), 2) := by decide +kernel
theorem dL_stages_1054 : decode cL_stages 1054 = .ok (.if_icmp .ne 62, 3) := by decide +kernel
theorem dL_stages_1057 : decode cL_stages 1057 = .ok (.aload_n 0, 1) := by decide +kernel
theorem dL_stages_1058 : decode cL_stages 1058 = .ok (.iconst 0, 1) := by decide +kernel
theorem dL_stages_1059 : decode cL_stages 1059 = .ok (.bipush 100, 2) := by decide +kernel
theorem dL_stages_1061 : decode cL_stages 1061 = .ok (.invokevirtual 50, 3) := by decide +kernel
theorem dL_stages_1064 : decode cL_stages 1064 = .ok (.bipush (-4), 2) := by decide +kernel
theorem dL_stages_1066 : decode cL_stages 1066 = .ok (.if_icmp .ne 50, 3) := by decide +kernel
theorem dL_stages_1069 : decode cL_stages 1069 = .ok (.aload_n 0, 1) := by decide +kernel
theorem dL_stages_1070 : decode cL_stages 1070 = .ok (.iconst 0, 1) := by decide +kernel
theorem dL_stages_1071 : decode cL_stages 1071 = .ok (.iconst 0, 1) := by decide +kernel
theorem dL_stages_1072 : decode cL_stages 1072 = .ok (.invokevirtual 13, 3) := by decide +kernel
theorem dL_stages_1075 : decode cL_stages 1075 = .ok (.bipush 104, 2) := by decide +kernel
theorem dL_stages_1077 : decode cL_stages 1077 = .ok (.if_icmp .ne 39, 3) := by decide +kernel
theorem dL_stages_1080 : decode cL_stages 1080 = .ok (.aload_n 0, 1) := by decide +kernel
theorem dL_stages_1081 : decode cL_stages 1081 = .ok (.iconst 0, 1) := by decide +kernel
theorem dL_stages_1082 : decode cL_stages 1082 = .ok (.bipush 104, 2) := by decide +kernel
theorem dL_stages_1084 : decode cL_stages 1084 = .ok (.invokevirtual 50, 3) := by decide +kernel
theorem dL_stages_1087 : decode cL_stages 1087 = .ok (.sipush 2000, 3) := by decide +kernel
theorem dL_stages_1090 : decode cL_stages 1090 = .ok (.if_icmp .ne 26, 3) := by decide +kernel
theorem dL_stages_1093 : decode cL_stages 1093 = .ok (.aload_n 0, 1) := by decide +kernel
theorem dL_stages_1094 : decode cL_stages 1094 = .ok (.iconst 0, 1) := by decide +kernel
theorem dL_stages_1095 : decode cL_stages 1095 = .ok (.iconst 1, 1) := by decide +kernel
theorem dL_stages_1096 : decode cL_stages 1096 = .ok (.invokevirtual 13, 3) := by decide +kernel
theorem dL_stages_1099 : decode cL_stages 1099 = .ok (.sipush 4200, 3) := by decide +kernel
theorem dL_stages_1102 : decode cL_stages 1102 = .ok (.if_icmp .ne 14, 3) := by decide +kernel
theorem dL_stages_1105 : decode cL_stages 1105 = .ok (.aload_n 0, 1) := by decide +kernel
theorem dL_stages_1106 : decode cL_stages 1106 = .ok (.invokestatic 176, 3) := by decide +kernel
theorem dL_stages_1109 : decode cL_stages 1109 = .ok (.ifCond .eq 7, 3) := by decide +kernel
theorem dL_stages_1112 : decode cL_stages 1112 = .ok (.iconst 1, 1) := by decide +kernel
theorem dL_stages_1113 : decode cL_stages 1113 = .ok (.goto 4, 3) := by decide +kernel
theorem dL_stages_1116 : decode cL_stages 1116 = .ok (.iconst 0, 1) := by decide +kernel
theorem dL_stages_1117 : decode cL_stages 1117 = .ok (.ireturn, 1) := by decide +kernel
set_option maxRecDepth 20000 in
theorem ggL_bled_X6_init : GoodIn wsL_bled wsX6_init := goodIn_r _ [7, 8, 9, 10, 11, 12, 13, 14, 15, 16, 17, 18, 19, 20, 21, 22, 23, 24, 25, 26, 27, 28, 29, 30, 31, 32, 33, 34, 35, 36, 37, 38, 39, 40, 41, 42, 43, 44, 45, 46, 47, 48, 49, 50, 51, 52, 53, 54, 55, 56, 57, 58, 59, 60, 61, 62, 63, 64, 65, 66, 67, 68, 69, 70, 71, 72, 73, 74, 75, 76, 77, 78, 79, 80, 81, 82, 83, 84, 85, 86, 87, 88, 89, 90, 91, 92, 93, 94, 95, 96, 97, 98, 99, 100, 101, 456, 457, 458, 459, 460, 461, 462, 463, 464, 465, 466, 467, 449, 450, 451, 452, 453, 454, 455, 468, 469, 470, 471, 472, 473, 474, 475, 476, 477, 478, 479, 480, 481, 482, 483, 484, 485, 486, 487, 488, 489, 490] rfl (by decide +kernel)
set_option maxRecDepth 20000 in
theorem gL_bled_X6_init : GoodIn wsL_bled (wsX6_init) := ggL_bled_X6_init
set_option maxRecDepth 20000 in
theorem ggL_bled_X6_battery : GoodIn wsL_bled wsX6_battery := goodIn_r _ [105, 14, 106, 107, 21, 108, 109, 110, 111, 20, 112, 84, 86, 113, 114, 115, 116, 117, 118, 119, 13, 120, 34, 98, 99, 100, 101, 38, 40, 44, 45, 46, 47, 48, 49, 50, 51, 52, 121, 122, 123, 37, 124, 56, 57, 125, 58, 59, 60, 61, 62, 63, 126, 127, 128, 28, 129, 67, 68, 130, 69, 70, 71, 131, 132, 133, 43, 134, 75, 76, 77, 135, 78, 79, 136, 137, 138, 139, 140, 141, 142, 143, 144, 145, 146, 449, 450, 451, 452, 453, 454, 455, 456, 457, 458, 459, 460, 461, 462, 463, 464, 465, 466, 467, 478, 479, 480, 481, 482, 483, 484, 485, 468, 469, 473, 474, 475, 476, 477, 486, 487, 488, 489, 490] rfl (by decide +kernel)
set_option maxRecDepth 20000 in
theorem gL_bled_X6_battery : GoodIn wsL_bled (wsV RL 39 RX6 yX6_battery wsX6_battery) := goodIn_app (goodIn_of _ (by decide +kernel)) ggL_bled_X6_battery
set_option maxRecDepth 20000 in
theorem ggL_bled_X6_setCharge : GoodIn wsL_bled wsX6_setCharge := goodIn_r _ [150, 14, 106, 151, 152, 153, 21, 154, 155, 156, 37, 157, 56, 109, 110, 111, 20, 112, 84, 86, 113, 114, 115, 116, 117, 118, 119, 13, 120, 34, 98, 99, 100, 101, 38, 40, 44, 45, 46, 47, 48, 49, 50, 51, 52, 121, 122, 123, 124, 57, 125, 58, 59, 60, 61, 62, 63, 126, 127, 128, 28, 129, 67, 68, 130, 69, 70, 71, 131, 132, 133, 43, 134, 75, 76, 77, 135, 78, 79, 449, 450, 451, 452, 453, 454, 455, 456, 457, 458, 459, 460, 461, 462, 463, 464, 465, 466, 467, 478, 479, 480, 481, 482, 483, 484, 485, 468, 469, 473, 474, 475, 476, 477, 486, 487, 488, 489, 490] rfl (by decide +kernel)
set_option maxRecDepth 20000 in
theorem gL_bled_X6_setCharge : GoodIn wsL_bled (wsV RL 44 RX6 yX6_setCharge wsX6_setCharge) := goodIn_app (goodIn_of _ (by decide +kernel)) ggL_bled_X6_setCharge
set_option maxRecDepth 20000 in
theorem ggL_bled_X6_set : GoodIn wsL_bled wsX6_set := goodIn_r _ [161, 162, 163, 14, 151, 21, 164, 165, 3, 166, 167, 168, 169, 13, 170, 38, 34, 171, 172, 173, 37, 174, 57, 56, 144, 145, 142, 146, 109, 110, 111, 20, 112, 84, 86, 113, 114, 115, 116, 117, 118, 119, 120, 98, 99, 100, 101, 40, 44, 45, 46, 47, 48, 49, 50, 51, 52, 121, 122, 123, 124, 125, 58, 59, 60, 61, 62, 63, 126, 127, 128, 28, 129, 67, 68, 130, 69, 70, 71, 131, 132, 133, 43, 134, 75, 76, 77, 135, 78, 79, 449, 450, 451, 452, 453, 454, 455, 456, 457, 458, 459, 460, 461, 462, 463, 464, 465, 466, 467, 478, 479, 480, 481, 482, 483, 484, 485, 468, 469, 473, 474, 475, 476, 477, 486, 487, 488, 489, 490] rfl (by decide +kernel)
set_option maxRecDepth 20000 in
theorem gL_bled_X6_set : GoodIn wsL_bled (wsV RL 50 RX6 yX6_set wsX6_set) := goodIn_app (goodIn_of _ (by decide +kernel)) ggL_bled_X6_set
set_option maxRecDepth 20000 in
theorem ggL_bled_X6_pass : GoodIn wsL_bled wsX6_pass := goodIn_r _ [178, 14, 179, 180, 21, 108, 109, 110, 111, 20, 112, 84, 86, 113, 114, 115, 116, 117, 118, 119, 13, 120, 34, 98, 99, 100, 101, 38, 40, 44, 45, 46, 47, 48, 49, 50, 51, 52, 121, 122, 123, 37, 124, 56, 57, 125, 58, 59, 60, 61, 62, 63, 126, 127, 128, 28, 129, 67, 68, 130, 69, 70, 71, 131, 132, 133, 43, 134, 75, 76, 77, 135, 78, 79, 181, 182, 183, 184, 185, 186, 187, 188, 189, 190, 191, 192, 193, 3, 194, 195, 196, 197, 198, 199, 200, 201, 202, 203, 204, 205, 206, 207, 208, 209, 210, 211, 212, 213, 214, 215, 216, 217, 218, 219, 220, 221, 222, 223, 224, 225, 226, 227, 228, 229, 171, 172, 173, 174, 144, 145, 142, 146, 230, 231, 232, 233, 234, 235, 236, 141, 143, 237, 238, 239, 240, 241, 242, 243, 244, 245, 246, 247, 248, 249, 250, 251, 252, 253, 254, 255, 256, 257, 258, 259, 260, 261, 140, 262, 263, 264, 265, 449, 450, 451, 452, 453, 454, 455, 456, 457, 458, 459, 460, 461, 462, 463, 464, 465, 466, 467, 468, 469, 478, 479, 480, 481, 482, 483, 484, 485, 473, 474, 475, 476, 477, 486, 487, 488, 489, 490] rfl (by decide +kernel)
set_option maxRecDepth 20000 in
theorem gL_bled_X6_pass : GoodIn wsL_bled (wsV RL 53 RX6 yX6_pass wsX6_pass) := goodIn_app (goodIn_of _ (by decide +kernel)) ggL_bled_X6_pass
set_option maxRecDepth 20000 in
theorem ggL_bled_X6_cell : GoodIn wsL_bled wsX6_cell := goodIn_r _ [269, 14, 106, 152, 151, 153, 270, 271, 272, 273, 274, 154, 155, 156, 37, 157, 56, 275, 230, 3, 231, 449, 450, 451, 452, 453, 454, 455, 456, 457, 458, 459, 460, 461, 462, 463, 464, 465, 466, 467, 478, 479, 480, 481, 482, 483, 484, 485] rfl (by decide +kernel)
set_option maxRecDepth 20000 in
theorem gL_bled_X6_cell : GoodIn wsL_bled (wsV RL 13 RX6 yX6_cell wsX6_cell) := goodIn_app (goodIn_of _ (by decide +kernel)) ggL_bled_X6_cell
set_option maxRecDepth 20000 in
theorem ggL_bled_X6_chargeIn : GoodIn wsL_bled wsX6_chargeIn := goodIn_r _ [279, 14, 106, 15, 152, 154, 155, 156, 37, 157, 56, 280, 118, 119, 13, 120, 34, 98, 99, 100, 101, 38, 40, 44, 45, 46, 47, 48, 49, 50, 51, 52, 121, 122, 123, 124, 57, 125, 58, 59, 60, 61, 62, 63, 126, 127, 128, 28, 129, 67, 68, 130, 69, 70, 71, 131, 132, 133, 43, 134, 75, 76, 77, 135, 78, 79, 181, 182, 183, 184, 185, 186, 187, 188, 189, 190, 191, 192, 193, 3, 194, 195, 196, 197, 198, 199, 200, 201, 202, 203, 204, 205, 206, 207, 208, 209, 210, 211, 212, 213, 214, 215, 216, 217, 218, 219, 220, 221, 222, 223, 224, 225, 226, 227, 228, 229, 171, 172, 173, 174, 144, 145, 142, 146, 230, 231, 232, 233, 234, 235, 236, 141, 143, 237, 238, 239, 240, 241, 242, 243, 244, 245, 246, 247, 248, 249, 250, 251, 252, 253, 254, 255, 256, 257, 258, 259, 260, 261, 140, 262, 263, 264, 265, 449, 450, 451, 452, 453, 454, 455, 456, 457, 458, 459, 460, 461, 462, 463, 464, 465, 466, 467, 478, 479, 480, 481, 482, 483, 484, 485, 473, 474, 475, 476, 477, 486, 487, 488, 489, 490] rfl (by decide +kernel)
set_option maxRecDepth 20000 in
theorem gL_bled_X6_chargeIn : GoodIn wsL_bled (wsV RL 59 RX6 yX6_chargeIn wsX6_chargeIn) := goodIn_app (goodIn_of _ (by decide +kernel)) ggL_bled_X6_chargeIn
set_option maxRecDepth 20000 in
theorem ggL_bled_X6_count : GoodIn wsL_bled wsX6_count := goodIn_r _ [284, 14, 179, 106, 107, 285, 286, 108, 287, 288, 289, 290, 291, 21, 292, 25, 293, 294, 263, 264, 37, 265, 57, 56, 140, 141, 142, 143, 295, 172, 173, 174, 144, 145, 146, 296, 190, 191, 13, 192, 45, 34, 193, 3, 194, 449, 450, 451, 452, 453, 454, 455, 456, 457, 458, 459, 460, 461, 462, 463, 464, 465, 466, 467, 478, 479, 480, 481, 482, 483, 484, 485, 473, 474, 475, 476, 477, 468, 469, 470, 471, 472] rfl (by decide +kernel)
set_option maxRecDepth 20000 in
theorem gL_bled_X6_count : GoodIn wsL_bled (wsV RL 19 RX6 yX6_count wsX6_count) := goodIn_app (goodIn_of _ (by decide +kernel)) ggL_bled_X6_count
set_option maxRecDepth 20000 in
theorem ggL_bled_L_puts : GoodIn wsL_bled wsL_puts := goodIn_r _ [300, 301, 302, 303, 304, 3, 305, 25, 293, 306, 307, 308, 24, 309, 90, 93, 449, 450, 451, 452, 453, 454, 455, 470, 471, 472] rfl (by decide +kernel)
set_option maxRecDepth 20000 in
theorem gL_bled_L_puts : GoodIn wsL_bled (va_wsS RL 86 yL_puts wsL_puts) := goodIn_app (goodIn_of _ (by decide +kernel)) ggL_bled_L_puts
set_option maxRecDepth 20000 in
theorem ggL_bled_X6_readProfile : GoodIn wsL_bled wsX6_readProfile := goodIn_r _ [313, 25, 29, 314, 14, 108, 21, 285, 286, 315, 316, 317, 24, 318, 91, 319, 90, 320, 321, 322, 323, 324, 325, 326, 327, 93, 328, 329, 330, 28, 331, 67, 68, 69, 70, 71, 332, 333, 334, 335, 336, 337, 338, 339, 340, 341, 342, 343, 344, 345, 346, 347, 348, 349, 350, 351, 352, 353, 354, 355, 356, 357, 358, 359, 360, 361, 362, 193, 3, 194, 109, 110, 111, 20, 112, 84, 86, 113, 114, 115, 116, 117, 118, 119, 13, 120, 34, 98, 99, 100, 101, 38, 40, 44, 45, 46, 47, 48, 49, 50, 51, 52, 121, 122, 123, 37, 124, 56, 57, 125, 58, 59, 60, 61, 62, 63, 126, 127, 128, 129, 130, 131, 132, 133, 43, 134, 75, 76, 77, 135, 78, 79, 363, 449, 450, 451, 452, 453, 454, 455, 470, 471, 472, 456, 457, 458, 459, 460, 461, 462, 463, 464, 465, 466, 467, 473, 474, 475, 476, 477, 468, 469, 478, 479, 480, 481, 482, 483, 484, 485, 486, 487, 488, 489, 490] rfl (by decide +kernel)
set_option maxRecDepth 20000 in
theorem gL_bled_X6_readProfile : GoodIn wsL_bled (wsV RL 90 RX6 yX6_readProfile wsX6_readProfile) := goodIn_app (goodIn_of _ (by decide +kernel)) ggL_bled_X6_readProfile
set_option maxRecDepth 20000 in
theorem ggL_bled_X6_start : GoodIn wsL_bled wsX6_start := goodIn_r _ [367, 14, 108, 285, 286, 21, 109, 110, 111, 20, 112, 84, 86, 113, 114, 115, 116, 117, 118, 119, 13, 120, 34, 98, 99, 100, 101, 38, 40, 44, 45, 46, 47, 48, 49, 50, 51, 52, 121, 122, 123, 37, 124, 56, 57, 125, 58, 59, 60, 61, 62, 63, 126, 127, 128, 28, 129, 67, 68, 130, 69, 70, 71, 131, 132, 133, 43, 134, 75, 76, 77, 135, 78, 79, 368, 369, 370, 371, 249, 250, 251, 252, 199, 200, 201, 202, 449, 450, 451, 452, 453, 454, 455, 456, 457, 458, 459, 460, 461, 462, 463, 464, 465, 466, 467, 473, 474, 475, 476, 477, 468, 469, 478, 479, 480, 481, 482, 483, 484, 485, 486, 487, 488, 489, 490] rfl (by decide +kernel)
set_option maxRecDepth 20000 in
theorem gL_bled_X6_start : GoodIn wsL_bled (wsV RL 65 RX6 yX6_start wsX6_start) := goodIn_app (goodIn_of _ (by decide +kernel)) ggL_bled_X6_start
set_option maxRecDepth 20000 in
theorem gpL_bled_L_refused_p0 : GoodIn wsL_bled [.code yL_refused cL_refused 5 (some .boolean)] := goodIn_r _ [374] rfl (by decide +kernel)
set_option maxRecDepth 20000 in
theorem gpL_bled_L_refused_p1 : GoodIn wsL_bled wsL_refused_r1 := goodIn_r _ [375, 376, 299, 377, 378, 379, 266, 267, 268, 3, 269, 14, 106, 152, 151, 153, 270, 271, 272, 273, 274, 154, 155, 156] rfl (by decide +kernel)
set_option maxRecDepth 20000 in
theorem gpL_bled_L_refused_p2 : GoodIn wsL_bled wsL_refused_r2 := goodIn_r _ [37, 157, 56, 275, 230, 231, 281, 282, 283, 284, 179, 107, 285, 286, 108, 287, 288, 289, 290, 291, 21, 292, 25, 293] rfl (by decide +kernel)
set_option maxRecDepth 20000 in
theorem gpL_bled_L_refused_p3 : GoodIn wsL_bled wsL_refused_r3 := goodIn_r _ [294, 263, 264, 265, 57, 140, 141, 142, 143, 295, 172, 173, 174, 144, 145, 146, 296, 190, 191, 13, 192, 45, 34, 193] rfl (by decide +kernel)
set_option maxRecDepth 20000 in
theorem gpL_bled_L_refused_p4 : GoodIn wsL_bled wsL_refused_r4 := goodIn_r _ [194, 380, 381, 382, 383, 384, 385, 386, 387, 388, 389, 390, 391, 43, 392, 76, 393, 394, 395, 396, 397, 398, 399, 400] rfl (by decide +kernel)
set_option maxRecDepth 20000 in
theorem gpL_bled_L_refused_p5 : GoodIn wsL_bled wsL_refused_r5 := goodIn_r _ [401, 402, 403, 404, 405, 215, 216, 28, 217, 67, 406, 219, 220, 221, 40, 222, 223, 224, 225, 68, 69, 70, 407, 408] rfl (by decide +kernel)
set_option maxRecDepth 20000 in
theorem gpL_bled_L_refused_p6 : GoodIn wsL_bled wsL_refused_r6 := goodIn_r _ [409, 410, 164, 165, 166, 411, 412, 413, 414, 415, 416, 208, 209, 210, 46, 211, 212, 213, 214, 218, 226, 227, 228, 229] rfl (by decide +kernel)
set_option maxRecDepth 20000 in
theorem gpL_bled_L_refused_p7 : GoodIn wsL_bled wsL_refused_r7 := goodIn_r _ [38, 171, 232, 233, 234, 235, 236, 417, 418, 419, 420, 15, 280, 118, 119, 120, 98, 99, 100, 101, 44, 47, 48, 49] rfl (by decide +kernel)
set_option maxRecDepth 20000 in
theorem gpL_bled_L_refused_p8 : GoodIn wsL_bled wsL_refused_r8 := goodIn_r _ [50, 51, 52, 121, 122, 123, 124, 125, 58, 59, 60, 61, 62, 63, 126, 127, 128, 129, 130, 71, 131, 132, 133, 134] rfl (by decide +kernel)
set_option maxRecDepth 20000 in
theorem gpL_bled_L_refused_p9 : GoodIn wsL_bled wsL_refused_r9 := goodIn_r _ [75, 77, 135, 78, 79, 421, 422, 423, 424, 189, 185, 186, 187, 188, 195, 196, 197, 198, 199, 200, 201, 202, 203, 204] rfl (by decide +kernel)
set_option maxRecDepth 20000 in
theorem gpL_bled_L_refused_p10 : GoodIn wsL_bled wsL_refused_r10 := goodIn_r _ [205, 206, 207, 237, 238, 239, 240, 241, 242, 243, 244, 245, 246, 247, 248, 249, 250, 251, 252, 253, 254, 255, 256, 257] rfl (by decide +kernel)
set_option maxRecDepth 20000 in
theorem gpL_bled_L_refused_p11 : GoodIn wsL_bled wsL_refused_r11 := goodIn_r _ [258, 259, 260, 261, 262, 425, 426, 427, 102, 103, 104, 105, 109, 110, 111, 20, 112, 84, 86, 113, 114, 115, 116, 117] rfl (by decide +kernel)
set_option maxRecDepth 20000 in
theorem gpL_bled_L_refused_p12 : GoodIn wsL_bled wsL_refused_r12 := goodIn_r _ [136, 137, 138, 139, 147, 148, 149, 150, 428, 429, 430, 431, 432, 433, 434, 435, 158, 159, 160, 161, 162, 163, 167, 168] rfl (by decide +kernel)
set_option maxRecDepth 20000 in
theorem gpL_bled_L_refused_p13 : GoodIn wsL_bled wsL_refused_r13 := goodIn_r _ [169, 170, 175, 176, 177, 178, 180, 181, 182, 183, 184, 436, 437, 438, 439, 440, 276, 277, 278, 279, 441, 442, 443, 444] rfl (by decide +kernel)
set_option maxRecDepth 20000 in
theorem gpL_bled_L_refused_p14 : GoodIn wsL_bled wsL_refused_r14 := goodIn_r _ [364, 365, 366, 367, 368, 369, 370, 371, 445, 446, 447, 448] rfl (by decide +kernel)
set_option maxRecDepth 20000 in
theorem gpL_bled_L_refused_p15 : GoodIn wsL_bled wsX60 := goodIn_r _ [449, 450, 451, 452, 453, 454, 455] rfl (by decide +kernel)
set_option maxRecDepth 20000 in
theorem gpL_bled_L_refused_p16 : GoodIn wsL_bled wsX40 := goodIn_r _ [456, 457, 458, 459, 460, 461, 462, 463, 464, 465, 466, 467] rfl (by decide +kernel)
set_option maxRecDepth 20000 in
theorem gpL_bled_L_refused_p17 : GoodIn wsL_bled wsX00 := goodIn_r _ [478, 479, 480, 481, 482, 483, 484, 485] rfl (by decide +kernel)
set_option maxRecDepth 20000 in
theorem gpL_bled_L_refused_p18 : GoodIn wsL_bled wsX30 := goodIn_r _ [473, 474, 475, 476, 477] rfl (by decide +kernel)
set_option maxRecDepth 20000 in
theorem gpL_bled_L_refused_p19 : GoodIn wsL_bled wsX10 := goodIn_r _ [468, 469] rfl (by decide +kernel)
set_option maxRecDepth 20000 in
theorem gpL_bled_L_refused_p20 : GoodIn wsL_bled wsX50 := goodIn_r _ [470, 471, 472] rfl (by decide +kernel)
set_option maxRecDepth 20000 in
theorem gpL_bled_L_refused_p21 : GoodIn wsL_bled wsX20 := goodIn_r _ [486, 487, 488, 489, 490] rfl (by decide +kernel)
set_option maxRecDepth 20000 in
theorem ggL_bled_L_refused : GoodIn wsL_bled wsL_refused := (goodIn_app (a := [.code yL_refused cL_refused 5 (some .boolean)]) gpL_bled_L_refused_p0 (goodIn_app (goodIn_app (goodIn_app (goodIn_app (goodIn_app (goodIn_app (goodIn_app (goodIn_app gpL_bled_L_refused_p1 (goodIn_app gpL_bled_L_refused_p2 (goodIn_app gpL_bled_L_refused_p3 (goodIn_app gpL_bled_L_refused_p4 (goodIn_app gpL_bled_L_refused_p5 (goodIn_app gpL_bled_L_refused_p6 (goodIn_app gpL_bled_L_refused_p7 (goodIn_app gpL_bled_L_refused_p8 (goodIn_app gpL_bled_L_refused_p9 (goodIn_app gpL_bled_L_refused_p10 (goodIn_app gpL_bled_L_refused_p11 (goodIn_app gpL_bled_L_refused_p12 (goodIn_app gpL_bled_L_refused_p13 gpL_bled_L_refused_p14))))))))))))) gpL_bled_L_refused_p15) gpL_bled_L_refused_p16) gpL_bled_L_refused_p17) gpL_bled_L_refused_p18) gpL_bled_L_refused_p19) gpL_bled_L_refused_p20) gpL_bled_L_refused_p21))
set_option maxRecDepth 20000 in
theorem gL_bled_L_refused : GoodIn wsL_bled (va_wsS RL 176 yL_refused wsL_refused) := goodIn_app (goodIn_of _ (by decide +kernel)) ggL_bled_L_refused
theorem dL_bled_0 : decode cL_bled 0 = .ok (.new 14, 3) := by decide +kernel
theorem dL_bled_3 : decode cL_bled 3 = .ok (.dup, 1) := by decide +kernel
theorem dL_bled_4 : decode cL_bled 4 = .ok (.invokespecial 85, 3) := by decide +kernel
theorem dL_bled_7 : decode cL_bled 7 = .ok (.astore_n 0, 1) := by decide +kernel
theorem dL_bled_8 : decode cL_bled 8 = .ok (.aload_n 0, 1) := by decide +kernel
theorem dL_bled_9 : decode cL_bled 9 = .ok (.iconst 2, 1) := by decide +kernel
theorem dL_bled_10 : decode cL_bled 10 = .ok (.invokevirtual 39, 3) := by decide +kernel
theorem dL_bled_13 : decode cL_bled 13 = .ok (.iconst 3, 1) := by decide +kernel
theorem dL_bled_14 : decode cL_bled 14 = .ok (.if_icmp .ne 153, 3) := by decide +kernel
theorem dL_bled_17 : decode cL_bled 17 = .ok (.aload_n 0, 1) := by decide +kernel
theorem dL_bled_18 : decode cL_bled 18 = .ok (.iconst 0, 1) := by decide +kernel
theorem dL_bled_19 : decode cL_bled 19 = .ok (.sipush 500, 3) := by decide +kernel
theorem dL_bled_22 : decode cL_bled 22 = .ok (.invokevirtual 44, 3) := by decide +kernel
theorem dL_bled_25 : decode cL_bled 25 = .ok (.ifCond .ne 142, 3) := by decide +kernel
theorem dL_bled_28 : decode cL_bled 28 = .ok (.aload_n 0, 1) := by decide +kernel
theorem dL_bled_29 : decode cL_bled 29 = .ok (.iconst 1, 1) := by decide +kernel
theorem dL_bled_30 : decode cL_bled 30 = .ok (.sipush 450, 3) := by decide +kernel
theorem dL_bled_33 : decode cL_bled 33 = .ok (.invokevirtual 44, 3) := by decide +kernel
theorem dL_bled_36 : decode cL_bled 36 = .ok (.ifCond .ne 131, 3) := by decide +kernel
theorem dL_bled_39 : decode cL_bled 39 = .ok (.aload_n 0, 1) := by decide +kernel
theorem dL_bled_40 : decode cL_bled 40 = .ok (.iconst 1, 1) := by decide +kernel
theorem dL_bled_41 : decode cL_bled 41 = .ok (.sipush 450, 3) := by decide +kernel
theorem dL_bled_44 : decode cL_bled 44 = .ok (.invokevirtual 44, 3) := by decide +kernel
theorem dL_bled_47 : decode cL_bled 47 = .ok (.bipush (-5), 2) := by decide +kernel
theorem dL_bled_49 : decode cL_bled 49 = .ok (.if_icmp .ne 118, 3) := by decide +kernel
theorem dL_bled_52 : decode cL_bled 52 = .ok (.aload_n 0, 1) := by decide +kernel
theorem dL_bled_53 : decode cL_bled 53 = .ok (.bipush 8, 2) := by decide +kernel
theorem dL_bled_55 : decode cL_bled 55 = .ok (.bipush 10, 2) := by decide +kernel
theorem dL_bled_57 : decode cL_bled 57 = .ok (.invokevirtual 50, 3) := by decide +kernel
theorem dL_bled_60 : decode cL_bled 60 = .ok (.sipush 1000, 3) := by decide +kernel
theorem dL_bled_63 : decode cL_bled 63 = .ok (.if_icmp .ne 104, 3) := by decide +kernel
theorem dL_bled_66 : decode cL_bled 66 = .ok (.aload_n 0, 1) := by decide +kernel
theorem dL_bled_67 : decode cL_bled 67 = .ok (.iconst 1, 1) := by decide +kernel
theorem dL_bled_68 : decode cL_bled 68 = .ok (.invokevirtual 53, 3) := by decide +kernel
theorem dL_bled_71 : decode cL_bled 71 = .ok (.ifCond .ne 96, 3) := by decide +kernel
theorem dL_bled_74 : decode cL_bled 74 = .ok (.aload_n 0, 1) := by decide +kernel
theorem dL_bled_75 : decode cL_bled 75 = .ok (.iconst 0, 1) := by decide +kernel
theorem dL_bled_76 : decode cL_bled 76 = .ok (.iconst 0, 1) := by decide +kernel
theorem dL_bled_77 : decode cL_bled 77 = .ok (.invokevirtual 13, 3) := by decide +kernel
theorem dL_bled_80 : decode cL_bled 80 = .ok (.sipush 490, 3) := by decide +kernel
theorem dL_bled_83 : decode cL_bled 83 = .ok (.if_icmp .ne 84, 3) := by decide +kernel
theorem dL_bled_86 : decode cL_bled 86 = .ok (.aload_n 0, 1) := by decide +kernel
theorem dL_bled_87 : decode cL_bled 87 = .ok (.iconst 1, 1) := by decide +kernel
theorem dL_bled_88 : decode cL_bled 88 = .ok (.iconst 0, 1) := by decide +kernel
theorem dL_bled_89 : decode cL_bled 89 = .ok (.invokevirtual 13, 3) := by decide +kernel
theorem dL_bled_92 : decode cL_bled 92 = .ok (.sipush 450, 3) := by decide +kernel
theorem dL_bled_95 : decode cL_bled 95 = .ok (.if_icmp .ne 72, 3) := by decide +kernel
theorem dL_bled_98 : decode cL_bled 98 = .ok (.aload_n 0, 1) := by decide +kernel
theorem dL_bled_99 : decode cL_bled 99 = .ok (.iconst 5, 1) := by decide +kernel
theorem dL_bled_100 : decode cL_bled 100 = .ok (.invokevirtual 53, 3) := by decide +kernel
theorem dL_bled_103 : decode cL_bled 103 = .ok (.ifCond .ne 64, 3) := by decide +kernel
theorem dL_bled_106 : decode cL_bled 106 = .ok (.aload_n 0, 1) := by decide +kernel
theorem dL_bled_107 : decode cL_bled 107 = .ok (.iconst 0, 1) := by decide +kernel
theorem dL_bled_108 : decode cL_bled 108 = .ok (.iconst 0, 1) := by decide +kernel
theorem dL_bled_109 : decode cL_bled 109 = .ok (.invokevirtual 13, 3) := by decide +kernel
theorem dL_bled_112 : decode cL_bled 112 = .ok (.sipush 460, 3) := by decide +kernel
theorem dL_bled_115 : decode cL_bled 115 = .ok (.if_icmp .ne 52, 3) := by decide +kernel
theorem dL_bled_118 : decode cL_bled 118 = .ok (.aload_n 0, 1) := by decide +kernel
theorem dL_bled_119 : decode cL_bled 119 = .ok (.iconst 0, 1) := by decide +kernel
theorem dL_bled_120 : decode cL_bled 120 = .ok (.bipush 6, 2) := by decide +kernel
theorem dL_bled_122 : decode cL_bled 122 = .ok (.invokevirtual 13, 3) := by decide +kernel
theorem dL_bled_125 : decode cL_bled 125 = .ok (.bipush 40, 2) := by decide +kernel
theorem dL_bled_127 : decode cL_bled 127 = .ok (.if_icmp .ne 40, 3) := by decide +kernel
theorem dL_bled_130 : decode cL_bled 130 = .ok (.aload_n 0, 1) := by decide +kernel
theorem dL_bled_131 : decode cL_bled 131 = .ok (.iconst 0, 1) := by decide +kernel
theorem dL_bled_132 : decode cL_bled 132 = .ok (.bipush 9, 2) := by decide +kernel
theorem dL_bled_134 : decode cL_bled 134 = .ok (.invokevirtual 59, 3) := by decide +kernel
theorem dL_bled_137 : decode cL_bled 137 = .ok (.sipush 460, 3) := by decide +kernel
theorem dL_bled_140 : decode cL_bled 140 = .ok (.if_icmp .ne 27, 3) := by decide +kernel
theorem dL_bled_143 : decode cL_bled 143 = .ok (.aload_n 0, 1) := by decide +kernel
theorem dL_bled_144 : decode cL_bled 144 = .ok (.bipush 7, 2) := by decide +kernel
theorem dL_bled_146 : decode cL_bled 146 = .ok (.invokevirtual 19, 3) := by decide +kernel
theorem dL_bled_149 : decode cL_bled 149 = .ok (.sipush 450, 3) := by decide +kernel
theorem dL_bled_152 : decode cL_bled 152 = .ok (.if_icmp .ne 15, 3) := by decide +kernel
theorem dL_bled_155 : decode cL_bled 155 = .ok (.aload_n 0, 1) := by decide +kernel
theorem dL_bled_156 : decode cL_bled 156 = .ok (.bipush 8, 2) := by decide +kernel
theorem dL_bled_158 : decode cL_bled 158 = .ok (.invokevirtual 19, 3) := by decide +kernel
theorem dL_bled_161 : decode cL_bled 161 = .ok (.sipush 460, 3) := by decide +kernel
theorem dL_bled_164 : decode cL_bled 164 = .ok (.if_icmp .eq 5, 3) := by decide +kernel
theorem dL_bled_167 : decode cL_bled 167 = .ok (.iconst 0, 1) := by decide +kernel
theorem dL_bled_168 : decode cL_bled 168 = .ok (.ireturn, 1) := by decide +kernel
theorem dL_bled_169 : decode cL_bled 169 = .ok (.aload_n 0, 1) := by decide +kernel
theorem dL_bled_170 : decode cL_bled 170 = .ok (.ldc2_w 180, 3) := by decide +kernel
theorem dL_bled_173 : decode cL_bled 173 = .ok (.invokestatic 86, 3) := by decide +kernel
theorem dL_bled_176 : decode cL_bled 176 = .ok (.ifCond .eq 127, 3) := by decide +kernel
theorem dL_bled_179 : decode cL_bled 179 = .ok (.aload_n 0, 1) := by decide +kernel
theorem dL_bled_180 : decode cL_bled 180 = .ok (.invokevirtual 90, 3) := by decide +kernel
theorem dL_bled_183 : decode cL_bled 183 = .ok (.iconst 1, 1) := by decide +kernel
theorem dL_bled_184 : decode cL_bled 184 = .ok (.if_icmp .ne 119, 3) := by decide +kernel
theorem dL_bled_187 : decode cL_bled 187 = .ok (.aload_n 0, 1) := by decide +kernel
theorem dL_bled_188 : decode cL_bled 188 = .ok (.invokevirtual 65, 3) := by decide +kernel
theorem dL_bled_191 : decode cL_bled 191 = .ok (.ifCond .ne 112, 3) := by decide +kernel
theorem dL_bled_194 : decode cL_bled 194 = .ok (.aload_n 0, 1) := by decide +kernel
theorem dL_bled_195 : decode cL_bled 195 = .ok (.iconst 1, 1) := by decide +kernel
theorem dL_bled_196 : decode cL_bled 196 = .ok (.invokevirtual 53, 3) := by decide +kernel
theorem dL_bled_199 : decode cL_bled 199 = .ok (.iconst 1, 1) := by decide +kernel
theorem dL_bled_200 : decode cL_bled 200 = .ok (.if_icmp .ne 103, 3) := by decide +kernel
theorem dL_bled_203 : decode cL_bled 203 = .ok (.aload_n 0, 1) := by decide +kernel
theorem dL_bled_204 : decode cL_bled 204 = .ok (.iconst 1, 1) := by decide +kernel
theorem dL_bled_205 : decode cL_bled 205 = .ok (.iconst 0, 1) := by decide +kernel
theorem dL_bled_206 : decode cL_bled 206 = .ok (.invokevirtual 13, 3) := by decide +kernel
theorem dL_bled_209 : decode cL_bled 209 = .ok (.sipush 479, 3) := by decide +kernel
theorem dL_bled_212 : decode cL_bled 212 = .ok (.if_icmp .ne 91, 3) := by decide +kernel
theorem dL_bled_215 : decode cL_bled 215 = .ok (.aload_n 0, 1) := by decide +kernel
theorem dL_bled_216 : decode cL_bled 216 = .ok (.iconst 1, 1) := by decide +kernel
theorem dL_bled_217 : decode cL_bled 217 = .ok (.iconst 2, 1) := by decide +kernel
theorem dL_bled_218 : decode cL_bled 218 = .ok (.invokevirtual 13, 3) := by decide +kernel
theorem dL_bled_221 : decode cL_bled 221 = .ok (.bipush 70, 2) := by decide +kernel
theorem dL_bled_223 : decode cL_bled 223 = .ok (.if_icmp .ne 80, 3) := by decide +kernel
theorem dL_bled_226 : decode cL_bled 226 = .ok (.aload_n 0, 1) := by decide +kernel
theorem dL_bled_227 : decode cL_bled 227 = .ok (.iconst 1, 1) := by decide +kernel
theorem dL_bled_228 : decode cL_bled 228 = .ok (.iconst 4, 1) := by decide +kernel
theorem dL_bled_229 : decode cL_bled 229 = .ok (.invokevirtual 13, 3) := by decide +kernel
theorem dL_bled_232 : decode cL_bled 232 = .ok (.bipush 29, 2) := by decide +kernel
theorem dL_bled_234 : decode cL_bled 234 = .ok (.if_icmp .ne 69, 3) := by decide +kernel
theorem dL_bled_237 : decode cL_bled 237 = .ok (.aload_n 0, 1) := by decide +kernel
theorem dL_bled_238 : decode cL_bled 238 = .ok (.iconst 1, 1) := by decide +kernel
theorem dL_bled_239 : decode cL_bled 239 = .ok (.bipush 8, 2) := by decide +kernel
theorem dL_bled_241 : decode cL_bled 241 = .ok (.invokevirtual 13, 3) := by decide +kernel
theorem dL_bled_244 : decode cL_bled 244 = .ok (.iconst 4, 1) := by decide +kernel
theorem dL_bled_245 : decode cL_bled 245 = .ok (.if_icmp .ne 58, 3) := by decide +kernel
theorem dL_bled_248 : decode cL_bled 248 = .ok (.aload_n 0, 1) := by decide +kernel
theorem dL_bled_249 : decode cL_bled 249 = .ok (.iconst 1, 1) := by decide +kernel
theorem dL_bled_250 : decode cL_bled 250 = .ok (.invokevirtual 53, 3) := by decide +kernel
theorem dL_bled_253 : decode cL_bled 253 = .ok (.iconst 1, 1) := by decide +kernel
theorem dL_bled_254 : decode cL_bled 254 = .ok (.if_icmp .ne 49, 3) := by decide +kernel
theorem dL_bled_257 : decode cL_bled 257 = .ok (.aload_n 0, 1) := by decide +kernel
theorem dL_bled_258 : decode cL_bled 258 = .ok (.iconst 1, 1) := by decide +kernel
theorem dL_bled_259 : decode cL_bled 259 = .ok (.iconst 0, 1) := by decide +kernel
theorem dL_bled_260 : decode cL_bled 260 = .ok (.invokevirtual 13, 3) := by decide +kernel
theorem dL_bled_263 : decode cL_bled 263 = .ok (.sipush 509, 3) := by decide +kernel
theorem dL_bled_266 : decode cL_bled 266 = .ok (.if_icmp .ne 37, 3) := by decide +kernel
theorem dL_bled_269 : decode cL_bled 269 = .ok (.aload_n 0, 1) := by decide +kernel
theorem dL_bled_270 : decode cL_bled 270 = .ok (.iconst 1, 1) := by decide +kernel
theorem dL_bled_271 : decode cL_bled 271 = .ok (.iconst 2, 1) := by decide +kernel
theorem dL_bled_272 : decode cL_bled 272 = .ok (.invokevirtual 13, 3) := by decide +kernel
theorem dL_bled_275 : decode cL_bled 275 = .ok (.bipush 40, 2) := by decide +kernel
theorem dL_bled_277 : decode cL_bled 277 = .ok (.if_icmp .ne 26, 3) := by decide +kernel
theorem dL_bled_280 : decode cL_bled 280 = .ok (.aload_n 0, 1) := by decide +kernel
theorem dL_bled_281 : decode cL_bled 281 = .ok (.iconst 1, 1) := by decide +kernel
theorem dL_bled_282 : decode cL_bled 282 = .ok (.sipush 509, 3) := by decide +kernel
theorem dL_bled_285 : decode cL_bled 285 = .ok (.invokevirtual 44, 3) := by decide +kernel
theorem dL_bled_288 : decode cL_bled 288 = .ok (.sipush 509, 3) := by decide +kernel
theorem dL_bled_291 : decode cL_bled 291 = .ok (.if_icmp .ne 12, 3) := by decide +kernel
theorem dL_bled_294 : decode cL_bled 294 = .ok (.aload_n 0, 1) := by decide +kernel
theorem dL_bled_295 : decode cL_bled 295 = .ok (.iconst 1, 1) := by decide +kernel
theorem dL_bled_296 : decode cL_bled 296 = .ok (.iconst 2, 1) := by decide +kernel
theorem dL_bled_297 : decode cL_bled 297 = .ok (.invokevirtual 13, 3) := by decide +kernel
theorem dL_bled_300 : decode cL_bled 300 = .ok (.ifCond .eq 5, 3) := by decide +kernel
theorem dL_bled_303 : decode cL_bled 303 = .ok (.iconst 0, 1) := by decide +kernel
theorem dL_bled_304 : decode cL_bled 304 = .ok (.ireturn, 1) := by decide +kernel
theorem dL_bled_305 : decode cL_bled 305 = .ok (.aload_n 0, 1) := by decide +kernel
theorem dL_bled_306 : decode cL_bled 306 = .ok (.bipush 6, 2) := by decide +kernel
theorem dL_bled_308 : decode cL_bled 308 = .ok (.invokevirtual 39, 3) := by decide +kernel
theorem dL_bled_311 : decode cL_bled 311 = .ok (.iconst 2, 1) := by decide +kernel
theorem dL_bled_312 : decode cL_bled 312 = .ok (.if_icmp .ne 59, 3) := by decide +kernel
