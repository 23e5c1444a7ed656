set_option maxRecDepth 20000 in
theorem ggL_stages_X6_chargeIn : GoodIn wsL_stages wsX6_chargeIn := goodIn_r _ [379, 18, 272, 19, 380, 381, 382, 383, 41, 384, 60, 170, 122, 123, 17, 124, 38, 102, 103, 104, 105, 42, 44, 48, 49, 50, 51, 52, 53, 54, 55, 56, 125, 126, 127, 128, 61, 129, 62, 63, 64, 65, 66, 67, 130, 131, 132, 32, 133, 71, 72, 134, 73, 74, 75, 135, 136, 137, 47, 138, 79, 80, 81, 139, 82, 83, 385, 386, 387, 388, 185, 186, 187, 188, 179, 180, 181, 182, 183, 3, 184, 189, 190, 191, 192, 148, 149, 150, 151, 193, 194, 195, 196, 197, 198, 199, 200, 201, 202, 203, 204, 205, 206, 207, 208, 209, 210, 211, 212, 213, 214, 215, 216, 217, 218, 219, 220, 221, 222, 223, 224, 225, 226, 227, 228, 229, 230, 231, 232, 233, 234, 235, 236, 237, 238, 239, 240, 241, 242, 243, 244, 245, 246, 247, 248, 144, 145, 146, 147, 249, 250, 251, 252, 253, 254, 255, 256, 257, 258, 259, 260, 261, 262, 469, 470, 471, 472, 473, 474, 475, 476, 477, 478, 479, 480, 481, 482, 483, 484, 485, 486, 487, 498, 499, 500, 501, 502, 503, 504, 505, 493, 494, 495, 496, 497, 506, 507, 508, 509, 510] rfl (by decide +kernel)
set_option maxRecDepth 20000 in
theorem gL_stages_X6_chargeIn : GoodIn wsL_stages (wsV RL 59 RX6 yX6_chargeIn wsX6_chargeIn) := goodIn_app (goodIn_of _ (by decide +kernel)) ggL_stages_X6_chargeIn
set_option maxRecDepth 20000 in
theorem ggL_stages_X6_voltage : GoodIn wsL_stages wsX6_voltage := goodIn_r _ [392, 18, 393, 217, 218, 17, 219, 42, 38, 220, 221, 222, 41, 223, 61, 60, 224, 225, 226, 227, 228, 3, 229, 469, 470, 471, 472, 473, 474, 475, 476, 477, 478, 479, 480, 481, 482, 483, 484, 485, 486, 487, 498, 499, 500, 501, 502, 503, 504, 505] rfl (by decide +kernel)
set_option maxRecDepth 20000 in
theorem gL_stages_X6_voltage : GoodIn wsL_stages (wsV RL 56 RX6 yX6_voltage wsX6_voltage) := goodIn_app (goodIn_of _ (by decide +kernel)) ggL_stages_X6_voltage
set_option maxRecDepth 20000 in
theorem ggL_stages_X6_pass : GoodIn wsL_stages wsX6_pass := goodIn_r _ [397, 18, 169, 398, 25, 110, 113, 114, 115, 24, 116, 88, 90, 117, 118, 119, 120, 121, 122, 123, 17, 124, 38, 102, 103, 104, 105, 42, 44, 48, 49, 50, 51, 52, 53, 54, 55, 56, 125, 126, 127, 41, 128, 60, 61, 129, 62, 63, 64, 65, 66, 67, 130, 131, 132, 32, 133, 71, 72, 134, 73, 74, 75, 135, 136, 137, 47, 138, 79, 80, 81, 139, 82, 83, 385, 386, 387, 388, 185, 186, 187, 188, 179, 180, 181, 182, 183, 3, 184, 189, 190, 191, 192, 148, 149, 150, 151, 193, 194, 195, 196, 197, 198, 199, 200, 201, 202, 203, 204, 205, 206, 207, 208, 209, 210, 211, 212, 213, 214, 215, 216, 217, 218, 219, 220, 221, 222, 223, 224, 225, 226, 227, 228, 229, 230, 231, 232, 233, 234, 235, 236, 237, 238, 239, 240, 241, 242, 243, 244, 245, 246, 247, 248, 144, 145, 146, 147, 249, 250, 251, 252, 253, 254, 255, 256, 257, 258, 259, 260, 261, 262, 469, 470, 471, 472, 473, 474, 475, 476, 477, 478, 479, 480, 481, 482, 483, 484, 485, 486, 487, 488, 489, 498, 499, 500, 501, 502, 503, 504, 505, 493, 494, 495, 496, 497, 506, 507, 508, 509, 510] rfl (by decide +kernel)
set_option maxRecDepth 20000 in
theorem gL_stages_X6_pass : GoodIn wsL_stages (wsV RL 53 RX6 yX6_pass wsX6_pass) := goodIn_app (goodIn_of _ (by decide +kernel)) ggL_stages_X6_pass
set_option maxRecDepth 20000 in
theorem ggL_stages_X6_count : GoodIn wsL_stages wsX6_count := goodIn_r _ [402, 18, 169, 272, 273, 111, 112, 110, 403, 404, 405, 406, 407, 25, 160, 29, 300, 408, 260, 261, 41, 262, 61, 60, 258, 235, 226, 236, 409, 221, 222, 223, 224, 225, 227, 374, 180, 181, 17, 182, 49, 38, 183, 3, 184, 469, 470, 471, 472, 473, 474, 475, 476, 477, 478, 479, 480, 481, 482, 483, 484, 485, 486, 487, 498, 499, 500, 501, 502, 503, 504, 505, 493, 494, 495, 496, 497, 488, 489, 490, 491, 492] rfl (by decide +kernel)
set_option maxRecDepth 20000 in
theorem gL_stages_X6_count : GoodIn wsL_stages (wsV RL 19 RX6 yX6_count wsX6_count) := goodIn_app (goodIn_of _ (by decide +kernel)) ggL_stages_X6_count
set_option maxRecDepth 20000 in
theorem ggL_stages_X6_cell : GoodIn wsL_stages wsX6_cell := goodIn_r _ [413, 18, 272, 380, 267, 414, 415, 416, 417, 418, 419, 381, 382, 383, 41, 384, 60, 420, 228, 3, 229, 469, 470, 471, 472, 473, 474, 475, 476, 477, 478, 479, 480, 481, 482, 483, 484, 485, 486, 487, 498, 499, 500, 501, 502, 503, 504, 505] rfl (by decide +kernel)
set_option maxRecDepth 20000 in
theorem gL_stages_X6_cell : GoodIn wsL_stages (wsV RL 13 RX6 yX6_cell wsX6_cell) := goodIn_app (goodIn_of _ (by decide +kernel)) ggL_stages_X6_cell
set_option maxRecDepth 20000 in
theorem ggL_stages_X6_event : GoodIn wsL_stages wsX6_event := goodIn_r _ [424, 18, 425, 426, 427, 428, 429, 430, 431, 432, 47, 433, 80, 434, 435, 436, 437, 469, 470, 471, 472, 473, 474, 475, 476, 477, 478, 479, 480, 481, 482, 483, 484, 485, 486, 487, 506, 507, 508, 509, 510] rfl (by decide +kernel)
set_option maxRecDepth 20000 in
theorem gL_stages_X6_event : GoodIn wsL_stages (wsV RL 23 RX6 yX6_event wsX6_event) := goodIn_app (goodIn_of _ (by decide +kernel)) ggL_stages_X6_event
set_option maxRecDepth 20000 in
theorem ggL_stages_X6_use : GoodIn wsL_stages wsX6_use := goodIn_r _ [441, 18, 110, 272, 25, 408, 260, 261, 41, 262, 61, 60, 258, 235, 226, 236, 113, 114, 115, 24, 116, 88, 90, 117, 118, 119, 120, 121, 122, 123, 17, 124, 38, 102, 103, 104, 105, 42, 44, 48, 49, 50, 51, 52, 53, 54, 55, 56, 125, 126, 127, 128, 129, 62, 63, 64, 65, 66, 67, 130, 131, 132, 32, 133, 71, 72, 134, 73, 74, 75, 135, 136, 137, 47, 138, 79, 80, 81, 139, 82, 83, 442, 443, 444, 445, 469, 470, 471, 472, 473, 474, 475, 476, 477, 478, 479, 480, 481, 482, 483, 484, 485, 486, 487, 498, 499, 500, 501, 502, 503, 504, 505, 488, 489, 493, 494, 495, 496, 497, 506, 507, 508, 509, 510] rfl (by decide +kernel)
set_option maxRecDepth 20000 in
theorem gL_stages_X6_use : GoodIn wsL_stages (wsV RL 47 RX6 yX6_use wsX6_use) := goodIn_app (goodIn_of _ (by decide +kernel)) ggL_stages_X6_use
set_option maxRecDepth 20000 in
theorem ggL_stages_X6_clearText : GoodIn wsL_stages wsX6_clearText := goodIn_r _ [449, 29, 300, 469, 470, 471, 472, 473, 474, 475, 490, 491, 492] rfl (by decide +kernel)
set_option maxRecDepth 20000 in
theorem gL_stages_X6_clearText : GoodIn wsL_stages (wsV RL 169 RX6 yX6_clearText wsX6_clearText) := goodIn_app (goodIn_of _ (by decide +kernel)) ggL_stages_X6_clearText
set_option maxRecDepth 20000 in
theorem gpL_stages_L_refused_p0 : GoodIn wsL_stages [.code yL_refused cL_refused 5 (some .boolean)] := goodIn_r _ [452] rfl (by decide +kernel)
set_option maxRecDepth 20000 in
theorem gpL_stages_L_refused_p1 : GoodIn wsL_stages wsL_refused_r1 := goodIn_r _ [453, 454, 293, 455, 456, 457, 410, 411, 412, 3, 413, 18, 272, 380, 267, 414, 415, 416, 417, 418, 419, 381, 382, 383] rfl (by decide +kernel)
set_option maxRecDepth 20000 in
theorem gpL_stages_L_refused_p2 : GoodIn wsL_stages wsL_refused_r2 := goodIn_r _ [41, 384, 60, 420, 228, 229, 399, 400, 401, 402, 169, 273, 111, 112, 110, 403, 404, 405, 406, 407, 25, 160, 29, 300] rfl (by decide +kernel)
set_option maxRecDepth 20000 in
theorem gpL_stages_L_refused_p3 : GoodIn wsL_stages wsL_refused_r3 := goodIn_r _ [408, 260, 261, 262, 61, 258, 235, 226, 236, 409, 221, 222, 223, 224, 225, 227, 374, 180, 181, 17, 182, 49, 38, 183] rfl (by decide +kernel)
set_option maxRecDepth 20000 in
theorem gpL_stages_L_refused_p4 : GoodIn wsL_stages wsL_refused_r4 := goodIn_r _ [184, 421, 422, 423, 424, 425, 426, 427, 428, 429, 430, 431, 432, 47, 433, 80, 434, 435, 436, 437, 359, 360, 361, 362] rfl (by decide +kernel)
set_option maxRecDepth 20000 in
theorem gpL_stages_L_refused_p5 : GoodIn wsL_stages wsL_refused_r5 := goodIn_r _ [363, 364, 365, 366, 367, 205, 206, 32, 207, 71, 368, 209, 210, 211, 44, 212, 213, 214, 215, 72, 73, 74, 458, 459] rfl (by decide +kernel)
set_option maxRecDepth 20000 in
theorem gpL_stages_L_refused_p6 : GoodIn wsL_stages wsL_refused_r6 := goodIn_r _ [460, 461, 284, 285, 286, 369, 370, 371, 372, 373, 375, 198, 199, 200, 50, 201, 202, 203, 204, 208, 216, 217, 218, 219] rfl (by decide +kernel)
set_option maxRecDepth 20000 in
theorem gpL_stages_L_refused_p7 : GoodIn wsL_stages wsL_refused_r7 := goodIn_r _ [42, 220, 230, 231, 232, 233, 234, 171, 172, 173, 174, 19, 170, 122, 123, 124, 102, 103, 104, 105, 48, 51, 52, 53] rfl (by decide +kernel)
set_option maxRecDepth 20000 in
theorem gpL_stages_L_refused_p8 : GoodIn wsL_stages wsL_refused_r8 := goodIn_r _ [54, 55, 56, 125, 126, 127, 128, 129, 62, 63, 64, 65, 66, 67, 130, 131, 132, 133, 134, 75, 135, 136, 137, 138] rfl (by decide +kernel)
set_option maxRecDepth 20000 in
theorem gpL_stages_L_refused_p9 : GoodIn wsL_stages wsL_refused_r9 := goodIn_r _ [79, 81, 139, 82, 83, 175, 176, 177, 178, 179, 185, 186, 187, 188, 189, 190, 191, 192, 148, 149, 150, 151, 193, 194] rfl (by decide +kernel)
set_option maxRecDepth 20000 in
theorem gpL_stages_L_refused_p10 : GoodIn wsL_stages wsL_refused_r10 := goodIn_r _ [195, 196, 197, 237, 238, 239, 240, 241, 242, 243, 244, 245, 246, 247, 248, 144, 145, 146, 147, 249, 250, 251, 252, 253] rfl (by decide +kernel)
set_option maxRecDepth 20000 in
theorem gpL_stages_L_refused_p11 : GoodIn wsL_stages wsL_refused_r11 := goodIn_r _ [254, 255, 256, 257, 259, 462, 463, 464, 268, 269, 270, 271, 113, 114, 115, 24, 116, 88, 90, 117, 118, 119, 120, 121] rfl (by decide +kernel)
set_option maxRecDepth 20000 in
theorem gpL_stages_L_refused_p12 : GoodIn wsL_stages wsL_refused_r12 := goodIn_r _ [274, 275, 276, 277, 465, 466, 467, 468, 438, 439, 440, 441, 442, 443, 444, 445, 278, 279, 280, 281, 282, 283, 287, 288] rfl (by decide +kernel)
set_option maxRecDepth 20000 in
theorem gpL_stages_L_refused_p13 : GoodIn wsL_stages wsL_refused_r13 := goodIn_r _ [289, 290, 394, 395, 396, 397, 398, 385, 386, 387, 388, 389, 390, 391, 392, 393, 376, 377, 378, 379, 263, 264, 265, 266] rfl (by decide +kernel)
set_option maxRecDepth 20000 in
theorem gpL_stages_L_refused_p14 : GoodIn wsL_stages wsL_refused_r14 := goodIn_r _ [106, 107, 108, 109, 140, 141, 142, 143, 152, 153, 154, 155] rfl (by decide +kernel)
set_option maxRecDepth 20000 in
theorem gpL_stages_L_refused_p15 : GoodIn wsL_stages wsX60 := goodIn_r _ [469, 470, 471, 472, 473, 474, 475] rfl (by decide +kernel)
set_option maxRecDepth 20000 in
theorem gpL_stages_L_refused_p16 : GoodIn wsL_stages wsX40 := goodIn_r _ [476, 477, 478, 479, 480, 481, 482, 483, 484, 485, 486, 487] rfl (by decide +kernel)
set_option maxRecDepth 20000 in
theorem gpL_stages_L_refused_p17 : GoodIn wsL_stages wsX00 := goodIn_r _ [498, 499, 500, 501, 502, 503, 504, 505] rfl (by decide +kernel)
set_option maxRecDepth 20000 in
theorem gpL_stages_L_refused_p18 : GoodIn wsL_stages wsX30 := goodIn_r _ [493, 494, 495, 496, 497] rfl (by decide +kernel)
set_option maxRecDepth 20000 in
theorem gpL_stages_L_refused_p19 : GoodIn wsL_stages wsX10 := goodIn_r _ [488, 489] rfl (by decide +kernel)
set_option maxRecDepth 20000 in
theorem gpL_stages_L_refused_p20 : GoodIn wsL_stages wsX50 := goodIn_r _ [490, 491, 492] rfl (by decide +kernel)
set_option maxRecDepth 20000 in
theorem gpL_stages_L_refused_p21 : GoodIn wsL_stages wsX20 := goodIn_r _ [506, 507, 508, 509, 510] rfl (by decide +kernel)
set_option maxRecDepth 20000 in
theorem ggL_stages_L_refused : GoodIn wsL_stages wsL_refused := (goodIn_app (a := [.code yL_refused cL_refused 5 (some .boolean)]) gpL_stages_L_refused_p0 (goodIn_app (goodIn_app (goodIn_app (goodIn_app (goodIn_app (goodIn_app (goodIn_app (goodIn_app gpL_stages_L_refused_p1 (goodIn_app gpL_stages_L_refused_p2 (goodIn_app gpL_stages_L_refused_p3 (goodIn_app gpL_stages_L_refused_p4 (goodIn_app gpL_stages_L_refused_p5 (goodIn_app gpL_stages_L_refused_p6 (goodIn_app gpL_stages_L_refused_p7 (goodIn_app gpL_stages_L_refused_p8 (goodIn_app gpL_stages_L_refused_p9 (goodIn_app gpL_stages_L_refused_p10 (goodIn_app gpL_stages_L_refused_p11 (goodIn_app gpL_stages_L_refused_p12 (goodIn_app gpL_stages_L_refused_p13 gpL_stages_L_refused_p14))))))))))))) gpL_stages_L_refused_p15) gpL_stages_L_refused_p16) gpL_stages_L_refused_p17) gpL_stages_L_refused_p18) gpL_stages_L_refused_p19) gpL_stages_L_refused_p20) gpL_stages_L_refused_p21))
set_option maxRecDepth 20000 in
theorem gL_stages_L_refused : GoodIn wsL_stages (va_wsS RL 176 yL_refused wsL_refused) := goodIn_app (goodIn_of _ (by decide +kernel)) ggL_stages_L_refused
theorem dL_stages_0 : decode cL_stages 0 = .ok (.new 14, 3) := by decide +kernel
theorem dL_stages_3 : decode cL_stages 3 = .ok (.dup, 1) := by decide +kernel
theorem dL_stages_4 : decode cL_stages 4 = .ok (.invokespecial 85, 3) := by decide +kernel
theorem dL_stages_7 : decode cL_stages 7 = .ok (.astore_n 0, 1) := by decide +kernel
theorem dL_stages_8 : decode cL_stages 8 = .ok (.aload_n 0, 1) := by decide +kernel
theorem dL_stages_9 : decode cL_stages 9 = .ok (.invokevirtual 65, 3) := by decide +kernel
theorem dL_stages_12 : decode cL_stages 12 = .ok (.bipush (-4), 2) := by decide +kernel
theorem dL_stages_14 : decode cL_stages 14 = .ok (.if_icmp .ne 84, 3) := by decide +kernel
theorem dL_stages_17 : decode cL_stages 17 = .ok (.aload_n 0, 1) := by decide +kernel
theorem dL_stages_18 : decode cL_stages 18 = .ok (.invokevirtual 68, 3) := by decide +kernel
theorem dL_stages_21 : decode cL_stages 21 = .ok (.bipush (-5), 2) := by decide +kernel
theorem dL_stages_23 : decode cL_stages 23 = .ok (.if_icmp .ne 75, 3) := by decide +kernel
theorem dL_stages_26 : decode cL_stages 26 = .ok (.aload_n 0, 1) := by decide +kernel
theorem dL_stages_27 : decode cL_stages 27 = .ok (.invokevirtual 157, 3) := by decide +kernel
theorem dL_stages_30 : decode cL_stages 30 = .ok (.bipush (-5), 2) := by decide +kernel
theorem dL_stages_32 : decode cL_stages 32 = .ok (.if_icmp .ne 66, 3) := by decide +kernel
theorem dL_stages_35 : decode cL_stages 35 = .ok (.aload_n 0, 1) := by decide +kernel
theorem dL_stages_36 : decode cL_stages 36 = .ok (.invokevirtual 160, 3) := by decide +kernel
theorem dL_stages_39 : decode cL_stages 39 = .ok (.bipush (-5), 2) := by decide +kernel
theorem dL_stages_41 : decode cL_stages 41 = .ok (.if_icmp .ne 57, 3) := by decide +kernel
theorem dL_stages_44 : decode cL_stages 44 = .ok (.aload_n 0, 1) := by decide +kernel
theorem dL_stages_45 : decode cL_stages 45 = .ok (.invokevirtual 36, 3) := by decide +kernel
theorem dL_stages_48 : decode cL_stages 48 = .ok (.bipush (-5), 2) := by decide +kernel
theorem dL_stages_50 : decode cL_stages 50 = .ok (.if_icmp .ne 48, 3) := by decide +kernel
theorem dL_stages_53 : decode cL_stages 53 = .ok (.aload_n 0, 1) := by decide +kernel
theorem dL_stages_54 : decode cL_stages 54 = .ok (.invokevirtual 62, 3) := by decide +kernel
theorem dL_stages_57 : decode cL_stages 57 = .ok (.bipush (-4), 2) := by decide +kernel
theorem dL_stages_59 : decode cL_stages 59 = .ok (.if_icmp .ne 39, 3) := by decide +kernel
theorem dL_stages_62 : decode cL_stages 62 = .ok (.aload_n 0, 1) := by decide +kernel
theorem dL_stages_63 : decode cL_stages 63 = .ok (.iconst 1, 1) := by decide +kernel
theorem dL_stages_64 : decode cL_stages 64 = .ok (.invokevirtual 39, 3) := by decide +kernel
theorem dL_stages_67 : decode cL_stages 67 = .ok (.iconst 3, 1) := by decide +kernel
theorem dL_stages_68 : decode cL_stages 68 = .ok (.if_icmp .ne 30, 3) := by decide +kernel
theorem dL_stages_71 : decode cL_stages 71 = .ok (.aload_n 0, 1) := by decide +kernel
theorem dL_stages_72 : decode cL_stages 72 = .ok (.iconst 1, 1) := by decide +kernel
theorem dL_stages_73 : decode cL_stages 73 = .ok (.sipush 200, 3) := by decide +kernel
theorem dL_stages_76 : decode cL_stages 76 = .ok (.invokevirtual 50, 3) := by decide +kernel
theorem dL_stages_79 : decode cL_stages 79 = .ok (.sipush 1100, 3) := by decide +kernel
theorem dL_stages_82 : decode cL_stages 82 = .ok (.if_icmp .ne 16, 3) := by decide +kernel
theorem dL_stages_85 : decode cL_stages 85 = .ok (.aload_n 0, 1) := by decide +kernel
theorem dL_stages_86 : decode cL_stages 86 = .ok (.iconst 2, 1) := by decide +kernel
theorem dL_stages_87 : decode cL_stages 87 = .ok (.bipush 100, 2) := by decide +kernel
theorem dL_stages_89 : decode cL_stages 89 = .ok (.invokevirtual 50, 3) := by decide +kernel
theorem dL_stages_92 : decode cL_stages 92 = .ok (.sipush 1090, 3) := by decide +kernel
theorem dL_stages_95 : decode cL_stages 95 = .ok (.if_icmp .eq 5, 3) := by decide +kernel
theorem dL_stages_98 : decode cL_stages 98 = .ok (.iconst 0, 1) := by decide +kernel
theorem dL_stages_99 : decode cL_stages 99 = .ok (.ireturn, 1) := by decide +kernel
theorem dL_stages_100 : decode cL_stages 100 = .ok (.aload_n 0, 1) := by decide +kernel
theorem dL_stages_101 : decode cL_stages 101 = .ok (.ldc2_w 163, 3) := by decide +kernel
theorem dL_stages_104 : decode cL_stages 104 = .ok (.invokestatic 86, 3) := by decide +kernel
theorem dL_stages_107 : decode cL_stages 107 = .ok (.ifCond .eq 137, 3) := by decide +kernel
theorem dL_stages_110 : decode cL_stages 110 = .ok (.aload_n 0, 1) := by decide +kernel
theorem dL_stages_111 : decode cL_stages 111 = .ok (.ldc2_w 165, 3) := by decide +kernel
theorem dL_stages_114 : decode cL_stages 114 = .ok (.invokestatic 86, 3) := by decide +kernel
theorem dL_stages_117 : decode cL_stages 117 = .ok (.ifCond .eq 127, 3) := by decide +kernel
theorem dL_stages_120 : decode cL_stages 120 = .ok (.aload_n 0, 1) := by decide +kernel
theorem dL_stages_121 : decode cL_stages 121 = .ok (.ldc2_w 167, 3) := by decide +kernel
theorem dL_stages_124 : decode cL_stages 124 = .ok (.invokestatic 86, 3) := by decide +kernel
theorem dL_stages_127 : decode cL_stages 127 = .ok (.ifCond .eq 117, 3) := by decide +kernel
theorem dL_stages_130 : decode cL_stages 130 = .ok (.aload_n 0, 1) := by decide +kernel
theorem dL_stages_131 : decode cL_stages 131 = .ok (.invokevirtual 90, 3) := by decide +kernel
theorem dL_stages_134 : decode cL_stages 134 = .ok (.iconst 3, 1) := by decide +kernel
theorem dL_stages_135 : decode cL_stages 135 = .ok (.if_icmp .ne 109, 3) := by decide +kernel
theorem dL_stages_138 : decode cL_stages 138 = .ok (.aload_n 0, 1) := by decide +kernel
theorem dL_stages_139 : decode cL_stages 139 = .ok (.iconst 0, 1) := by decide +kernel
theorem dL_stages_140 : decode cL_stages 140 = .ok (.iconst 0, 1) := by decide +kernel
theorem dL_stages_141 : decode cL_stages 141 = .ok (.invokevirtual 26, 3) := by decide +kernel
theorem dL_stages_144 : decode cL_stages 144 = .ok (.ifCond .ne 100, 3) := by decide +kernel
theorem dL_stages_147 : decode cL_stages 147 = .ok (.aload_n 0, 1) := by decide +kernel
theorem dL_stages_148 : decode cL_stages 148 = .ok (.iconst 0, 1) := by decide +kernel
theorem dL_stages_149 : decode cL_stages 149 = .ok (.iconst 1, 1) := by decide +kernel
theorem dL_stages_150 : decode cL_stages 150 = .ok (.invokevirtual 26, 3) := by decide +kernel
theorem dL_stages_153 : decode cL_stages 153 = .ok (.bipush 100, 2) := by decide +kernel
theorem dL_stages_155 : decode cL_stages 155 = .ok (.if_icmp .ne 89, 3) := by decide +kernel
theorem dL_stages_158 : decode cL_stages 158 = .ok (.aload_n 0, 1) := by decide +kernel
theorem dL_stages_159 : decode cL_stages 159 = .ok (.iconst 0, 1) := by decide +kernel
theorem dL_stages_160 : decode cL_stages 160 = .ok (.iconst 2, 1) := by decide +kernel
theorem dL_stages_161 : decode cL_stages 161 = .ok (.invokevirtual 26, 3) := by decide +kernel
theorem dL_stages_164 : decode cL_stages 164 = .ok (.sipush 3500, 3) := by decide +kernel
theorem dL_stages_167 : decode cL_stages 167 = .ok (.if_icmp .ne 77, 3) := by decide +kernel
theorem dL_stages_170 : decode cL_stages 170 = .ok (.aload_n 0, 1) := by decide +kernel
theorem dL_stages_171 : decode cL_stages 171 = .ok (.iconst 1, 1) := by decide +kernel
theorem dL_stages_172 : decode cL_stages 172 = .ok (.iconst 1, 1) := by decide +kernel
theorem dL_stages_173 : decode cL_stages 173 = .ok (.invokevirtual 26, 3) := by decide +kernel
theorem dL_stages_176 : decode cL_stages 176 = .ok (.sipush 3600, 3) := by decide +kernel
theorem dL_stages_179 : decode cL_stages 179 = .ok (.if_icmp .ne 65, 3) := by decide +kernel
theorem dL_stages_182 : decode cL_stages 182 = .ok (.aload_n 0, 1) := by decide +kernel
theorem dL_stages_183 : decode cL_stages 183 = .ok (.iconst 1, 1) := by decide +kernel
theorem dL_stages_184 : decode cL_stages 184 = .ok (.iconst 2, 1) := by decide +kernel
theorem dL_stages_185 : decode cL_stages 185 = .ok (.invokevirtual 26, 3) := by decide +kernel
theorem dL_stages_188 : decode cL_stages 188 = .ok (.bipush 20, 2) := by decide +kernel
theorem dL_stages_190 : decode cL_stages 190 = .ok (.if_icmp .ne 54, 3) := by decide +kernel
theorem dL_stages_193 : decode cL_stages 193 = .ok (.aload_n 0, 1) := by decide +kernel
theorem dL_stages_194 : decode cL_stages 194 = .ok (.iconst 2, 1) := by decide +kernel
theorem dL_stages_195 : decode cL_stages 195 = .ok (.iconst 1, 1) := by decide +kernel
theorem dL_stages_196 : decode cL_stages 196 = .ok (.invokevirtual 26, 3) := by decide +kernel
theorem dL_stages_199 : decode cL_stages 199 = .ok (.iconst 2, 1) := by decide +kernel
theorem dL_stages_200 : decode cL_stages 200 = .ok (.if_icmp .ne 44, 3) := by decide +kernel
theorem dL_stages_203 : decode cL_stages 203 = .ok (.aload_n 0, 1) := by decide +kernel
theorem dL_stages_204 : decode cL_stages 204 = .ok (.iconst 2, 1) := by decide +kernel
theorem dL_stages_205 : decode cL_stages 205 = .ok (.iconst 2, 1) := by decide +kernel
theorem dL_stages_206 : decode cL_stages 206 = .ok (.invokevirtual 26, 3) := by decide +kernel
theorem dL_stages_209 : decode cL_stages 209 = .ok (.ifCond .ne 35, 3) := by decide +kernel
theorem dL_stages_212 : decode cL_stages 212 = .ok (.aload_n 0, 1) := by decide +kernel
theorem dL_stages_213 : decode cL_stages 213 = .ok (.iconst 0, 1) := by decide +kernel
theorem dL_stages_214 : decode cL_stages 214 = .ok (.iconst 3, 1) := by decide +kernel
theorem dL_stages_215 : decode cL_stages 215 = .ok (.invokevirtual 26, 3) := by decide +kernel
theorem dL_stages_218 : decode cL_stages 218 = .ok (.ifCond .ne 26, 3) := by decide +kernel
theorem dL_stages_221 : decode cL_stages 221 = .ok (.aload_n 0, 1) := by decide +kernel
theorem dL_stages_222 : decode cL_stages 222 = .ok (.iconst 0, 1) := by decide +kernel
theorem dL_stages_223 : decode cL_stages 223 = .ok (.iconst 4, 1) := by decide +kernel
theorem dL_stages_224 : decode cL_stages 224 = .ok (.invokevirtual 26, 3) := by decide +kernel
theorem dL_stages_227 : decode cL_stages 227 = .ok (.sipush 3500, 3) := by decide +kernel
theorem dL_stages_230 : decode cL_stages 230 = .ok (.if_icmp .ne 14, 3) := by decide +kernel
theorem dL_stages_233 : decode cL_stages 233 = .ok (.aload_n 0, 1) := by decide +kernel
theorem dL_stages_234 : decode cL_stages 234 = .ok (.iconst 2, 1) := by decide +kernel
theorem dL_stages_235 : decode cL_stages 235 = .ok (.iconst 4, 1) := by decide +kernel
theorem dL_stages_236 : decode cL_stages 236 = .ok (.invokevirtual 26, 3) := by decide +kernel
theorem dL_stages_239 : decode cL_stages 239 = .ok (.bipush (-5), 2) := by decide +kernel
theorem dL_stages_241 : decode cL_stages 241 = .ok (.if_icmp .eq 5, 3) := by decide +kernel
theorem dL_stages_244 : decode cL_stages 244 = .ok (.iconst 0, 1) := by decide +kernel
theorem dL_stages_245 : decode cL_stages 245 = .ok (.ireturn, 1) := by decide +kernel
theorem dL_stages_246 : decode cL_stages 246 = .ok (.aload_n 0, 1) := by decide +kernel
theorem dL_stages_247 : decode cL_stages 247 = .ok (.invokevirtual 32, 3) := by decide +kernel
theorem dL_stages_250 : decode cL_stages 250 = .ok (.ifCond .ne 147, 3) := by decide +kernel
theorem dL_stages_253 : decode cL_stages 253 = .ok (.aload_n 0, 1) := by decide +kernel
theorem dL_stages_254 : decode cL_stages 254 = .ok (.invokevirtual 65, 3) := by decide +kernel
theorem dL_stages_257 : decode cL_stages 257 = .ok (.ifCond .ne 140, 3) := by decide +kernel
theorem dL_stages_260 : decode cL_stages 260 = .ok (.aload_n 0, 1) := by decide +kernel
theorem dL_stages_261 : decode cL_stages 261 = .ok (.invokevirtual 32, 3) := by decide +kernel
theorem dL_stages_264 : decode cL_stages 264 = .ok (.bipush 100, 2) := by decide +kernel
theorem dL_stages_266 : decode cL_stages 266 = .ok (.if_icmp .ne 131, 3) := by decide +kernel
theorem dL_stages_269 : decode cL_stages 269 = .ok (.aload_n 0, 1) := by decide +kernel
theorem dL_stages_270 : decode cL_stages 270 = .ok (.invokevirtual 36, 3) := by decide +kernel
theorem dL_stages_273 : decode cL_stages 273 = .ok (.bipush 8, 2) := by decide +kernel
theorem dL_stages_275 : decode cL_stages 275 = .ok (.if_icmp .ne 122, 3) := by decide +kernel
theorem dL_stages_278 : decode cL_stages 278 = .ok (.aload_n 0, 1) := by decide +kernel
theorem dL_stages_279 : decode cL_stages 279 = .ok (.iconst 0, 1) := by decide +kernel
theorem dL_stages_280 : decode cL_stages 280 = .ok (.iconst 4, 1) := by decide +kernel
theorem dL_stages_281 : decode cL_stages 281 = .ok (.invokevirtual 59, 3) := by decide +kernel
theorem dL_stages_284 : decode cL_stages 284 = .ok (.sipush 400, 3) := by decide +kernel
theorem dL_stages_287 : decode cL_stages 287 = .ok (.if_icmp .ne 110, 3) := by decide +kernel
theorem dL_stages_290 : decode cL_stages 290 = .ok (.aload_n 0, 1) := by decide +kernel
theorem dL_stages_291 : decode cL_stages 291 = .ok (.iconst 0, 1) := by decide +kernel
theorem dL_stages_292 : decode cL_stages 292 = .ok (.iconst 5, 1) := by decide +kernel
theorem dL_stages_293 : decode cL_stages 293 = .ok (.invokevirtual 59, 3) := by decide +kernel
theorem dL_stages_296 : decode cL_stages 296 = .ok (.sipush 1000, 3) := by decide +kernel
theorem dL_stages_299 : decode cL_stages 299 = .ok (.if_icmp .ne 98, 3) := by decide +kernel
theorem dL_stages_302 : decode cL_stages 302 = .ok (.aload_n 0, 1) := by decide +kernel
theorem dL_stages_303 : decode cL_stages 303 = .ok (.bipush 100, 2) := by decide +kernel
theorem dL_stages_305 : decode cL_stages 305 = .ok (.invokevirtual 56, 3) := by decide +kernel
theorem dL_stages_308 : decode cL_stages 308 = .ok (.sipush 3020, 3) := by decide +kernel
theorem dL_stages_311 : decode cL_stages 311 = .ok (.if_icmp .ne 86, 3) := by decide +kernel
theorem dL_stages_314 : decode cL_stages 314 = .ok (.aload_n 0, 1) := by decide +kernel
theorem dL_stages_315 : decode cL_stages 315 = .ok (.invokevirtual 90, 3) := by decide +kernel
theorem dL_stages_318 : decode cL_stages 318 = .ok (.bipush (-4), 2) := by decide +kernel
theorem dL_stages_320 : decode cL_stages 320 = .ok (.if_icmp .ne 77, 3) := by decide +kernel
theorem dL_stages_323 : decode cL_stages 323 = .ok (.aload_n 0, 1) := by decide +kernel
theorem dL_stages_324 : decode cL_stages 324 = .ok (.iconst 3, 1) := by decide +kernel
theorem dL_stages_325 : decode cL_stages 325 = .ok (.invokevirtual 53, 3) := by decide +kernel
theorem dL_stages_328 : decode cL_stages 328 = .ok (.iconst 1, 1) := by decide +kernel
theorem dL_stages_329 : decode cL_stages 329 = .ok (.if_icmp .ne 68, 3) := by decide +kernel
theorem dL_stages_332 : decode cL_stages 332 = .ok (.aload_n 0, 1) := by decide +kernel
theorem dL_stages_333 : decode cL_stages 333 = .ok (.iconst 4, 1) := by decide +kernel
theorem dL_stages_334 : decode cL_stages 334 = .ok (.invokevirtual 19, 3) := by decide +kernel
theorem dL_stages_337 : decode cL_stages 337 = .ok (.ifCond .ne 60, 3) := by decide +kernel
theorem dL_stages_340 : decode cL_stages 340 = .ok (.aload_n 0, 1) := by decide +kernel
theorem dL_stages_341 : decode cL_stages 341 = .ok (.iconst 5, 1) := by decide +kernel
theorem dL_stages_342 : decode cL_stages 342 = .ok (.invokevirtual 19, 3) := by decide +kernel
theorem dL_stages_345 : decode cL_stages 345 = .ok (.iconst 3, 1) := by decide +kernel
theorem dL_stages_346 : decode cL_stages 346 = .ok (.if_icmp .ne 51, 3) := by decide +kernel
theorem dL_stages_349 : decode cL_stages 349 = .ok (.aload_n 0, 1) := by decide +kernel
theorem dL_stages_350 : decode cL_stages 350 = .ok (.iconst 0, 1) := by decide +kernel
theorem dL_stages_351 : decode cL_stages 351 = .ok (.iconst 1, 1) := by decide +kernel
theorem dL_stages_352 : decode cL_stages 352 = .ok (.invokevirtual 13, 3) := by decide +kernel
theorem dL_stages_355 : decode cL_stages 355 = .ok (.sipush 3360, 3) := by decide +kernel
theorem dL_stages_358 : decode cL_stages 358 = .ok (.if_icmp .ne 39, 3) := by decide +kernel
theorem dL_stages_361 : decode cL_stages 361 = .ok (.aload_n 0, 1) := by decide +kernel
theorem dL_stages_362 : decode cL_stages 362 = .ok (.iconst 1, 1) := by decide +kernel
theorem dL_stages_363 : decode cL_stages 363 = .ok (.invokevirtual 53, 3) := by decide +kernel
theorem dL_stages_366 : decode cL_stages 366 = .ok (.iconst 1, 1) := by decide +kernel
theorem dL_stages_367 : decode cL_stages 367 = .ok (.if_icmp .ne 30, 3) := by decide +kernel
theorem dL_stages_370 : decode cL_stages 370 = .ok (.aload_n 0, 1) := by decide +kernel
theorem dL_stages_371 : decode cL_stages 371 = .ok (.iconst 4, 1) := by decide +kernel
theorem dL_stages_372 : decode cL_stages 372 = .ok (.invokevirtual 19, 3) := by decide +kernel
theorem dL_stages_375 : decode cL_stages 375 = .ok (.iconst 1, 1) := by decide +kernel
theorem dL_stages_376 : decode cL_stages 376 = .ok (.if_icmp .ne 21, 3) := by decide +kernel
theorem dL_stages_379 : decode cL_stages 379 = .ok (.aload_n 0, 1) := by decide +kernel
theorem dL_stages_380 : decode cL_stages 380 = .ok (.iconst 5, 1) := by decide +kernel
theorem dL_stages_381 : decode cL_stages 381 = .ok (.invokevirtual 19, 3) := by decide +kernel
theorem dL_stages_384 : decode cL_stages 384 = .ok (.ifCond .ne 13, 3) := by decide +kernel
theorem dL_stages_387 : decode cL_stages 387 = .ok (.aload_n 0, 1) := by decide +kernel
theorem dL_stages_388 : decode cL_stages 388 = .ok (.invokevirtual 32, 3) := by decide +kernel
theorem dL_stages_391 : decode cL_stages 391 = .ok (.sipush 604, 3) := by decide +kernel
theorem dL_stages_394 : decode cL_stages 394 = .ok (.if_icmp .eq 5, 3) := by decide +kernel
theorem dL_stages_397 : decode cL_stages 397 = .ok (.iconst 0, 1) := by decide +kernel
theorem dL_stages_398 : decode cL_stages 398 = .ok (.ireturn, 1) := by decide +kernel
theorem dL_stages_399 : decode cL_stages 399 = .ok (.aload_n 0, 1) := by decide +kernel
theorem dL_stages_400 : decode cL_stages 400 = .ok (.iconst 1, 1) := by decide +kernel
theorem dL_stages_401 : decode cL_stages 401 = .ok (.invokevirtual 53, 3) := by decide +kernel
theorem dL_stages_404 : decode cL_stages 404 = .ok (.iconst 1, 1) := by decide +kernel
theorem dL_stages_405 : decode cL_stages 405 = .ok (.if_icmp .ne 155, 3) := by decide +kernel
theorem dL_stages_408 : decode cL_stages 408 = .ok (.aload_n 0, 1) := by decide +kernel
theorem dL_stages_409 : decode cL_stages 409 = .ok (.iconst 0, 1) := by decide +kernel
theorem dL_stages_410 : decode cL_stages 410 = .ok (.iconst 0, 1) := by decide +kernel
theorem dL_stages_411 : decode cL_stages 411 = .ok (.invokevirtual 13, 3) := by decide +kernel
theorem dL_stages_414 : decode cL_stages 414 = .ok (.sipush 1000, 3) := by decide +kernel
theorem dL_stages_417 : decode cL_stages 417 = .ok (.if_icmp .ne 143, 3) := by decide +kernel
theorem dL_stages_420 : decode cL_stages 420 = .ok (.aload_n 0, 1) := by decide +kernel
theorem dL_stages_421 : decode cL_stages 421 = .ok (.iconst 0, 1) := by decide +kernel
theorem dL_stages_422 : decode cL_stages 422 = .ok (.iconst 3, 1) := by decide +kernel
theorem dL_stages_423 : decode cL_stages 423 = .ok (.invokevirtual 13, 3) := by decide +kernel
theorem dL_stages_426 : decode cL_stages 426 = .ok (.sipush 1004, 3) := by decide +kernel
theorem dL_stages_429 : decode cL_stages 429 = .ok (.if_icmp .ne 131, 3) := by decide +kernel
theorem dL_stages_432 : decode cL_stages 432 = .ok (.aload_n 0, 1) := by decide +kernel
theorem dL_stages_433 : decode cL_stages 433 = .ok (.iconst 0, 1) := by decide +kernel
theorem dL_stages_434 : decode cL_stages 434 = .ok (.iconst 4, 1) := by decide +kernel
theorem dL_stages_435 : decode cL_stages 435 = .ok (.invokevirtual 13, 3) := by decide +kernel
theorem dL_stages_438 : decode cL_stages 438 = .ok (.sipush 1004, 3) := by decide +kernel
theorem dL_stages_441 : decode cL_stages 441 = .ok (.if_icmp .ne 119, 3) := by decide +kernel
