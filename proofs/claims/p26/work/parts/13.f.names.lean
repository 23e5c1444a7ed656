theorem dL_bled_315 : decode cL_bled 315 = .ok (.aload_n 0, 1) := by decide +kernel
theorem dL_bled_316 : decode cL_bled 316 = .ok (.iconst 3, 1) := by decide +kernel
theorem dL_bled_317 : decode cL_bled 317 = .ok (.invokevirtual 19, 3) := by decide +kernel
theorem dL_bled_320 : decode cL_bled 320 = .ok (.ifCond .ne 51, 3) := by decide +kernel
theorem dL_bled_323 : decode cL_bled 323 = .ok (.aload_n 0, 1) := by decide +kernel
theorem dL_bled_324 : decode cL_bled 324 = .ok (.iconst 5, 1) := by decide +kernel
theorem dL_bled_325 : decode cL_bled 325 = .ok (.iconst 0, 1) := by decide +kernel
theorem dL_bled_326 : decode cL_bled 326 = .ok (.invokevirtual 13, 3) := by decide +kernel
theorem dL_bled_329 : decode cL_bled 329 = .ok (.ifCond .ne 42, 3) := by decide +kernel
theorem dL_bled_332 : decode cL_bled 332 = .ok (.aload_n 0, 1) := by decide +kernel
theorem dL_bled_333 : decode cL_bled 333 = .ok (.iconst 1, 1) := by decide +kernel
theorem dL_bled_334 : decode cL_bled 334 = .ok (.iconst 3, 1) := by decide +kernel
theorem dL_bled_335 : decode cL_bled 335 = .ok (.invokevirtual 13, 3) := by decide +kernel
theorem dL_bled_338 : decode cL_bled 338 = .ok (.ifCond .ne 33, 3) := by decide +kernel
theorem dL_bled_341 : decode cL_bled 341 = .ok (.aload_n 0, 1) := by decide +kernel
theorem dL_bled_342 : decode cL_bled 342 = .ok (.iconst 2, 1) := by decide +kernel
theorem dL_bled_343 : decode cL_bled 343 = .ok (.invokevirtual 19, 3) := by decide +kernel
theorem dL_bled_346 : decode cL_bled 346 = .ok (.iconst 1, 1) := by decide +kernel
theorem dL_bled_347 : decode cL_bled 347 = .ok (.if_icmp .ne 24, 3) := by decide +kernel
theorem dL_bled_350 : decode cL_bled 350 = .ok (.aload_n 0, 1) := by decide +kernel
theorem dL_bled_351 : decode cL_bled 351 = .ok (.iconst 0, 1) := by decide +kernel
theorem dL_bled_352 : decode cL_bled 352 = .ok (.invokevirtual 19, 3) := by decide +kernel
theorem dL_bled_355 : decode cL_bled 355 = .ok (.bipush 8, 2) := by decide +kernel
theorem dL_bled_357 : decode cL_bled 357 = .ok (.if_icmp .ne 14, 3) := by decide +kernel
theorem dL_bled_360 : decode cL_bled 360 = .ok (.aload_n 0, 1) := by decide +kernel
theorem dL_bled_361 : decode cL_bled 361 = .ok (.invokestatic 176, 3) := by decide +kernel
theorem dL_bled_364 : decode cL_bled 364 = .ok (.ifCond .eq 7, 3) := by decide +kernel
theorem dL_bled_367 : decode cL_bled 367 = .ok (.iconst 1, 1) := by decide +kernel
theorem dL_bled_368 : decode cL_bled 368 = .ok (.goto 4, 3) := by decide +kernel
theorem dL_bled_371 : decode cL_bled 371 = .ok (.iconst 0, 1) := by decide +kernel
theorem dL_bled_372 : decode cL_bled 372 = .ok (.ireturn, 1) := by decide +kernel
set_option maxRecDepth 20000 in
theorem gpL_law_L_texts_p0 : GoodIn wsL_law [.code yL_texts cL_texts 0 (some .boolean)] := goodIn_r _ [9] rfl (by decide +kernel)
set_option maxRecDepth 20000 in
theorem gpL_law_L_texts_p1 : GoodIn wsL_law wsL_texts_r1 := goodIn_r _ [10, 11, 12, 13, 14, 15, 16, 17, 18, 19, 20, 21, 22, 23, 24, 25, 26, 27, 28, 29, 30, 31, 32, 33] rfl (by decide +kernel)
set_option maxRecDepth 20000 in
theorem gpL_law_L_texts_p2 : GoodIn wsL_law wsL_texts_r2 := goodIn_r _ [34, 35, 36, 37, 38, 39, 40, 41, 8, 42, 0, 1, 2, 43, 44, 45, 46, 47, 48, 49, 50, 51, 52, 53] rfl (by decide +kernel)
set_option maxRecDepth 20000 in
theorem gpL_law_L_texts_p3 : GoodIn wsL_law wsL_texts_r3 := goodIn_r _ [54, 55, 56, 57, 58, 59, 60, 61, 62, 63, 64, 65, 66, 67, 68, 69, 70, 71, 72, 73, 74, 75, 76, 77] rfl (by decide +kernel)
set_option maxRecDepth 20000 in
theorem gpL_law_L_texts_p4 : GoodIn wsL_law wsL_texts_r4 := goodIn_r _ [78, 79, 80, 81, 82, 83, 84, 85, 86, 87, 88, 89, 90, 91, 92, 93, 94, 95, 96, 97, 98, 99, 100, 101] rfl (by decide +kernel)
set_option maxRecDepth 20000 in
theorem gpL_law_L_texts_p5 : GoodIn wsL_law wsL_texts_r5 := goodIn_r _ [102, 103, 104, 105, 106, 107, 108, 109, 110, 111, 112, 113, 114, 115, 116, 117, 118, 119, 120, 121, 122, 123, 124, 125] rfl (by decide +kernel)
set_option maxRecDepth 20000 in
theorem gpL_law_L_texts_p6 : GoodIn wsL_law wsL_texts_r6 := goodIn_r _ [126, 127, 128, 129, 130, 131, 132, 133, 134, 135, 136, 137, 138, 139, 140, 141, 142, 143, 144, 145, 146, 147, 148, 149] rfl (by decide +kernel)
set_option maxRecDepth 20000 in
theorem gpL_law_L_texts_p7 : GoodIn wsL_law wsL_texts_r7 := goodIn_r _ [150, 151, 152, 153, 154, 155, 156, 157, 158, 159, 160, 161, 162, 163, 164, 165, 166, 167, 168, 169, 170, 171, 172, 173] rfl (by decide +kernel)
set_option maxRecDepth 20000 in
theorem gpL_law_L_texts_p8 : GoodIn wsL_law wsL_texts_r8 := goodIn_r _ [174, 175, 176, 177, 178, 179, 180, 181, 182, 183, 184, 185, 186, 187, 188, 189, 190, 191, 192, 193, 194, 195, 196, 197] rfl (by decide +kernel)
set_option maxRecDepth 20000 in
theorem gpL_law_L_texts_p9 : GoodIn wsL_law wsL_texts_r9 := goodIn_r _ [198, 199, 200, 201, 202, 203, 204, 205, 206, 207, 208, 209, 210, 211, 212, 213, 214, 215, 216, 217, 218, 219, 220, 221] rfl (by decide +kernel)
set_option maxRecDepth 20000 in
theorem gpL_law_L_texts_p10 : GoodIn wsL_law wsL_texts_r10 := goodIn_r _ [222, 223, 224, 225, 226, 227, 228, 229, 230, 231, 232, 233, 234, 235, 236, 237, 238, 239, 240, 241, 242, 243, 244, 245] rfl (by decide +kernel)
set_option maxRecDepth 20000 in
theorem gpL_law_L_texts_p11 : GoodIn wsL_law wsL_texts_r11 := goodIn_r _ [246, 247, 248, 249, 250, 251, 252, 253, 254, 255, 256, 257, 258, 259, 260, 261, 262, 263, 264, 265, 266, 267, 268, 269] rfl (by decide +kernel)
set_option maxRecDepth 20000 in
theorem gpL_law_L_texts_p12 : GoodIn wsL_law wsL_texts_r12 := goodIn_r _ [270] rfl (by decide +kernel)
set_option maxRecDepth 20000 in
theorem gpL_law_L_texts_p13 : GoodIn wsL_law wsX60 := goodIn_r _ [526, 527, 528, 529, 530, 531, 532] rfl (by decide +kernel)
set_option maxRecDepth 20000 in
theorem gpL_law_L_texts_p14 : GoodIn wsL_law wsX40 := goodIn_r _ [533, 534, 535, 536, 537, 538, 539, 540, 541, 542, 543, 544] rfl (by decide +kernel)
set_option maxRecDepth 20000 in
theorem gpL_law_L_texts_p15 : GoodIn wsL_law wsX10 := goodIn_r _ [545, 546] rfl (by decide +kernel)
set_option maxRecDepth 20000 in
theorem gpL_law_L_texts_p16 : GoodIn wsL_law wsX50 := goodIn_r _ [547, 548, 549] rfl (by decide +kernel)
set_option maxRecDepth 20000 in
theorem gpL_law_L_texts_p17 : GoodIn wsL_law wsX30 := goodIn_r _ [550, 551, 552, 553, 554] rfl (by decide +kernel)
set_option maxRecDepth 20000 in
theorem gpL_law_L_texts_p18 : GoodIn wsL_law wsX00 := goodIn_r _ [555, 556, 557, 558, 559, 560, 561, 562] rfl (by decide +kernel)
set_option maxRecDepth 20000 in
theorem gpL_law_L_texts_p19 : GoodIn wsL_law wsX20 := goodIn_r _ [563, 564, 565, 566, 567] rfl (by decide +kernel)
set_option maxRecDepth 20000 in
theorem ggL_law_L_texts : GoodIn wsL_law wsL_texts := (goodIn_app (a := [.code yL_texts cL_texts 0 (some .boolean)]) gpL_law_L_texts_p0 (goodIn_app (goodIn_app (goodIn_app (goodIn_app (goodIn_app (goodIn_app (goodIn_app (goodIn_app gpL_law_L_texts_p1 (goodIn_app gpL_law_L_texts_p2 (goodIn_app gpL_law_L_texts_p3 (goodIn_app gpL_law_L_texts_p4 (goodIn_app gpL_law_L_texts_p5 (goodIn_app gpL_law_L_texts_p6 (goodIn_app gpL_law_L_texts_p7 (goodIn_app gpL_law_L_texts_p8 (goodIn_app gpL_law_L_texts_p9 (goodIn_app gpL_law_L_texts_p10 (goodIn_app gpL_law_L_texts_p11 gpL_law_L_texts_p12))))))))))) gpL_law_L_texts_p13) gpL_law_L_texts_p14) gpL_law_L_texts_p15) gpL_law_L_texts_p16) gpL_law_L_texts_p17) gpL_law_L_texts_p18) gpL_law_L_texts_p19))
set_option maxRecDepth 20000 in
theorem gL_law_L_texts : GoodIn wsL_law (va_wsS RL 182 yL_texts wsL_texts) := goodIn_app (goodIn_of _ (by decide +kernel)) ggL_law_L_texts
set_option maxRecDepth 20000 in
theorem gpL_law_L_stages_p0 : GoodIn wsL_law [.code yL_stages cL_stages 1 (some .boolean)] := goodIn_r _ [273] rfl (by decide +kernel)
set_option maxRecDepth 20000 in
theorem gpL_law_L_stages_p1 : GoodIn wsL_law wsL_stages_r1 := goodIn_r _ [0, 1, 2, 274, 275, 276, 277, 278, 43, 44, 45, 46, 47, 48, 49, 50, 51, 52, 53, 54, 55, 56, 57, 58] rfl (by decide +kernel)
set_option maxRecDepth 20000 in
theorem gpL_law_L_stages_p2 : GoodIn wsL_law wsL_stages_r2 := goodIn_r _ [59, 60, 61, 62, 63, 64, 65, 66, 67, 68, 69, 70, 71, 72, 73, 74, 75, 76, 77, 78, 79, 80, 81, 82] rfl (by decide +kernel)
set_option maxRecDepth 20000 in
theorem gpL_law_L_stages_p3 : GoodIn wsL_law wsL_stages_r3 := goodIn_r _ [83, 84, 85, 86, 87, 88, 89, 90, 91, 92, 93, 94, 95, 96, 97, 98, 99, 100, 101, 102, 103, 104, 105, 106] rfl (by decide +kernel)
set_option maxRecDepth 20000 in
theorem gpL_law_L_stages_p4 : GoodIn wsL_law wsL_stages_r4 := goodIn_r _ [107, 108, 109, 110, 111, 112, 113, 114, 115, 116, 117, 118, 119, 120, 121, 122, 123, 124, 125, 126, 127, 128, 129, 130] rfl (by decide +kernel)
set_option maxRecDepth 20000 in
theorem gpL_law_L_stages_p5 : GoodIn wsL_law wsL_stages_r5 := goodIn_r _ [131, 132, 133, 134, 135, 136, 137, 138, 139, 279, 280, 281, 282, 158, 159, 160, 211, 212, 213, 214, 215, 216, 217, 218] rfl (by decide +kernel)
set_option maxRecDepth 20000 in
theorem gpL_law_L_stages_p6 : GoodIn wsL_law wsL_stages_r6 := goodIn_r _ [219, 220, 221, 222, 223, 224, 225, 226, 227, 228, 229, 230, 231, 232, 233, 234, 235, 236, 237, 283, 284, 285, 286, 287] rfl (by decide +kernel)
set_option maxRecDepth 20000 in
theorem gpL_law_L_stages_p7 : GoodIn wsL_law wsL_stages_r7 := goodIn_r _ [288, 289, 290, 291, 292, 293, 294, 295, 296, 297, 298, 299, 300, 301, 302, 251, 303, 304, 305, 306, 307, 308, 309, 310] rfl (by decide +kernel)
set_option maxRecDepth 20000 in
theorem gpL_law_L_stages_p8 : GoodIn wsL_law wsL_stages_r8 := goodIn_r _ [243, 311, 312, 313, 314, 315, 316, 317, 318, 319, 320, 268, 269, 270, 209, 210, 321, 322, 323, 324, 325, 326, 327, 328] rfl (by decide +kernel)
set_option maxRecDepth 20000 in
theorem gpL_law_L_stages_p9 : GoodIn wsL_law wsL_stages_r9 := goodIn_r _ [329, 330, 331, 332, 333, 334, 335, 336, 337, 338, 339, 340, 341, 342, 343, 344, 345, 346, 347, 348, 349, 350, 351, 352] rfl (by decide +kernel)
set_option maxRecDepth 20000 in
theorem gpL_law_L_stages_p10 : GoodIn wsL_law wsL_stages_r10 := goodIn_r _ [353, 354, 355, 356, 261, 262, 263, 264, 265, 258, 266, 357, 358, 359, 360, 361, 362, 363, 257, 259, 364, 365, 366, 367] rfl (by decide +kernel)
set_option maxRecDepth 20000 in
theorem gpL_law_L_stages_p11 : GoodIn wsL_law wsL_stages_r11 := goodIn_r _ [368, 369, 370, 371, 372, 373, 374, 375, 376, 377, 378, 379, 380, 381, 382, 383, 384, 256, 385, 253, 254, 255, 386, 387] rfl (by decide +kernel)
set_option maxRecDepth 20000 in
theorem gpL_law_L_stages_p12 : GoodIn wsL_law wsL_stages_r12 := goodIn_r _ [388, 389, 390, 391, 392, 393, 394, 244, 245, 395, 396, 397, 398, 399, 400, 401, 402, 403, 404, 405, 406, 407, 408, 409] rfl (by decide +kernel)
set_option maxRecDepth 20000 in
theorem gpL_law_L_stages_p13 : GoodIn wsL_law wsL_stages_r13 := goodIn_r _ [410, 411, 140, 141, 8, 142, 143, 144, 145, 146, 147, 148, 149, 150, 151, 152, 153, 154, 155, 156, 157, 161, 162, 163] rfl (by decide +kernel)
set_option maxRecDepth 20000 in
theorem gpL_law_L_stages_p14 : GoodIn wsL_law wsL_stages_r14 := goodIn_r _ [164, 165, 166, 167, 168, 169, 170, 171, 172, 173, 174, 175, 176, 177, 178, 179, 180, 181, 182, 183, 184, 185, 186, 187] rfl (by decide +kernel)
set_option maxRecDepth 20000 in
theorem gpL_law_L_stages_p15 : GoodIn wsL_law wsL_stages_r15 := goodIn_r _ [188, 189, 190, 191, 192, 193, 194, 195, 196, 197, 198, 199, 200, 201, 202, 203, 204, 205, 206, 207, 208, 238, 412, 413] rfl (by decide +kernel)
set_option maxRecDepth 20000 in
theorem gpL_law_L_stages_p16 : GoodIn wsL_law wsL_stages_r16 := goodIn_r _ [414, 415, 416, 417, 418, 419, 420, 421, 422, 423, 424, 425, 426, 267, 427, 428, 429, 430, 431, 432, 433, 434, 435, 436] rfl (by decide +kernel)
set_option maxRecDepth 20000 in
theorem gpL_law_L_stages_p17 : GoodIn wsL_law wsL_stages_r17 := goodIn_r _ [437, 438, 439, 440, 441, 442, 443, 444, 445, 446, 447, 448, 449, 450, 239, 240, 241, 242, 246, 247, 248, 249, 250, 252] rfl (by decide +kernel)
set_option maxRecDepth 20000 in
theorem gpL_law_L_stages_p18 : GoodIn wsL_law wsL_stages_r18 := goodIn_r _ [260, 451, 452, 453, 454, 455, 456, 457, 458, 459, 460, 461, 462, 463, 464, 465, 466, 467, 468, 469, 470, 471, 472, 473] rfl (by decide +kernel)
set_option maxRecDepth 20000 in
theorem gpL_law_L_stages_p19 : GoodIn wsL_law wsL_stages_r19 := goodIn_r _ [474, 475, 476, 477, 478, 479, 480, 481, 482, 483, 484, 485, 486, 487, 488, 489, 490, 491, 492, 493, 494, 495, 496, 497] rfl (by decide +kernel)
set_option maxRecDepth 20000 in
theorem gpL_law_L_stages_p20 : GoodIn wsL_law wsL_stages_r20 := goodIn_r _ [498, 499, 500, 501, 502, 503, 504, 505, 506, 507, 508, 509] rfl (by decide +kernel)
set_option maxRecDepth 20000 in
theorem gpL_law_L_stages_p21 : GoodIn wsL_law wsX60 := goodIn_r _ [526, 527, 528, 529, 530, 531, 532] rfl (by decide +kernel)
set_option maxRecDepth 20000 in
theorem gpL_law_L_stages_p22 : GoodIn wsL_law wsX40 := goodIn_r _ [533, 534, 535, 536, 537, 538, 539, 540, 541, 542, 543, 544] rfl (by decide +kernel)
set_option maxRecDepth 20000 in
theorem gpL_law_L_stages_p23 : GoodIn wsL_law wsX10 := goodIn_r _ [545, 546] rfl (by decide +kernel)
set_option maxRecDepth 20000 in
theorem gpL_law_L_stages_p24 : GoodIn wsL_law wsX50 := goodIn_r _ [547, 548, 549] rfl (by decide +kernel)
set_option maxRecDepth 20000 in
theorem gpL_law_L_stages_p25 : GoodIn wsL_law wsX30 := goodIn_r _ [550, 551, 552, 553, 554] rfl (by decide +kernel)
set_option maxRecDepth 20000 in
theorem gpL_law_L_stages_p26 : GoodIn wsL_law wsX00 := goodIn_r _ [555, 556, 557, 558, 559, 560, 561, 562] rfl (by decide +kernel)
set_option maxRecDepth 20000 in
theorem gpL_law_L_stages_p27 : GoodIn wsL_law wsX20 := goodIn_r _ [563, 564, 565, 566, 567] rfl (by decide +kernel)
set_option maxRecDepth 20000 in
theorem ggL_law_L_stages : GoodIn wsL_law wsL_stages := (goodIn_app (a := [.code yL_stages cL_stages 1 (some .boolean)]) gpL_law_L_stages_p0 (goodIn_app (goodIn_app (goodIn_app (goodIn_app (goodIn_app (goodIn_app (goodIn_app (goodIn_app gpL_law_L_stages_p1 (goodIn_app gpL_law_L_stages_p2 (goodIn_app gpL_law_L_stages_p3 (goodIn_app gpL_law_L_stages_p4 (goodIn_app gpL_law_L_stages_p5 (goodIn_app gpL_law_L_stages_p6 (goodIn_app gpL_law_L_stages_p7 (goodIn_app gpL_law_L_stages_p8 (goodIn_app gpL_law_L_stages_p9 (goodIn_app gpL_law_L_stages_p10 (goodIn_app gpL_law_L_stages_p11 (goodIn_app gpL_law_L_stages_p12 (goodIn_app gpL_law_L_stages_p13 (goodIn_app gpL_law_L_stages_p14 (goodIn_app gpL_law_L_stages_p15 (goodIn_app gpL_law_L_stages_p16 (goodIn_app gpL_law_L_stages_p17 (goodIn_app gpL_law_L_stages_p18 (goodIn_app gpL_law_L_stages_p19 gpL_law_L_stages_p20))))))))))))))))))) gpL_law_L_stages_p21) gpL_law_L_stages_p22) gpL_law_L_stages_p23) gpL_law_L_stages_p24) gpL_law_L_stages_p25) gpL_law_L_stages_p26) gpL_law_L_stages_p27))
set_option maxRecDepth 20000 in
theorem gL_law_L_stages : GoodIn wsL_law (va_wsS RL 186 yL_stages wsL_stages) := goodIn_app (goodIn_of _ (by decide +kernel)) ggL_law_L_stages
set_option maxRecDepth 20000 in
theorem gpL_law_L_bled_p0 : GoodIn wsL_law [.code yL_bled cL_bled 1 (some .boolean)] := goodIn_r _ [512] rfl (by decide +kernel)
set_option maxRecDepth 20000 in
theorem gpL_law_L_bled_p1 : GoodIn wsL_law wsL_bled_r1 := goodIn_r _ [0, 1, 2, 513, 43, 44, 45, 46, 47, 48, 49, 50, 51, 52, 53, 54, 55, 56, 57, 58, 59, 60, 61, 62] rfl (by decide +kernel)
set_option maxRecDepth 20000 in
theorem gpL_law_L_bled_p2 : GoodIn wsL_law wsL_bled_r2 := goodIn_r _ [63, 64, 65, 66, 67, 68, 69, 70, 71, 72, 73, 74, 75, 76, 77, 78, 79, 80, 81, 82, 83, 84, 85, 86] rfl (by decide +kernel)
set_option maxRecDepth 20000 in
theorem gpL_law_L_bled_p3 : GoodIn wsL_law wsL_bled_r3 := goodIn_r _ [87, 88, 89, 90, 91, 92, 93, 94, 95, 96, 97, 98, 99, 100, 101, 102, 103, 104, 105, 106, 107, 108, 109, 110] rfl (by decide +kernel)
set_option maxRecDepth 20000 in
theorem gpL_law_L_bled_p4 : GoodIn wsL_law wsL_bled_r4 := goodIn_r _ [111, 112, 113, 114, 115, 116, 117, 118, 119, 120, 121, 122, 123, 124, 125, 126, 127, 128, 129, 130, 131, 132, 133, 134] rfl (by decide +kernel)
set_option maxRecDepth 20000 in
theorem gpL_law_L_bled_p5 : GoodIn wsL_law wsL_bled_r5 := goodIn_r _ [135, 136, 137, 138, 139, 391, 392, 393, 394, 244, 245, 158, 211, 212, 213, 214, 215, 216, 217, 218, 219, 220, 221, 222] rfl (by decide +kernel)
set_option maxRecDepth 20000 in
theorem gpL_law_L_bled_p6 : GoodIn wsL_law wsL_bled_r6 := goodIn_r _ [223, 224, 225, 226, 227, 228, 229, 230, 231, 232, 233, 234, 235, 236, 237, 395, 396, 397, 398, 256, 257, 258, 259, 264] rfl (by decide +kernel)
set_option maxRecDepth 20000 in
theorem gpL_law_L_bled_p7 : GoodIn wsL_law wsL_bled_r7 := goodIn_r _ [265, 266, 506, 507, 508, 509, 390, 432, 455, 433, 434, 435, 436, 399, 400, 401, 402, 403, 404, 405, 406, 407, 408, 409] rfl (by decide +kernel)
set_option maxRecDepth 20000 in
theorem gpL_law_L_bled_p8 : GoodIn wsL_law wsL_bled_r8 := goodIn_r _ [410, 411, 356, 261, 262, 263, 446, 447, 448, 449, 243, 450, 437, 438, 439, 440, 321, 322, 323, 324, 320, 268, 269, 270] rfl (by decide +kernel)
set_option maxRecDepth 20000 in
theorem gpL_law_L_bled_p9 : GoodIn wsL_law wsL_bled_r9 := goodIn_r _ [209, 210, 325, 326, 327, 328, 291, 292, 293, 294, 329, 330, 331, 332, 333, 334, 335, 336, 337, 338, 339, 340, 341, 342] rfl (by decide +kernel)
set_option maxRecDepth 20000 in
theorem gpL_law_L_bled_p10 : GoodIn wsL_law wsL_bled_r10 := goodIn_r _ [343, 344, 345, 346, 347, 348, 349, 350, 351, 352, 353, 354, 355, 357, 358, 359, 360, 361, 362, 363, 364, 365, 366, 367] rfl (by decide +kernel)
set_option maxRecDepth 20000 in
theorem gpL_law_L_bled_p11 : GoodIn wsL_law wsL_bled_r11 := goodIn_r _ [368, 369, 370, 371, 372, 373, 374, 375, 287, 288, 289, 290, 376, 377, 378, 379, 380, 381, 382, 383, 384, 385, 253, 254] rfl (by decide +kernel)
set_option maxRecDepth 20000 in
theorem gpL_law_L_bled_p12 : GoodIn wsL_law wsL_bled_r12 := goodIn_r _ [255, 451, 452, 453, 454, 456, 457, 458, 459, 460, 461, 428, 429, 430, 431, 311, 239, 240, 241, 242, 159, 160, 246, 247] rfl (by decide +kernel)
set_option maxRecDepth 20000 in
theorem gpL_law_L_bled_p13 : GoodIn wsL_law wsL_bled_r13 := goodIn_r _ [248, 249, 250, 251, 148, 252, 260, 267, 140, 141, 8, 142, 143, 144, 145, 146, 147, 149, 150, 151, 152, 153, 154, 155] rfl (by decide +kernel)
set_option maxRecDepth 20000 in
theorem gpL_law_L_bled_p14 : GoodIn wsL_law wsL_bled_r14 := goodIn_r _ [156, 157, 161, 162, 163, 164, 165, 166, 167, 168, 169, 170, 171, 172, 173, 174, 175, 176, 177, 178, 179, 180, 181, 182] rfl (by decide +kernel)
set_option maxRecDepth 20000 in
theorem gpL_law_L_bled_p15 : GoodIn wsL_law wsL_bled_r15 := goodIn_r _ [183, 184, 185, 186, 187, 188, 189, 190, 191, 192, 193, 194, 195, 196, 197, 198, 199, 200, 201, 202, 203, 204, 205, 206] rfl (by decide +kernel)
set_option maxRecDepth 20000 in
theorem gpL_law_L_bled_p16 : GoodIn wsL_law wsL_bled_r16 := goodIn_r _ [207, 208, 238, 279, 280, 281, 282, 283, 284, 285, 286, 491, 492, 493, 494, 495, 496, 497, 498, 462, 463, 464, 465, 466] rfl (by decide +kernel)
set_option maxRecDepth 20000 in
theorem gpL_law_L_bled_p17 : GoodIn wsL_law wsL_bled_r17 := goodIn_r _ [467, 468, 469, 470, 471, 472, 473, 474, 475, 476, 477, 478, 412, 413, 414, 415, 416, 417, 418, 419, 420, 421, 499, 500] rfl (by decide +kernel)
set_option maxRecDepth 20000 in
theorem gpL_law_L_bled_p18 : GoodIn wsL_law wsL_bled_r18 := goodIn_r _ [501, 502, 422, 423, 424, 425, 426, 427, 312, 313, 314, 315, 316, 317, 318, 319, 503, 504, 505, 479, 480, 481, 482, 483] rfl (by decide +kernel)
set_option maxRecDepth 20000 in
theorem gpL_law_L_bled_p19 : GoodIn wsL_law wsL_bled_r19 := goodIn_r _ [484, 485, 486, 441, 442, 443, 444, 445, 386, 387, 388, 389, 295, 296, 297, 298] rfl (by decide +kernel)
set_option maxRecDepth 20000 in
theorem gpL_law_L_bled_p20 : GoodIn wsL_law wsX60 := goodIn_r _ [526, 527, 528, 529, 530, 531, 532] rfl (by decide +kernel)
set_option maxRecDepth 20000 in
theorem gpL_law_L_bled_p21 : GoodIn wsL_law wsX40 := goodIn_r _ [533, 534, 535, 536, 537, 538, 539, 540, 541, 542, 543, 544] rfl (by decide +kernel)
set_option maxRecDepth 20000 in
theorem gpL_law_L_bled_p22 : GoodIn wsL_law wsX10 := goodIn_r _ [545, 546] rfl (by decide +kernel)
set_option maxRecDepth 20000 in
theorem gpL_law_L_bled_p23 : GoodIn wsL_law wsX50 := goodIn_r _ [547, 548, 549] rfl (by decide +kernel)
set_option maxRecDepth 20000 in
theorem gpL_law_L_bled_p24 : GoodIn wsL_law wsX30 := goodIn_r _ [550, 551, 552, 553, 554] rfl (by decide +kernel)
set_option maxRecDepth 20000 in
theorem gpL_law_L_bled_p25 : GoodIn wsL_law wsX00 := goodIn_r _ [555, 556, 557, 558, 559, 560, 561, 562] rfl (by decide +kernel)
set_option maxRecDepth 20000 in
theorem gpL_law_L_bled_p26 : GoodIn wsL_law wsX20 := goodIn_r _ [563, 564, 565, 566, 567] rfl (by decide +kernel)
set_option maxRecDepth 20000 in
theorem ggL_law_L_bled : GoodIn wsL_law wsL_bled := (goodIn_app (a := [.code yL_bled cL_bled 1 (some .boolean)]) gpL_law_L_bled_p0 (goodIn_app (goodIn_app (goodIn_app (goodIn_app (goodIn_app (goodIn_app (goodIn_app (goodIn_app gpL_law_L_bled_p1 (goodIn_app gpL_law_L_bled_p2 (goodIn_app gpL_law_L_bled_p3 (goodIn_app gpL_law_L_bled_p4 (goodIn_app gpL_law_L_bled_p5 (goodIn_app gpL_law_L_bled_p6 (goodIn_app gpL_law_L_bled_p7 (goodIn_app gpL_law_L_bled_p8 (goodIn_app gpL_law_L_bled_p9 (goodIn_app gpL_law_L_bled_p10 (goodIn_app gpL_law_L_bled_p11 (goodIn_app gpL_law_L_bled_p12 (goodIn_app gpL_law_L_bled_p13 (goodIn_app gpL_law_L_bled_p14 (goodIn_app gpL_law_L_bled_p15 (goodIn_app gpL_law_L_bled_p16 (goodIn_app gpL_law_L_bled_p17 (goodIn_app gpL_law_L_bled_p18 gpL_law_L_bled_p19)))))))))))))))))) gpL_law_L_bled_p20) gpL_law_L_bled_p21) gpL_law_L_bled_p22) gpL_law_L_bled_p23) gpL_law_L_bled_p24) gpL_law_L_bled_p25) gpL_law_L_bled_p26))
set_option maxRecDepth 20000 in
theorem gL_law_L_bled : GoodIn wsL_law (va_wsS RL 189 yL_bled wsL_bled) := goodIn_app (goodIn_of _ (by decide +kernel)) ggL_law_L_bled
set_option maxRecDepth 20000 in
theorem ggL_law_X6_init : GoodIn wsL_law wsX6_init := goodIn_r _ [45, 46, 47, 48, 49, 50, 51, 52, 53, 54, 55, 56, 57, 58, 59, 60, 61, 62, 63, 64, 65, 66, 67, 68, 69, 70, 71, 72, 73, 74, 75, 76, 77, 78, 79, 80, 81, 82, 83, 84, 85, 86, 87, 88, 89, 90, 91, 92, 93, 94, 95, 96, 97, 98, 99, 100, 101, 102, 103, 104, 105, 106, 107, 108, 109, 110, 111, 112, 113, 114, 115, 116, 117, 118, 119, 120, 121, 122, 123, 124, 125, 126, 127, 128, 129, 130, 131, 132, 133, 134, 135, 136, 137, 138, 139, 533, 534, 535, 536, 537, 538, 539, 540, 541, 542, 543, 544, 526, 527, 528, 529, 530, 531, 532, 545, 546, 547, 548, 549, 550, 551, 552, 553, 554, 555, 556, 557, 558, 559, 560, 561, 562, 563, 564, 565, 566, 567] rfl (by decide +kernel)
set_option maxRecDepth 20000 in
theorem gL_law_X6_init : GoodIn wsL_law (wsX6_init) := ggL_law_X6_init
set_option maxRecDepth 20000 in
theorem ggL_law_L_puts : GoodIn wsL_law wsL_puts := goodIn_r _ [142, 143, 144, 145, 146, 2, 147, 63, 148, 149, 150, 151, 62, 152, 128, 131, 526, 527, 528, 529, 530, 531, 532, 547, 548, 549] rfl (by decide +kernel)
set_option maxRecDepth 20000 in
theorem gL_law_L_puts : GoodIn wsL_law (va_wsS RL 86 yL_puts wsL_puts) := goodIn_app (goodIn_of _ (by decide +kernel)) ggL_law_L_puts
set_option maxRecDepth 20000 in
theorem ggL_law_L_drawn : GoodIn wsL_law wsL_drawn := goodIn_r _ [516, 517] rfl (by decide +kernel)
set_option maxRecDepth 20000 in
theorem gL_law_L_drawn : GoodIn wsL_law (va_wsS RL 196 yL_drawn wsL_drawn) := goodIn_app (goodIn_of _ (by decide +kernel)) ggL_law_L_drawn
set_option maxRecDepth 20000 in
theorem ggL_law_L_part : GoodIn wsL_law wsL_part := goodIn_r _ [520, 521] rfl (by decide +kernel)
set_option maxRecDepth 20000 in
theorem gL_law_L_part : GoodIn wsL_law (va_wsS RL 200 yL_part wsL_part) := goodIn_app (goodIn_of _ (by decide +kernel)) ggL_law_L_part
set_option maxRecDepth 20000 in
theorem gpL_law_L_seen_p0 : GoodIn wsL_law [.code yL_seen cL_seen 4 (some .long)] := goodIn_r _ [496] rfl (by decide +kernel)
set_option maxRecDepth 20000 in
theorem gpL_law_L_seen_p1 : GoodIn wsL_law wsL_seen_r1 := goodIn_r _ [497, 498, 451, 452, 453, 2, 454, 52, 244, 432, 390, 455, 456, 457, 458, 459, 460, 433, 434, 435, 75, 436, 94, 461] rfl (by decide +kernel)
set_option maxRecDepth 20000 in
theorem gpL_law_L_seen_p2 : GoodIn wsL_law wsL_seen_r2 := goodIn_r _ [357, 358, 239, 240, 241, 242, 243, 245, 159, 160, 158, 246, 247, 248, 249, 250, 59, 251, 63, 148, 252, 253, 254, 255] rfl (by decide +kernel)
set_option maxRecDepth 20000 in
theorem gpL_law_L_seen_p3 : GoodIn wsL_law wsL_seen_r3 := goodIn_r _ [95, 256, 257, 258, 259, 260, 261, 262, 263, 264, 265, 266, 267, 268, 269, 51, 270, 83, 72, 209, 210, 462, 463, 464] rfl (by decide +kernel)
set_option maxRecDepth 20000 in
theorem gpL_law_L_seen_p4 : GoodIn wsL_law wsL_seen_r4 := goodIn_r _ [465, 466, 467, 468, 469, 470, 471, 472, 473, 81, 474, 114, 475, 476, 477, 478, 412, 413, 414, 415, 416, 417, 418, 419] rfl (by decide +kernel)
set_option maxRecDepth 20000 in
theorem gpL_law_L_seen_p5 : GoodIn wsL_law wsL_seen_r5 := goodIn_r _ [420, 341, 342, 66, 343, 105, 421, 345, 346, 347, 78, 348, 349, 350, 351, 106, 107, 108, 499, 500, 501, 502, 405, 406] rfl (by decide +kernel)
set_option maxRecDepth 20000 in
theorem gpL_law_L_seen_p6 : GoodIn wsL_law wsL_seen_r6 := goodIn_r _ [407, 422, 423, 424, 425, 426, 427, 334, 335, 336, 84, 337, 338, 339, 340, 344, 352, 353, 354, 355, 76, 356, 359, 360] rfl (by decide +kernel)
set_option maxRecDepth 20000 in
theorem gpL_law_L_seen_p7 : GoodIn wsL_law wsL_seen_r7 := goodIn_r _ [361, 362, 363, 312, 313, 314, 315, 53, 311, 220, 221, 222, 136, 137, 138, 139, 82, 85, 86, 87, 88, 89, 90, 223] rfl (by decide +kernel)
set_option maxRecDepth 20000 in
theorem gpL_law_L_seen_p8 : GoodIn wsL_law wsL_seen_r8 := goodIn_r _ [224, 225, 226, 227, 96, 97, 98, 99, 100, 101, 228, 229, 230, 231, 232, 109, 233, 234, 235, 236, 113, 115, 237, 116] rfl (by decide +kernel)
set_option maxRecDepth 20000 in
theorem gpL_law_L_seen_p9 : GoodIn wsL_law wsL_seen_r9 := goodIn_r _ [117, 316, 317, 318, 319, 320, 321, 322, 323, 324, 325, 326, 327, 328, 291, 292, 293, 294, 329, 330, 331, 332, 333, 364] rfl (by decide +kernel)
set_option maxRecDepth 20000 in
theorem gpL_law_L_seen_p10 : GoodIn wsL_law wsL_seen_r10 := goodIn_r _ [365, 366, 367, 368, 369, 370, 371, 372, 373, 374, 375, 287, 288, 289, 290, 376, 377, 378, 379, 380, 381, 382, 383, 384] rfl (by decide +kernel)
set_option maxRecDepth 20000 in
theorem gpL_law_L_seen_p11 : GoodIn wsL_law wsL_seen_r11 := goodIn_r _ [385] rfl (by decide +kernel)
set_option maxRecDepth 20000 in
theorem gpL_law_L_seen_p12 : GoodIn wsL_law wsX60 := goodIn_r _ [526, 527, 528, 529, 530, 531, 532] rfl (by decide +kernel)
set_option maxRecDepth 20000 in
theorem gpL_law_L_seen_p13 : GoodIn wsL_law wsX40 := goodIn_r _ [533, 534, 535, 536, 537, 538, 539, 540, 541, 542, 543, 544] rfl (by decide +kernel)
set_option maxRecDepth 20000 in
theorem gpL_law_L_seen_p14 : GoodIn wsL_law wsX00 := goodIn_r _ [555, 556, 557, 558, 559, 560, 561, 562] rfl (by decide +kernel)
set_option maxRecDepth 20000 in
theorem gpL_law_L_seen_p15 : GoodIn wsL_law wsX30 := goodIn_r _ [550, 551, 552, 553, 554] rfl (by decide +kernel)
set_option maxRecDepth 20000 in
theorem gpL_law_L_seen_p16 : GoodIn wsL_law wsX10 := goodIn_r _ [545, 546] rfl (by decide +kernel)
set_option maxRecDepth 20000 in
theorem gpL_law_L_seen_p17 : GoodIn wsL_law wsX50 := goodIn_r _ [547, 548, 549] rfl (by decide +kernel)
set_option maxRecDepth 20000 in
theorem gpL_law_L_seen_p18 : GoodIn wsL_law wsX20 := goodIn_r _ [563, 564, 565, 566, 567] rfl (by decide +kernel)
set_option maxRecDepth 20000 in
theorem ggL_law_L_seen : GoodIn wsL_law wsL_seen := (goodIn_app (a := [.code yL_seen cL_seen 4 (some .long)]) gpL_law_L_seen_p0 (goodIn_app (goodIn_app (goodIn_app (goodIn_app (goodIn_app (goodIn_app (goodIn_app (goodIn_app gpL_law_L_seen_p1 (goodIn_app gpL_law_L_seen_p2 (goodIn_app gpL_law_L_seen_p3 (goodIn_app gpL_law_L_seen_p4 (goodIn_app gpL_law_L_seen_p5 (goodIn_app gpL_law_L_seen_p6 (goodIn_app gpL_law_L_seen_p7 (goodIn_app gpL_law_L_seen_p8 (goodIn_app gpL_law_L_seen_p9 (goodIn_app gpL_law_L_seen_p10 gpL_law_L_seen_p11)))))))))) gpL_law_L_seen_p12) gpL_law_L_seen_p13) gpL_law_L_seen_p14) gpL_law_L_seen_p15) gpL_law_L_seen_p16) gpL_law_L_seen_p17) gpL_law_L_seen_p18))
set_option maxRecDepth 20000 in
theorem gL_law_L_seen : GoodIn wsL_law (va_wsS RL 71 yL_seen wsL_seen) := goodIn_app (goodIn_of _ (by decide +kernel)) ggL_law_L_seen
set_option maxRecDepth 20000 in
theorem ggL_law_X6_count : GoodIn wsL_law wsX6_count := goodIn_r _ [242, 52, 243, 244, 245, 159, 160, 158, 246, 247, 248, 249, 250, 59, 251, 63, 148, 252, 253, 254, 75, 255, 95, 94, 256, 257, 258, 259, 260, 261, 262, 263, 264, 265, 266, 267, 268, 269, 51, 270, 83, 72, 209, 2, 210, 526, 527, 528, 529, 530, 531, 532, 533, 534, 535, 536, 537, 538, 539, 540, 541, 542, 543, 544, 555, 556, 557, 558, 559, 560, 561, 562, 550, 551, 552, 553, 554, 545, 546, 547, 548, 549] rfl (by decide +kernel)
set_option maxRecDepth 20000 in
theorem gL_law_X6_count : GoodIn wsL_law (wsV RL 19 RX6 yX6_count wsX6_count) := goodIn_app (goodIn_of _ (by decide +kernel)) ggL_law_X6_count
set_option maxRecDepth 20000 in
theorem ggL_law_X6_battery : GoodIn wsL_law wsX6_battery := goodIn_r _ [394, 52, 244, 245, 59, 158, 211, 212, 213, 58, 214, 122, 124, 215, 216, 217, 218, 219, 220, 221, 51, 222, 72, 136, 137, 138, 139, 76, 78, 82, 83, 84, 85, 86, 87, 88, 89, 90, 223, 224, 225, 75, 226, 94, 95, 227, 96, 97, 98, 99, 100, 101, 228, 229, 230, 66, 231, 105, 106, 232, 107, 108, 109, 233, 234, 235, 81, 236, 113, 114, 115, 237, 116, 117, 395, 396, 397, 398, 256, 257, 258, 259, 264, 265, 266, 526, 527, 528, 529, 530, 531, 532, 533, 534, 535, 536, 537, 538, 539, 540, 541, 542, 543, 544, 555, 556, 557, 558, 559, 560, 561, 562, 545, 546, 550, 551, 552, 553, 554, 563, 564, 565, 566, 567] rfl (by decide +kernel)
set_option maxRecDepth 20000 in
theorem gL_law_X6_battery : GoodIn wsL_law (wsV RL 39 RX6 yX6_battery wsX6_battery) := goodIn_app (goodIn_of _ (by decide +kernel)) ggL_law_X6_battery
set_option maxRecDepth 20000 in
theorem ggL_law_X6_setCharge : GoodIn wsL_law wsX6_setCharge := goodIn_r _ [509, 52, 244, 390, 432, 455, 59, 433, 434, 435, 75, 436, 94, 211, 212, 213, 58, 214, 122, 124, 215, 216, 217, 218, 219, 220, 221, 51, 222, 72, 136, 137, 138, 139, 76, 78, 82, 83, 84, 85, 86, 87, 88, 89, 90, 223, 224, 225, 226, 95, 227, 96, 97, 98, 99, 100, 101, 228, 229, 230, 66, 231, 105, 106, 232, 107, 108, 109, 233, 234, 235, 81, 236, 113, 114, 115, 237, 116, 117, 526, 527, 528, 529, 530, 531, 532, 533, 534, 535, 536, 537, 538, 539, 540, 541, 542, 543, 544, 555, 556, 557, 558, 559, 560, 561, 562, 545, 546, 550, 551, 552, 553, 554, 563, 564, 565, 566, 567] rfl (by decide +kernel)
set_option maxRecDepth 20000 in
theorem gL_law_X6_setCharge : GoodIn wsL_law (wsV RL 44 RX6 yX6_setCharge wsX6_setCharge) := goodIn_app (goodIn_of _ (by decide +kernel)) ggL_law_X6_setCharge
set_option maxRecDepth 20000 in
theorem ggL_law_X6_use : GoodIn wsL_law wsX6_use := goodIn_r _ [482, 52, 158, 244, 59, 252, 253, 254, 75, 255, 95, 94, 256, 257, 258, 259, 211, 212, 213, 58, 214, 122, 124, 215, 216, 217, 218, 219, 220, 221, 51, 222, 72, 136, 137, 138, 139, 76, 78, 82, 83, 84, 85, 86, 87, 88, 89, 90, 223, 224, 225, 226, 227, 96, 97, 98, 99, 100, 101, 228, 229, 230, 66, 231, 105, 106, 232, 107, 108, 109, 233, 234, 235, 81, 236, 113, 114, 115, 237, 116, 117, 483, 484, 485, 486, 526, 527, 528, 529, 530, 531, 532, 533, 534, 535, 536, 537, 538, 539, 540, 541, 542, 543, 544, 555, 556, 557, 558, 559, 560, 561, 562, 545, 546, 550, 551, 552, 553, 554, 563, 564, 565, 566, 567] rfl (by decide +kernel)
set_option maxRecDepth 20000 in
theorem gL_law_X6_use : GoodIn wsL_law (wsV RL 47 RX6 yX6_use wsX6_use) := goodIn_app (goodIn_of _ (by decide +kernel)) ggL_law_X6_use
set_option maxRecDepth 20000 in
theorem ggL_law_X6_set : GoodIn wsL_law wsX6_set := goodIn_r _ [402, 403, 404, 52, 390, 59, 405, 406, 2, 407, 408, 409, 410, 51, 411, 76, 72, 356, 261, 262, 75, 263, 95, 94, 264, 265, 258, 266, 211, 212, 213, 58, 214, 122, 124, 215, 216, 217, 218, 219, 220, 221, 222, 136, 137, 138, 139, 78, 82, 83, 84, 85, 86, 87, 88, 89, 90, 223, 224, 225, 226, 227, 96, 97, 98, 99, 100, 101, 228, 229, 230, 66, 231, 105, 106, 232, 107, 108, 109, 233, 234, 235, 81, 236, 113, 114, 115, 237, 116, 117, 526, 527, 528, 529, 530, 531, 532, 533, 534, 535, 536, 537, 538, 539, 540, 541, 542, 543, 544, 555, 556, 557, 558, 559, 560, 561, 562, 545, 546, 550, 551, 552, 553, 554, 563, 564, 565, 566, 567] rfl (by decide +kernel)
set_option maxRecDepth 20000 in
theorem gL_law_X6_set : GoodIn wsL_law (wsV RL 50 RX6 yX6_set wsX6_set) := goodIn_app (goodIn_of _ (by decide +kernel)) ggL_law_X6_set
set_option maxRecDepth 20000 in
theorem ggL_law_X6_readProfile : GoodIn wsL_law wsX6_readProfile := goodIn_r _ [156, 63, 67, 157, 52, 158, 59, 159, 160, 161, 162, 163, 62, 164, 129, 165, 128, 166, 167, 168, 169, 170, 171, 172, 173, 131, 174, 175, 176, 66, 177, 105, 106, 107, 108, 109, 178, 179, 180, 181, 182, 183, 184, 185, 186, 187, 188, 189, 190, 191, 192, 193, 194, 195, 196, 197, 198, 199, 200, 201, 202, 203, 204, 205, 206, 207, 208, 209, 2, 210, 211, 212, 213, 58, 214, 122, 124, 215, 216, 217, 218, 219, 220, 221, 51, 222, 72, 136, 137, 138, 139, 76, 78, 82, 83, 84, 85, 86, 87, 88, 89, 90, 223, 224, 225, 75, 226, 94, 95, 227, 96, 97, 98, 99, 100, 101, 228, 229, 230, 231, 232, 233, 234, 235, 81, 236, 113, 114, 115, 237, 116, 117, 238, 526, 527, 528, 529, 530, 531, 532, 547, 548, 549, 533, 534, 535, 536, 537, 538, 539, 540, 541, 542, 543, 544, 550, 551, 552, 553, 554, 545, 546, 555, 556, 557, 558, 559, 560, 561, 562, 563, 564, 565, 566, 567] rfl (by decide +kernel)
set_option maxRecDepth 20000 in
theorem gL_law_X6_readProfile : GoodIn wsL_law (wsV RL 90 RX6 yX6_readProfile wsX6_readProfile) := goodIn_app (goodIn_of _ (by decide +kernel)) ggL_law_X6_readProfile
set_option maxRecDepth 20000 in
theorem ggL_law_X6_start : GoodIn wsL_law wsX6_start := goodIn_r _ [282, 52, 158, 159, 160, 59, 211, 212, 213, 58, 214, 122, 124, 215, 216, 217, 218, 219, 220, 221, 51, 222, 72, 136, 137, 138, 139, 76, 78, 82, 83, 84, 85, 86, 87, 88, 89, 90, 223, 224, 225, 75, 226, 94, 95, 227, 96, 97, 98, 99, 100, 101, 228, 229, 230, 66, 231, 105, 106, 232, 107, 108, 109, 233, 234, 235, 81, 236, 113, 114, 115, 237, 116, 117, 283, 284, 285, 286, 287, 288, 289, 290, 291, 292, 293, 294, 526, 527, 528, 529, 530, 531, 532, 533, 534, 535, 536, 537, 538, 539, 540, 541, 542, 543, 544, 550, 551, 552, 553, 554, 545, 546, 555, 556, 557, 558, 559, 560, 561, 562, 563, 564, 565, 566, 567] rfl (by decide +kernel)
set_option maxRecDepth 20000 in
theorem gL_law_X6_start : GoodIn wsL_law (wsV RL 65 RX6 yX6_start wsX6_start) := goodIn_app (goodIn_of _ (by decide +kernel)) ggL_law_X6_start
set_option maxRecDepth 20000 in
theorem ggL_law_X6_stop : GoodIn wsL_law wsX6_stop := goodIn_r _ [298, 52, 158, 59, 211, 212, 213, 58, 214, 122, 124, 215, 216, 217, 218, 219, 220, 221, 51, 222, 72, 136, 137, 138, 139, 76, 78, 82, 83, 84, 85, 86, 87, 88, 89, 90, 223, 224, 225, 75, 226, 94, 95, 227, 96, 97, 98, 99, 100, 101, 228, 229, 230, 66, 231, 105, 106, 232, 107, 108, 109, 233, 234, 235, 81, 236, 113, 114, 115, 237, 116, 117, 526, 527, 528, 529, 530, 531, 532, 533, 534, 535, 536, 537, 538, 539, 540, 541, 542, 543, 544, 545, 546, 555, 556, 557, 558, 559, 560, 561, 562, 550, 551, 552, 553, 554, 563, 564, 565, 566, 567] rfl (by decide +kernel)
set_option maxRecDepth 20000 in
theorem gL_law_X6_stop : GoodIn wsL_law (wsV RL 68 RX6 yX6_stop wsX6_stop) := goodIn_app (goodIn_of _ (by decide +kernel)) ggL_law_X6_stop
set_option maxRecDepth 20000 in
theorem ggL_law_X6_pass : GoodIn wsL_law wsX6_pass := goodIn_r _ [449, 52, 243, 450, 59, 158, 211, 212, 213, 58, 214, 122, 124, 215, 216, 217, 218, 219, 220, 221, 51, 222, 72, 136, 137, 138, 139, 76, 78, 82, 83, 84, 85, 86, 87, 88, 89, 90, 223, 224, 225, 75, 226, 94, 95, 227, 96, 97, 98, 99, 100, 101, 228, 229, 230, 66, 231, 105, 106, 232, 107, 108, 109, 233, 234, 235, 81, 236, 113, 114, 115, 237, 116, 117, 437, 438, 439, 440, 321, 322, 323, 324, 320, 268, 269, 270, 209, 2, 210, 325, 326, 327, 328, 291, 292, 293, 294, 329, 330, 331, 332, 333, 334, 335, 336, 337, 338, 339, 340, 341, 342, 343, 344, 345, 346, 347, 348, 349, 350, 351, 352, 353, 354, 355, 356, 261, 262, 263, 264, 265, 258, 266, 357, 358, 359, 360, 361, 362, 363, 257, 259, 364, 365, 366, 367, 368, 369, 370, 371, 372, 373, 374, 375, 287, 288, 289, 290, 376, 377, 378, 379, 380, 381, 382, 383, 384, 256, 385, 253, 254, 255, 526, 527, 528, 529, 530, 531, 532, 533, 534, 535, 536, 537, 538, 539, 540, 541, 542, 543, 544, 545, 546, 555, 556, 557, 558, 559, 560, 561, 562, 550, 551, 552, 553, 554, 563, 564, 565, 566, 567] rfl (by decide +kernel)
set_option maxRecDepth 20000 in
theorem gL_law_X6_pass : GoodIn wsL_law (wsV RL 53 RX6 yX6_pass wsX6_pass) := goodIn_app (goodIn_of _ (by decide +kernel)) ggL_law_X6_pass
set_option maxRecDepth 20000 in
theorem gpL_law_L_refused_p0 : GoodIn wsL_law [.code yL_refused cL_refused 5 (some .boolean)] := goodIn_r _ [493] rfl (by decide +kernel)
set_option maxRecDepth 20000 in
theorem gpL_law_L_refused_p1 : GoodIn wsL_law wsL_refused_r1 := goodIn_r _ [494, 495, 8, 496, 497, 498, 451, 452, 453, 2, 454, 52, 244, 432, 390, 455, 456, 457, 458, 459, 460, 433, 434, 435] rfl (by decide +kernel)
set_option maxRecDepth 20000 in
theorem gpL_law_L_refused_p2 : GoodIn wsL_law wsL_refused_r2 := goodIn_r _ [75, 436, 94, 461, 357, 358, 239, 240, 241, 242, 243, 245, 159, 160, 158, 246, 247, 248, 249, 250, 59, 251, 63, 148] rfl (by decide +kernel)
set_option maxRecDepth 20000 in
theorem gpL_law_L_refused_p3 : GoodIn wsL_law wsL_refused_r3 := goodIn_r _ [252, 253, 254, 255, 95, 256, 257, 258, 259, 260, 261, 262, 263, 264, 265, 266, 267, 268, 269, 51, 270, 83, 72, 209] rfl (by decide +kernel)
set_option maxRecDepth 20000 in
theorem gpL_law_L_refused_p4 : GoodIn wsL_law wsL_refused_r4 := goodIn_r _ [210, 462, 463, 464, 465, 466, 467, 468, 469, 470, 471, 472, 473, 81, 474, 114, 475, 476, 477, 478, 412, 413, 414, 415] rfl (by decide +kernel)
set_option maxRecDepth 20000 in
theorem gpL_law_L_refused_p5 : GoodIn wsL_law wsL_refused_r5 := goodIn_r _ [416, 417, 418, 419, 420, 341, 342, 66, 343, 105, 421, 345, 346, 347, 78, 348, 349, 350, 351, 106, 107, 108, 499, 500] rfl (by decide +kernel)
set_option maxRecDepth 20000 in
theorem gpL_law_L_refused_p6 : GoodIn wsL_law wsL_refused_r6 := goodIn_r _ [501, 502, 405, 406, 407, 422, 423, 424, 425, 426, 427, 334, 335, 336, 84, 337, 338, 339, 340, 344, 352, 353, 354, 355] rfl (by decide +kernel)
