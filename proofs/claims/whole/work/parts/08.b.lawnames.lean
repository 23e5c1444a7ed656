set_option maxRecDepth 20000 in
theorem ggL_law_X6_init : GoodIn wsL_law wsX6_init := goodIn_r _ [8, 9, 10, 11, 12, 13, 14, 15, 16, 17, 18, 19, 20, 21, 22, 23, 24, 25, 26, 27, 28, 29, 30, 31, 32, 33, 34, 35, 36, 37, 38, 39, 40, 41, 42, 43, 44, 45, 46, 47, 48, 49, 50, 51, 52, 53, 54, 55, 56, 57, 58, 59, 60, 61, 62, 63, 64, 65, 66, 67, 68, 69, 70, 71, 72, 73, 74, 75, 76, 77, 78, 79, 80, 81, 82, 83, 84, 85, 86, 87, 88, 89, 90, 91, 92, 93, 94, 95, 96, 97, 98, 99, 100, 101, 102, 688, 689, 690, 691, 692, 693, 694, 695, 696, 697, 698, 699, 669, 670, 671, 672, 673, 674, 675, 700, 701, 702, 703, 704, 705, 706, 707, 708, 709, 710, 711, 712, 713, 714, 715, 716, 717, 718, 719, 720, 721, 722] (by decide +kernel) (by decide +kernel)
set_option maxRecDepth 20000 in
theorem gL_law_X6_init : GoodIn wsL_law (wsX6_init) := ggL_law_X6_init
set_option maxRecDepth 20000 in
theorem ggL_law_X7_init : GoodIn wsL_law wsX7_init := goodIn_r _ [105, 106, 10, 11, 34, 107, 108, 109, 110, 93, 111, 112, 676, 677, 678, 679, 680, 681, 682, 683, 684, 685, 686, 687] (by decide +kernel) (by decide +kernel)
set_option maxRecDepth 20000 in
theorem gL_law_X7_init : GoodIn wsL_law (wsX7_init) := ggL_law_X7_init
set_option maxRecDepth 20000 in
theorem ggL_law_X6_battery : GoodIn wsL_law wsX6_battery := goodIn_r _ [116, 15, 117, 118, 22, 119, 120, 121, 122, 21, 123, 85, 87, 124, 125, 126, 127, 128, 129, 130, 14, 131, 35, 99, 100, 101, 102, 39, 41, 45, 46, 47, 48, 49, 50, 51, 52, 53, 132, 133, 134, 38, 135, 57, 58, 136, 59, 60, 61, 62, 63, 64, 137, 138, 139, 29, 140, 68, 69, 141, 70, 71, 72, 142, 143, 144, 44, 145, 76, 77, 78, 146, 79, 80, 147, 148, 149, 150, 151, 152, 153, 154, 155, 156, 157, 669, 670, 671, 672, 673, 674, 675, 688, 689, 690, 691, 692, 693, 694, 695, 696, 697, 698, 699, 710, 711, 712, 713, 714, 715, 716, 717, 700, 701, 705, 706, 707, 708, 709, 718, 719, 720, 721, 722] (by decide +kernel) (by decide +kernel)
set_option maxRecDepth 20000 in
theorem gL_law_X6_battery : GoodIn wsL_law (wsV RL 13 RX6 yX6_battery wsX6_battery) := goodIn_app (goodIn_of _ (by decide +kernel)) ggL_law_X6_battery
set_option maxRecDepth 20000 in
theorem ggL_law_X7_battery : GoodIn wsL_law wsX7_battery := goodIn_r _ [161, 107, 162, 163, 5, 164, 165, 166, 167, 168, 169, 109, 170, 171, 172, 676, 677, 678, 679, 680, 681, 682, 683, 684, 685, 686, 687] (by decide +kernel) (by decide +kernel)
set_option maxRecDepth 20000 in
theorem gL_law_X7_battery : GoodIn wsL_law (wsV RL 17 RX7 yX7_battery wsX7_battery) := goodIn_app (goodIn_of _ (by decide +kernel)) ggL_law_X7_battery
set_option maxRecDepth 20000 in
theorem ggL_law_X6_setCharge : GoodIn wsL_law wsX6_setCharge := goodIn_r _ [176, 15, 117, 177, 178, 179, 22, 180, 181, 182, 38, 183, 57, 120, 121, 122, 21, 123, 85, 87, 124, 125, 126, 127, 128, 129, 130, 14, 131, 35, 99, 100, 101, 102, 39, 41, 45, 46, 47, 48, 49, 50, 51, 52, 53, 132, 133, 134, 135, 58, 136, 59, 60, 61, 62, 63, 64, 137, 138, 139, 29, 140, 68, 69, 141, 70, 71, 72, 142, 143, 144, 44, 145, 76, 77, 78, 146, 79, 80, 669, 670, 671, 672, 673, 674, 675, 688, 689, 690, 691, 692, 693, 694, 695, 696, 697, 698, 699, 710, 711, 712, 713, 714, 715, 716, 717, 700, 701, 705, 706, 707, 708, 709, 718, 719, 720, 721, 722] (by decide +kernel) (by decide +kernel)
set_option maxRecDepth 20000 in
theorem gL_law_X6_setCharge : GoodIn wsL_law (wsV RL 18 RX6 yX6_setCharge wsX6_setCharge) := goodIn_app (goodIn_of _ (by decide +kernel)) ggL_law_X6_setCharge
set_option maxRecDepth 20000 in
theorem ggL_law_X7_setCharge : GoodIn wsL_law wsX7_setCharge := goodIn_r _ [187, 107, 188, 189, 190, 5, 191, 162, 163, 164, 192, 193, 194, 165, 166, 167, 168, 169, 109, 170, 171, 172, 676, 677, 678, 679, 680, 681, 682, 683, 684, 685, 686, 687] (by decide +kernel) (by decide +kernel)
set_option maxRecDepth 20000 in
theorem gL_law_X7_setCharge : GoodIn wsL_law (wsV RL 22 RX7 yX7_setCharge wsX7_setCharge) := goodIn_app (goodIn_of _ (by decide +kernel)) ggL_law_X7_setCharge
set_option maxRecDepth 20000 in
theorem ggL_law_X6_use : GoodIn wsL_law wsX6_use := goodIn_r _ [198, 15, 119, 117, 22, 199, 200, 201, 38, 202, 58, 57, 151, 152, 153, 154, 120, 121, 122, 21, 123, 85, 87, 124, 125, 126, 127, 128, 129, 130, 14, 131, 35, 99, 100, 101, 102, 39, 41, 45, 46, 47, 48, 49, 50, 51, 52, 53, 132, 133, 134, 135, 136, 59, 60, 61, 62, 63, 64, 137, 138, 139, 29, 140, 68, 69, 141, 70, 71, 72, 142, 143, 144, 44, 145, 76, 77, 78, 146, 79, 80, 203, 204, 205, 206, 669, 670, 671, 672, 673, 674, 675, 688, 689, 690, 691, 692, 693, 694, 695, 696, 697, 698, 699, 710, 711, 712, 713, 714, 715, 716, 717, 700, 701, 705, 706, 707, 708, 709, 718, 719, 720, 721, 722] (by decide +kernel) (by decide +kernel)
set_option maxRecDepth 20000 in
theorem gL_law_X6_use : GoodIn wsL_law (wsV RL 23 RX6 yX6_use wsX6_use) := goodIn_app (goodIn_of _ (by decide +kernel)) ggL_law_X6_use
set_option maxRecDepth 20000 in
theorem ggL_law_X7_use : GoodIn wsL_law wsX7_use := goodIn_r _ [210, 107, 162, 163, 5, 164, 211, 212, 213, 192, 193, 194, 165, 166, 167, 168, 169, 109, 170, 171, 172, 676, 677, 678, 679, 680, 681, 682, 683, 684, 685, 686, 687] (by decide +kernel) (by decide +kernel)
set_option maxRecDepth 20000 in
theorem gL_law_X7_use : GoodIn wsL_law (wsV RL 26 RX7 yX7_use wsX7_use) := goodIn_app (goodIn_of _ (by decide +kernel)) ggL_law_X7_use
set_option maxRecDepth 20000 in
theorem ggL_law_X6_set : GoodIn wsL_law wsX6_set := goodIn_r _ [217, 218, 219, 15, 177, 22, 220, 221, 2, 222, 223, 224, 225, 14, 226, 39, 35, 227, 228, 229, 38, 230, 58, 57, 155, 156, 153, 157, 120, 121, 122, 21, 123, 85, 87, 124, 125, 126, 127, 128, 129, 130, 131, 99, 100, 101, 102, 41, 45, 46, 47, 48, 49, 50, 51, 52, 53, 132, 133, 134, 135, 136, 59, 60, 61, 62, 63, 64, 137, 138, 139, 29, 140, 68, 69, 141, 70, 71, 72, 142, 143, 144, 44, 145, 76, 77, 78, 146, 79, 80, 669, 670, 671, 672, 673, 674, 675, 688, 689, 690, 691, 692, 693, 694, 695, 696, 697, 698, 699, 710, 711, 712, 713, 714, 715, 716, 717, 700, 701, 705, 706, 707, 708, 709, 718, 719, 720, 721, 722] (by decide +kernel) (by decide +kernel)
set_option maxRecDepth 20000 in
theorem gL_law_X6_set : GoodIn wsL_law (wsV RL 27 RX6 yX6_set wsX6_set) := goodIn_app (goodIn_of _ (by decide +kernel)) ggL_law_X6_set
set_option maxRecDepth 20000 in
theorem ggL_law_X7_set : GoodIn wsL_law wsX7_set := goodIn_r _ [234, 107, 162, 163, 5, 164, 235, 236, 237, 238, 239, 240, 241, 211, 212, 213, 192, 193, 194, 165, 166, 167, 168, 169, 109, 170, 171, 172, 676, 677, 678, 679, 680, 681, 682, 683, 684, 685, 686, 687] (by decide +kernel) (by decide +kernel)
set_option maxRecDepth 20000 in
theorem gL_law_X7_set : GoodIn wsL_law (wsV RL 30 RX7 yX7_set wsX7_set) := goodIn_app (goodIn_of _ (by decide +kernel)) ggL_law_X7_set
set_option maxRecDepth 20000 in
theorem ggL_law_X6_readProfile : GoodIn wsL_law wsX6_readProfile := goodIn_r _ [245, 26, 30, 246, 15, 119, 22, 247, 248, 249, 250, 251, 25, 252, 92, 253, 91, 254, 255, 256, 257, 258, 259, 260, 261, 94, 262, 263, 264, 29, 265, 68, 69, 70, 71, 72, 266, 267, 268, 269, 270, 271, 272, 273, 274, 275, 276, 277, 278, 279, 280, 281, 282, 283, 284, 285, 286, 287, 288, 289, 290, 291, 292, 293, 294, 295, 296, 297, 2, 298, 120, 121, 122, 21, 123, 85, 87, 124, 125, 126, 127, 128, 129, 130, 14, 131, 35, 99, 100, 101, 102, 39, 41, 45, 46, 47, 48, 49, 50, 51, 52, 53, 132, 133, 134, 38, 135, 57, 58, 136, 59, 60, 61, 62, 63, 64, 137, 138, 139, 140, 141, 142, 143, 144, 44, 145, 76, 77, 78, 146, 79, 80, 299, 669, 670, 671, 672, 673, 674, 675, 702, 703, 704, 688, 689, 690, 691, 692, 693, 694, 695, 696, 697, 698, 699, 705, 706, 707, 708, 709, 700, 701, 710, 711, 712, 713, 714, 715, 716, 717, 718, 719, 720, 721, 722] (by decide +kernel) (by decide +kernel)
set_option maxRecDepth 20000 in
theorem gL_law_X6_readProfile : GoodIn wsL_law (wsV RL 31 RX6 yX6_readProfile wsX6_readProfile) := goodIn_app (goodIn_of _ (by decide +kernel)) ggL_law_X6_readProfile
set_option maxRecDepth 20000 in
theorem ggL_law_X7_readProfile : GoodIn wsL_law wsX7_readProfile := goodIn_r _ [303, 304, 305, 107, 112, 306, 307, 308, 5, 309, 310, 311, 312, 313, 314, 315, 316, 317, 318, 319, 320, 321, 322, 323, 111, 162, 163, 164, 324, 325, 326, 327, 328, 329, 330, 331, 165, 166, 167, 168, 169, 109, 170, 171, 172, 676, 677, 678, 679, 680, 681, 682, 683, 684, 685, 686, 687] (by decide +kernel) (by decide +kernel)
set_option maxRecDepth 20000 in
theorem gL_law_X7_readProfile : GoodIn wsL_law (wsV RL 35 RX7 yX7_readProfile wsX7_readProfile) := goodIn_app (goodIn_of _ (by decide +kernel)) ggL_law_X7_readProfile
set_option maxRecDepth 20000 in
theorem ggL_law_X6_start : GoodIn wsL_law wsX6_start := goodIn_r _ [335, 15, 119, 247, 248, 22, 120, 121, 122, 21, 123, 85, 87, 124, 125, 126, 127, 128, 129, 130, 14, 131, 35, 99, 100, 101, 102, 39, 41, 45, 46, 47, 48, 49, 50, 51, 52, 53, 132, 133, 134, 38, 135, 57, 58, 136, 59, 60, 61, 62, 63, 64, 137, 138, 139, 29, 140, 68, 69, 141, 70, 71, 72, 142, 143, 144, 44, 145, 76, 77, 78, 146, 79, 80, 336, 337, 338, 339, 340, 341, 342, 343, 344, 345, 346, 347, 669, 670, 671, 672, 673, 674, 675, 688, 689, 690, 691, 692, 693, 694, 695, 696, 697, 698, 699, 705, 706, 707, 708, 709, 700, 701, 710, 711, 712, 713, 714, 715, 716, 717, 718, 719, 720, 721, 722] (by decide +kernel) (by decide +kernel)
set_option maxRecDepth 20000 in
theorem gL_law_X6_start : GoodIn wsL_law (wsV RL 36 RX6 yX6_start wsX6_start) := goodIn_app (goodIn_of _ (by decide +kernel)) ggL_law_X6_start
set_option maxRecDepth 20000 in
theorem ggL_law_X7_start : GoodIn wsL_law wsX7_start := goodIn_r _ [351, 107, 165, 166, 167, 5, 168, 169, 109, 170, 171, 172, 352, 353, 354, 676, 677, 678, 679, 680, 681, 682, 683, 684, 685, 686, 687] (by decide +kernel) (by decide +kernel)
set_option maxRecDepth 20000 in
theorem gL_law_X7_start : GoodIn wsL_law (wsV RL 39 RX7 yX7_start wsX7_start) := goodIn_app (goodIn_of _ (by decide +kernel)) ggL_law_X7_start
set_option maxRecDepth 20000 in
theorem ggL_law_X6_stop : GoodIn wsL_law wsX6_stop := goodIn_r _ [358, 15, 119, 22, 120, 121, 122, 21, 123, 85, 87, 124, 125, 126, 127, 128, 129, 130, 14, 131, 35, 99, 100, 101, 102, 39, 41, 45, 46, 47, 48, 49, 50, 51, 52, 53, 132, 133, 134, 38, 135, 57, 58, 136, 59, 60, 61, 62, 63, 64, 137, 138, 139, 29, 140, 68, 69, 141, 70, 71, 72, 142, 143, 144, 44, 145, 76, 77, 78, 146, 79, 80, 669, 670, 671, 672, 673, 674, 675, 688, 689, 690, 691, 692, 693, 694, 695, 696, 697, 698, 699, 700, 701, 710, 711, 712, 713, 714, 715, 716, 717, 705, 706, 707, 708, 709, 718, 719, 720, 721, 722] (by decide +kernel) (by decide +kernel)
set_option maxRecDepth 20000 in
theorem gL_law_X6_stop : GoodIn wsL_law (wsV RL 40 RX6 yX6_stop wsX6_stop) := goodIn_app (goodIn_of _ (by decide +kernel)) ggL_law_X6_stop
set_option maxRecDepth 20000 in
theorem ggL_law_X7_stop : GoodIn wsL_law wsX7_stop := goodIn_r _ [362, 107, 165, 166, 167, 5, 168, 169, 109, 170, 171, 172, 676, 677, 678, 679, 680, 681, 682, 683, 684, 685, 686, 687] (by decide +kernel) (by decide +kernel)
set_option maxRecDepth 20000 in
theorem gL_law_X7_stop : GoodIn wsL_law (wsV RL 43 RX7 yX7_stop wsX7_stop) := goodIn_app (goodIn_of _ (by decide +kernel)) ggL_law_X7_stop
set_option maxRecDepth 20000 in
theorem ggL_law_X6_pass : GoodIn wsL_law wsX6_pass := goodIn_r _ [366, 15, 367, 368, 22, 119, 120, 121, 122, 21, 123, 85, 87, 124, 125, 126, 127, 128, 129, 130, 14, 131, 35, 99, 100, 101, 102, 39, 41, 45, 46, 47, 48, 49, 50, 51, 52, 53, 132, 133, 134, 38, 135, 57, 58, 136, 59, 60, 61, 62, 63, 64, 137, 138, 139, 29, 140, 68, 69, 141, 70, 71, 72, 142, 143, 144, 44, 145, 76, 77, 78, 146, 79, 80, 369, 370, 371, 372, 373, 374, 375, 376, 377, 378, 379, 380, 297, 2, 298, 381, 382, 383, 384, 344, 345, 346, 347, 385, 386, 387, 388, 389, 390, 391, 392, 393, 394, 395, 396, 397, 398, 399, 400, 401, 402, 403, 404, 405, 406, 407, 408, 409, 410, 411, 227, 228, 229, 230, 155, 156, 153, 157, 412, 413, 414, 415, 416, 417, 418, 152, 154, 419, 420, 421, 422, 423, 424, 425, 426, 427, 428, 429, 430, 340, 341, 342, 343, 431, 432, 433, 434, 435, 436, 437, 438, 439, 151, 440, 200, 201, 202, 669, 670, 671, 672, 673, 674, 675, 688, 689, 690, 691, 692, 693, 694, 695, 696, 697, 698, 699, 700, 701, 710, 711, 712, 713, 714, 715, 716, 717, 705, 706, 707, 708, 709, 718, 719, 720, 721, 722] (by decide +kernel) (by decide +kernel)
set_option maxRecDepth 20000 in
theorem gL_law_X6_pass : GoodIn wsL_law (wsV RL 44 RX6 yX6_pass wsX6_pass) := goodIn_app (goodIn_of _ (by decide +kernel)) ggL_law_X6_pass
set_option maxRecDepth 20000 in
theorem ggL_law_X7_pass : GoodIn wsL_law wsX7_pass := goodIn_r _ [444, 107, 445, 162, 163, 5, 164, 165, 166, 167, 168, 169, 109, 170, 171, 172, 446, 447, 448, 449, 450, 451, 352, 353, 354, 452, 453, 454, 455, 456, 457, 458, 459, 460, 461, 462, 463, 464, 465, 466, 467, 468, 469, 470, 471, 472, 192, 193, 194, 473, 474, 475, 476, 477, 478, 479, 480, 481, 482, 483, 484, 485, 486, 487, 488, 489, 490, 491, 492, 493, 676, 677, 678, 679, 680, 681, 682, 683, 684, 685, 686, 687] (by decide +kernel) (by decide +kernel)
set_option maxRecDepth 20000 in
theorem gL_law_X7_pass : GoodIn wsL_law (wsV RL 47 RX7 yX7_pass wsX7_pass) := goodIn_app (goodIn_of _ (by decide +kernel)) ggL_law_X7_pass
set_option maxRecDepth 20000 in
theorem ggL_law_X6_type : GoodIn wsL_law wsX6_type := goodIn_r _ [497, 26, 498, 499, 500, 501, 25, 502, 91, 94, 669, 670, 671, 672, 673, 674, 675, 702, 703, 704] (by decide +kernel) (by decide +kernel)
set_option maxRecDepth 20000 in
theorem gL_law_X6_type : GoodIn wsL_law (wsV RL 48 RX6 yX6_type wsX6_type) := goodIn_app (goodIn_of _ (by decide +kernel)) ggL_law_X6_type
set_option maxRecDepth 20000 in
theorem ggL_law_X7_type : GoodIn wsL_law wsX7_type := goodIn_r _ [506, 310, 111, 676, 677, 678, 679, 680, 681, 682, 683, 684, 685, 686, 687] (by decide +kernel) (by decide +kernel)
set_option maxRecDepth 20000 in
theorem gL_law_X7_type : GoodIn wsL_law (wsV RL 52 RX7 yX7_type wsX7_type) := goodIn_app (goodIn_of _ (by decide +kernel)) ggL_law_X7_type
set_option maxRecDepth 20000 in
theorem ggL_law_X6_clearText : GoodIn wsL_law wsX6_clearText := goodIn_r _ [510, 26, 498, 669, 670, 671, 672, 673, 674, 675, 702, 703, 704] (by decide +kernel) (by decide +kernel)
set_option maxRecDepth 20000 in
theorem gL_law_X6_clearText : GoodIn wsL_law (wsV RL 53 RX6 yX6_clearText wsX6_clearText) := goodIn_app (goodIn_of _ (by decide +kernel)) ggL_law_X6_clearText
set_option maxRecDepth 20000 in
theorem ggL_law_X7_clearText : GoodIn wsL_law wsX7_clearText := goodIn_r _ [514, 310, 676, 677, 678, 679, 680, 681, 682, 683, 684, 685, 686, 687] (by decide +kernel) (by decide +kernel)
set_option maxRecDepth 20000 in
theorem gL_law_X7_clearText : GoodIn wsL_law (wsV RL 56 RX7 yX7_clearText wsX7_clearText) := goodIn_app (goodIn_of _ (by decide +kernel)) ggL_law_X7_clearText
set_option maxRecDepth 20000 in
theorem ggL_law_X6_undo : GoodIn wsL_law wsX6_undo := goodIn_r _ [518, 22, 519, 15, 520, 521, 522, 21, 523, 85, 87, 128, 129, 130, 14, 131, 35, 99, 100, 101, 102, 39, 41, 45, 46, 47, 48, 49, 50, 51, 52, 53, 132, 133, 134, 38, 135, 57, 58, 136, 59, 60, 61, 62, 63, 64, 137, 138, 139, 29, 140, 68, 69, 141, 70, 71, 72, 142, 143, 144, 44, 145, 76, 77, 78, 146, 79, 80, 669, 670, 671, 672, 673, 674, 675, 700, 701, 688, 689, 690, 691, 692, 693, 694, 695, 696, 697, 698, 699, 710, 711, 712, 713, 714, 715, 716, 717, 705, 706, 707, 708, 709, 718, 719, 720, 721, 722] (by decide +kernel) (by decide +kernel)
set_option maxRecDepth 20000 in
theorem gL_law_X6_undo : GoodIn wsL_law (wsV RL 57 RX6 yX6_undo wsX6_undo) := goodIn_app (goodIn_of _ (by decide +kernel)) ggL_law_X6_undo
set_option maxRecDepth 20000 in
theorem ggL_law_X7_undo : GoodIn wsL_law wsX7_undo := goodIn_r _ [527, 169, 107, 109, 676, 677, 678, 679, 680, 681, 682, 683, 684, 685, 686, 687] (by decide +kernel) (by decide +kernel)
set_option maxRecDepth 20000 in
theorem gL_law_X7_undo : GoodIn wsL_law (wsV RL 60 RX7 yX7_undo wsX7_undo) := goodIn_app (goodIn_of _ (by decide +kernel)) ggL_law_X7_undo
set_option maxRecDepth 20000 in
theorem ggL_law_X6_keep : GoodIn wsL_law wsX6_keep := goodIn_r _ [531, 17, 15, 18, 367, 532, 129, 130, 14, 131, 35, 99, 100, 101, 102, 39, 41, 45, 46, 47, 48, 49, 50, 51, 52, 53, 132, 133, 134, 38, 135, 57, 58, 136, 59, 60, 61, 62, 63, 64, 137, 138, 139, 29, 140, 68, 69, 141, 70, 71, 72, 142, 143, 144, 44, 145, 76, 77, 78, 146, 79, 80, 669, 670, 671, 672, 673, 674, 675, 688, 689, 690, 691, 692, 693, 694, 695, 696, 697, 698, 699, 710, 711, 712, 713, 714, 715, 716, 717, 705, 706, 707, 708, 709, 718, 719, 720, 721, 722] (by decide +kernel) (by decide +kernel)
set_option maxRecDepth 20000 in
theorem gL_law_X6_keep : GoodIn wsL_law (wsV RL 61 RX6 yX6_keep wsX6_keep) := goodIn_app (goodIn_of _ (by decide +kernel)) ggL_law_X6_keep
set_option maxRecDepth 20000 in
theorem ggL_law_X7_keep : GoodIn wsL_law wsX7_keep := goodIn_r _ [536, 107, 110, 537, 170, 171, 5, 172, 676, 677, 678, 679, 680, 681, 682, 683, 684, 685, 686, 687] (by decide +kernel) (by decide +kernel)
set_option maxRecDepth 20000 in
theorem gL_law_X7_keep : GoodIn wsL_law (wsV RL 64 RX7 yX7_keep wsX7_keep) := goodIn_app (goodIn_of _ (by decide +kernel)) ggL_law_X7_keep
set_option maxRecDepth 20000 in
theorem ggL_law_X6_restore : GoodIn wsL_law wsX6_restore := goodIn_r _ [541, 18, 22, 15, 17, 367, 120, 121, 122, 21, 123, 85, 87, 124, 125, 126, 127, 128, 129, 130, 14, 131, 35, 99, 100, 101, 102, 39, 41, 45, 46, 47, 48, 49, 50, 51, 52, 53, 132, 133, 134, 38, 135, 57, 58, 136, 59, 60, 61, 62, 63, 64, 137, 138, 139, 29, 140, 68, 69, 141, 70, 71, 72, 142, 143, 144, 44, 145, 76, 77, 78, 146, 79, 80, 532, 669, 670, 671, 672, 673, 674, 675, 688, 689, 690, 691, 692, 693, 694, 695, 696, 697, 698, 699, 700, 701, 710, 711, 712, 713, 714, 715, 716, 717, 705, 706, 707, 708, 709, 718, 719, 720, 721, 722] (by decide +kernel) (by decide +kernel)
set_option maxRecDepth 20000 in
theorem gL_law_X6_restore : GoodIn wsL_law (wsV RL 65 RX6 yX6_restore wsX6_restore) := goodIn_app (goodIn_of _ (by decide +kernel)) ggL_law_X6_restore
set_option maxRecDepth 20000 in
theorem ggL_law_X7_restore : GoodIn wsL_law wsX7_restore := goodIn_r _ [545, 537, 110, 107, 165, 166, 167, 5, 168, 169, 109, 170, 171, 172, 676, 677, 678, 679, 680, 681, 682, 683, 684, 685, 686, 687] (by decide +kernel) (by decide +kernel)
set_option maxRecDepth 20000 in
theorem gL_law_X7_restore : GoodIn wsL_law (wsV RL 68 RX7 yX7_restore wsX7_restore) := goodIn_app (goodIn_of _ (by decide +kernel)) ggL_law_X7_restore
set_option maxRecDepth 20000 in
theorem ggL_law_X6_cell : GoodIn wsL_law wsX6_cell := goodIn_r _ [549, 15, 117, 178, 177, 179, 550, 551, 552, 553, 554, 180, 181, 182, 38, 183, 57, 555, 412, 2, 413, 669, 670, 671, 672, 673, 674, 675, 688, 689, 690, 691, 692, 693, 694, 695, 696, 697, 698, 699, 710, 711, 712, 713, 714, 715, 716, 717] (by decide +kernel) (by decide +kernel)
set_option maxRecDepth 20000 in
theorem gL_law_X6_cell : GoodIn wsL_law (wsV RL 69 RX6 yX6_cell wsX6_cell) := goodIn_app (goodIn_of _ (by decide +kernel)) ggL_law_X6_cell
set_option maxRecDepth 20000 in
theorem ggL_law_X7_cell : GoodIn wsL_law wsX7_cell := goodIn_r _ [559, 107, 188, 189, 190, 5, 191, 162, 163, 164, 192, 193, 194, 470, 471, 472, 676, 677, 678, 679, 680, 681, 682, 683, 684, 685, 686, 687] (by decide +kernel) (by decide +kernel)
set_option maxRecDepth 20000 in
theorem gL_law_X7_cell : GoodIn wsL_law (wsV RL 72 RX7 yX7_cell wsX7_cell) := goodIn_app (goodIn_of _ (by decide +kernel)) ggL_law_X7_cell
set_option maxRecDepth 20000 in
theorem ggL_law_X6_setting : GoodIn wsL_law wsX6_setting := goodIn_r _ [563, 15, 177, 220, 221, 2, 222, 669, 670, 671, 672, 673, 674, 675, 688, 689, 690, 691, 692, 693, 694, 695, 696, 697, 698, 699] (by decide +kernel) (by decide +kernel)
set_option maxRecDepth 20000 in
theorem gL_law_X6_setting : GoodIn wsL_law (wsV RL 73 RX6 yX6_setting wsX6_setting) := goodIn_app (goodIn_of _ (by decide +kernel)) ggL_law_X6_setting
set_option maxRecDepth 20000 in
theorem ggL_law_X7_setting : GoodIn wsL_law wsX7_setting := goodIn_r _ [567, 107, 162, 163, 5, 164, 676, 677, 678, 679, 680, 681, 682, 683, 684, 685, 686, 687] (by decide +kernel) (by decide +kernel)
set_option maxRecDepth 20000 in
theorem gL_law_X7_setting : GoodIn wsL_law (wsV RL 76 RX7 yX7_setting wsX7_setting) := goodIn_app (goodIn_of _ (by decide +kernel)) ggL_law_X7_setting
set_option maxRecDepth 20000 in
theorem ggL_law_X6_stage : GoodIn wsL_law wsX6_stage := goodIn_r _ [571, 15, 247, 572, 573, 574, 575, 576, 397, 398, 29, 399, 68, 577, 401, 402, 14, 403, 41, 35, 404, 405, 406, 407, 69, 70, 71, 669, 670, 671, 672, 673, 674, 675, 688, 689, 690, 691, 692, 693, 694, 695, 696, 697, 698, 699, 705, 706, 707, 708, 709] (by decide +kernel) (by decide +kernel)
set_option maxRecDepth 20000 in
theorem gL_law_X6_stage : GoodIn wsL_law (wsV RL 77 RX6 yX6_stage wsX6_stage) := goodIn_app (goodIn_of _ (by decide +kernel)) ggL_law_X6_stage
set_option maxRecDepth 20000 in
theorem ggL_law_X7_stage : GoodIn wsL_law wsX7_stage := goodIn_r _ [581, 107, 162, 163, 5, 164, 458, 459, 460, 464, 465, 466, 676, 677, 678, 679, 680, 681, 682, 683, 684, 685, 686, 687] (by decide +kernel) (by decide +kernel)
set_option maxRecDepth 20000 in
theorem gL_law_X7_stage : GoodIn wsL_law (wsV RL 80 RX7 yX7_stage wsX7_stage) := goodIn_app (goodIn_of _ (by decide +kernel)) ggL_law_X7_stage
set_option maxRecDepth 20000 in
theorem ggL_law_X6_voltage : GoodIn wsL_law wsX6_voltage := goodIn_r _ [585, 15, 586, 409, 410, 14, 411, 39, 35, 227, 228, 229, 38, 230, 58, 57, 155, 156, 153, 157, 412, 2, 413, 669, 670, 671, 672, 673, 674, 675, 688, 689, 690, 691, 692, 693, 694, 695, 696, 697, 698, 699, 710, 711, 712, 713, 714, 715, 716, 717] (by decide +kernel) (by decide +kernel)
set_option maxRecDepth 20000 in
theorem gL_law_X6_voltage : GoodIn wsL_law (wsV RL 81 RX6 yX6_voltage wsX6_voltage) := goodIn_app (goodIn_of _ (by decide +kernel)) ggL_law_X6_voltage
set_option maxRecDepth 20000 in
theorem ggL_law_X7_voltage : GoodIn wsL_law wsX7_voltage := goodIn_r _ [590, 107, 162, 163, 5, 164, 467, 468, 469, 470, 471, 472, 192, 193, 194, 482, 483, 484, 676, 677, 678, 679, 680, 681, 682, 683, 684, 685, 686, 687] (by decide +kernel) (by decide +kernel)
set_option maxRecDepth 20000 in
theorem gL_law_X7_voltage : GoodIn wsL_law (wsV RL 84 RX7 yX7_voltage wsX7_voltage) := goodIn_app (goodIn_of _ (by decide +kernel)) ggL_law_X7_voltage
set_option maxRecDepth 20000 in
theorem ggL_law_X6_current : GoodIn wsL_law wsX6_current := goodIn_r _ [594, 15, 119, 595, 156, 153, 157, 596, 378, 379, 14, 380, 46, 35, 297, 2, 298, 597, 390, 391, 392, 41, 47, 393, 394, 395, 396, 397, 398, 29, 399, 68, 400, 401, 402, 403, 404, 405, 406, 407, 69, 70, 71, 408, 409, 410, 411, 39, 227, 228, 229, 38, 230, 58, 57, 155, 412, 413, 414, 415, 416, 417, 418, 152, 154, 669, 670, 671, 672, 673, 674, 675, 688, 689, 690, 691, 692, 693, 694, 695, 696, 697, 698, 699, 705, 706, 707, 708, 709, 710, 711, 712, 713, 714, 715, 716, 717] (by decide +kernel) (by decide +kernel)
set_option maxRecDepth 20000 in
theorem gL_law_X6_current : GoodIn wsL_law (wsV RL 85 RX6 yX6_current wsX6_current) := goodIn_app (goodIn_of _ (by decide +kernel)) ggL_law_X6_current
set_option maxRecDepth 20000 in
theorem ggL_law_X7_current : GoodIn wsL_law wsX7_current := goodIn_r _ [601, 107, 449, 450, 5, 451, 162, 163, 164, 455, 456, 457, 458, 459, 460, 461, 462, 463, 464, 465, 466, 467, 468, 469, 470, 471, 472, 192, 193, 194, 473, 474, 475, 676, 677, 678, 679, 680, 681, 682, 683, 684, 685, 686, 687] (by decide +kernel) (by decide +kernel)
set_option maxRecDepth 20000 in
theorem gL_law_X7_current : GoodIn wsL_law (wsV RL 88 RX7 yX7_current wsX7_current) := goodIn_app (goodIn_of _ (by decide +kernel)) ggL_law_X7_current
set_option maxRecDepth 20000 in
theorem ggL_law_X6_doneIn : GoodIn wsL_law wsX6_doneIn := goodIn_r _ [605, 15, 119, 16, 532, 129, 130, 14, 131, 35, 99, 100, 101, 102, 39, 41, 45, 46, 47, 48, 49, 50, 51, 52, 53, 132, 133, 134, 38, 135, 57, 58, 136, 59, 60, 61, 62, 63, 64, 137, 138, 139, 29, 140, 68, 69, 141, 70, 71, 72, 142, 143, 144, 44, 145, 76, 77, 78, 146, 79, 80, 606, 607, 608, 609, 377, 378, 379, 380, 297, 2, 298, 373, 374, 375, 376, 381, 382, 383, 384, 344, 345, 346, 347, 385, 386, 387, 388, 389, 390, 391, 392, 393, 394, 395, 396, 397, 398, 399, 400, 401, 402, 403, 404, 405, 406, 407, 408, 409, 410, 411, 227, 228, 229, 230, 155, 156, 153, 157, 412, 413, 414, 415, 416, 417, 418, 152, 154, 419, 420, 421, 422, 423, 424, 425, 426, 427, 428, 429, 430, 340, 341, 342, 343, 431, 432, 433, 434, 435, 436, 437, 438, 439, 151, 440, 200, 201, 202, 669, 670, 671, 672, 673, 674, 675, 688, 689, 690, 691, 692, 693, 694, 695, 696, 697, 698, 699, 710, 711, 712, 713, 714, 715, 716, 717, 705, 706, 707, 708, 709, 718, 719, 720, 721, 722] (by decide +kernel) (by decide +kernel)
set_option maxRecDepth 20000 in
theorem gL_law_X6_doneIn : GoodIn wsL_law (wsV RL 89 RX6 yX6_doneIn wsX6_doneIn) := goodIn_app (goodIn_of _ (by decide +kernel)) ggL_law_X6_doneIn
set_option maxRecDepth 20000 in
theorem ggL_law_X7_doneIn : GoodIn wsL_law wsX7_doneIn := goodIn_r _ [613, 107, 108, 170, 171, 5, 172, 614, 615, 616, 617, 446, 447, 448, 449, 450, 451, 162, 163, 164, 352, 353, 354, 452, 453, 454, 455, 456, 457, 458, 459, 460, 461, 462, 463, 464, 465, 466, 467, 468, 469, 470, 471, 472, 192, 193, 194, 473, 474, 475, 476, 477, 478, 479, 480, 481, 482, 483, 484, 485, 486, 487, 488, 489, 490, 491, 492, 493, 676, 677, 678, 679, 680, 681, 682, 683, 684, 685, 686, 687] (by decide +kernel) (by decide +kernel)
set_option maxRecDepth 20000 in
theorem gL_law_X7_doneIn : GoodIn wsL_law (wsV RL 92 RX7 yX7_doneIn wsX7_doneIn) := goodIn_app (goodIn_of _ (by decide +kernel)) ggL_law_X7_doneIn
set_option maxRecDepth 20000 in
theorem ggL_law_X6_chargeIn : GoodIn wsL_law wsX6_chargeIn := goodIn_r _ [621, 15, 117, 16, 178, 180, 181, 182, 38, 183, 57, 532, 129, 130, 14, 131, 35, 99, 100, 101, 102, 39, 41, 45, 46, 47, 48, 49, 50, 51, 52, 53, 132, 133, 134, 135, 58, 136, 59, 60, 61, 62, 63, 64, 137, 138, 139, 29, 140, 68, 69, 141, 70, 71, 72, 142, 143, 144, 44, 145, 76, 77, 78, 146, 79, 80, 369, 370, 371, 372, 373, 374, 375, 376, 377, 378, 379, 380, 297, 2, 298, 381, 382, 383, 384, 344, 345, 346, 347, 385, 386, 387, 388, 389, 390, 391, 392, 393, 394, 395, 396, 397, 398, 399, 400, 401, 402, 403, 404, 405, 406, 407, 408, 409, 410, 411, 227, 228, 229, 230, 155, 156, 153, 157, 412, 413, 414, 415, 416, 417, 418, 152, 154, 419, 420, 421, 422, 423, 424, 425, 426, 427, 428, 429, 430, 340, 341, 342, 343, 431, 432, 433, 434, 435, 436, 437, 438, 439, 151, 440, 200, 201, 202, 669, 670, 671, 672, 673, 674, 675, 688, 689, 690, 691, 692, 693, 694, 695, 696, 697, 698, 699, 710, 711, 712, 713, 714, 715, 716, 717, 705, 706, 707, 708, 709, 718, 719, 720, 721, 722] (by decide +kernel) (by decide +kernel)
set_option maxRecDepth 20000 in
theorem gL_law_X6_chargeIn : GoodIn wsL_law (wsV RL 93 RX6 yX6_chargeIn wsX6_chargeIn) := goodIn_app (goodIn_of _ (by decide +kernel)) ggL_law_X6_chargeIn
set_option maxRecDepth 20000 in
theorem ggL_law_X7_chargeIn : GoodIn wsL_law wsX7_chargeIn := goodIn_r _ [625, 107, 108, 188, 189, 190, 5, 191, 162, 163, 164, 170, 171, 172, 446, 447, 448, 449, 450, 451, 352, 353, 354, 452, 453, 454, 455, 456, 457, 458, 459, 460, 461, 462, 463, 464, 465, 466, 467, 468, 469, 470, 471, 472, 192, 193, 194, 473, 474, 475, 476, 477, 478, 479, 480, 481, 482, 483, 484, 485, 486, 487, 488, 489, 490, 491, 492, 493, 676, 677, 678, 679, 680, 681, 682, 683, 684, 685, 686, 687] (by decide +kernel) (by decide +kernel)
set_option maxRecDepth 20000 in
theorem gL_law_X7_chargeIn : GoodIn wsL_law (wsV RL 96 RX7 yX7_chargeIn wsX7_chargeIn) := goodIn_app (goodIn_of _ (by decide +kernel)) ggL_law_X7_chargeIn
set_option maxRecDepth 20000 in
theorem ggL_law_X6_warmest : GoodIn wsL_law wsX6_warmest := goodIn_r _ [629, 15, 119, 177, 16, 532, 129, 130, 14, 131, 35, 99, 100, 101, 102, 39, 41, 45, 46, 47, 48, 49, 50, 51, 52, 53, 132, 133, 134, 38, 135, 57, 58, 136, 59, 60, 61, 62, 63, 64, 137, 138, 139, 29, 140, 68, 69, 141, 70, 71, 72, 142, 143, 144, 44, 145, 76, 77, 78, 146, 79, 80, 606, 607, 608, 609, 377, 378, 379, 380, 297, 2, 298, 373, 374, 375, 376, 381, 382, 383, 384, 344, 345, 346, 347, 385, 386, 387, 388, 389, 390, 391, 392, 393, 394, 395, 396, 397, 398, 399, 400, 401, 402, 403, 404, 405, 406, 407, 408, 409, 410, 411, 227, 228, 229, 230, 155, 156, 153, 157, 412, 413, 414, 415, 416, 417, 418, 152, 154, 419, 420, 421, 422, 423, 424, 425, 426, 427, 428, 429, 430, 340, 341, 342, 343, 431, 432, 433, 434, 435, 436, 437, 438, 439, 151, 440, 200, 201, 202, 669, 670, 671, 672, 673, 674, 675, 688, 689, 690, 691, 692, 693, 694, 695, 696, 697, 698, 699, 710, 711, 712, 713, 714, 715, 716, 717, 705, 706, 707, 708, 709, 718, 719, 720, 721, 722] (by decide +kernel) (by decide +kernel)
set_option maxRecDepth 20000 in
theorem gL_law_X6_warmest : GoodIn wsL_law (wsV RL 97 RX6 yX6_warmest wsX6_warmest) := goodIn_app (goodIn_of _ (by decide +kernel)) ggL_law_X6_warmest
set_option maxRecDepth 20000 in
theorem ggL_law_X7_warmest : GoodIn wsL_law wsX7_warmest := goodIn_r _ [633, 107, 108, 170, 171, 5, 172, 614, 615, 616, 617, 446, 447, 448, 449, 450, 451, 162, 163, 164, 352, 353, 354, 452, 453, 454, 455, 456, 457, 458, 459, 460, 461, 462, 463, 464, 465, 466, 467, 468, 469, 470, 471, 472, 192, 193, 194, 473, 474, 475, 476, 477, 478, 479, 480, 481, 482, 483, 484, 485, 486, 487, 488, 489, 490, 491, 492, 493, 676, 677, 678, 679, 680, 681, 682, 683, 684, 685, 686, 687] (by decide +kernel) (by decide +kernel)
set_option maxRecDepth 20000 in
theorem gL_law_X7_warmest : GoodIn wsL_law (wsV RL 100 RX7 yX7_warmest wsX7_warmest) := goodIn_app (goodIn_of _ (by decide +kernel)) ggL_law_X7_warmest
set_option maxRecDepth 20000 in
theorem ggL_law_X6_event : GoodIn wsL_law wsX6_event := goodIn_r _ [637, 15, 638, 639, 640, 641, 642, 643, 644, 645, 44, 646, 77, 647, 648, 649, 650, 669, 670, 671, 672, 673, 674, 675, 688, 689, 690, 691, 692, 693, 694, 695, 696, 697, 698, 699, 718, 719, 720, 721, 722] (by decide +kernel) (by decide +kernel)
set_option maxRecDepth 20000 in
theorem gL_law_X6_event : GoodIn wsL_law (wsV RL 101 RX6 yX6_event wsX6_event) := goodIn_app (goodIn_of _ (by decide +kernel)) ggL_law_X6_event
set_option maxRecDepth 20000 in
theorem ggL_law_X7_event : GoodIn wsL_law wsX7_event := goodIn_r _ [654, 107, 162, 163, 5, 164, 676, 677, 678, 679, 680, 681, 682, 683, 684, 685, 686, 687] (by decide +kernel) (by decide +kernel)
set_option maxRecDepth 20000 in
theorem gL_law_X7_event : GoodIn wsL_law (wsV RL 104 RX7 yX7_event wsX7_event) := goodIn_app (goodIn_of _ (by decide +kernel)) ggL_law_X7_event
set_option maxRecDepth 20000 in
theorem ggL_law_X6_count : GoodIn wsL_law wsX6_count := goodIn_r _ [658, 15, 367, 117, 118, 247, 248, 119, 659, 660, 661, 662, 663, 22, 519, 26, 498, 199, 200, 201, 38, 202, 58, 57, 151, 152, 153, 154, 664, 228, 229, 230, 155, 156, 157, 596, 378, 379, 14, 380, 46, 35, 297, 2, 298, 669, 670, 671, 672, 673, 674, 675, 688, 689, 690, 691, 692, 693, 694, 695, 696, 697, 698, 699, 710, 711, 712, 713, 714, 715, 716, 717, 705, 706, 707, 708, 709, 700, 701, 702, 703, 704] (by decide +kernel) (by decide +kernel)
set_option maxRecDepth 20000 in
theorem gL_law_X6_count : GoodIn wsL_law (wsV RL 105 RX6 yX6_count wsX6_count) := goodIn_app (goodIn_of _ (by decide +kernel)) ggL_law_X6_count
set_option maxRecDepth 20000 in
theorem ggL_law_X7_count : GoodIn wsL_law wsX7_count := goodIn_r _ [668, 107, 169, 310, 211, 212, 5, 213, 192, 193, 194, 449, 450, 451, 162, 163, 164, 676, 677, 678, 679, 680, 681, 682, 683, 684, 685, 686, 687] (by decide +kernel) (by decide +kernel)
set_option maxRecDepth 20000 in
theorem gL_law_X7_count : GoodIn wsL_law (wsV RL 108 RX7 yX7_count wsX7_count) := goodIn_app (goodIn_of _ (by decide +kernel)) ggL_law_X7_count
theorem dL_law_0 : decode cL_law 0 = .ok (.new 7, 3) := by decide +kernel
theorem dL_law_3 : decode cL_law 3 = .ok (.dup, 1) := by decide +kernel
theorem dL_law_4 : decode cL_law 4 = .ok (.invokespecial 9, 3) := by decide +kernel
theorem dL_law_7 : decode cL_law 7 = .ok (.astore_n 1, 1) := by decide +kernel
theorem dL_law_8 : decode cL_law 8 = .ok (.new 10, 3) := by decide +kernel
theorem dL_law_11 : decode cL_law 11 = .ok (.dup, 1) := by decide +kernel
theorem dL_law_12 : decode cL_law 12 = .ok (.invokespecial 12, 3) := by decide +kernel
theorem dL_law_15 : decode cL_law 15 = .ok (.astore_n 2, 1) := by decide +kernel
theorem dL_law_16 : decode cL_law 16 = .ok (.iconst 0, 1) := by decide +kernel
theorem dL_law_17 : decode cL_law 17 = .ok (.istore_n 3, 1) := by decide +kernel
theorem dL_law_18 : decode cL_law 18 = .ok (.iload_n 3, 1) := by decide +kernel
theorem dL_law_19 : decode cL_law 19 = .ok (.aload_n 0, 1) := by decide +kernel
theorem dL_law_20 : decode cL_law 20 = .ok (.arraylength, 1) := by decide +kernel
theorem dL_law_21 : decode cL_law 21 = .ok (.iconst 3, 1) := by decide +kernel
theorem dL_law_22 : decode cL_law 22 = .ok (.isub, 1) := by decide +kernel
theorem dL_law_23 : decode cL_law 23 = .ok (.if_icmp .gt 614, 3) := by decide +kernel
theorem dL_law_26 : decode cL_law 26 = .ok (.aload_n 0, 1) := by decide +kernel
theorem dL_law_27 : decode cL_law 27 = .ok (.iload_n 3, 1) := by decide +kernel
theorem dL_law_28 : decode cL_law 28 = .ok (.iaload, 1) := by decide +kernel
theorem dL_law_29 : decode cL_law 29 = .ok (.bipush 31, 2) := by decide +kernel
theorem dL_law_31 : decode cL_law 31 = .ok (.iand, 1) := by decide +kernel
theorem dL_law_32 : decode cL_law 32 = .ok (.tableswitch 599 0 22 #[108, 131, 164, 187, 220, 233, 246, 259, 282, 307, 320, 333, 346, 359, 392, 415, 448, 471, 484, 497, 530, 543, 576], 108) := by decide +kernel
theorem dL_law_140 : decode cL_law 140 = .ok (.aload_n 1, 1) := by decide +kernel
theorem dL_law_141 : decode cL_law 141 = .ok (.aload_n 0, 1) := by decide +kernel
theorem dL_law_142 : decode cL_law 142 = .ok (.iload_n 3, 1) := by decide +kernel
theorem dL_law_143 : decode cL_law 143 = .ok (.iconst 1, 1) := by decide +kernel
theorem dL_law_144 : decode cL_law 144 = .ok (.iadd, 1) := by decide +kernel
theorem dL_law_145 : decode cL_law 145 = .ok (.iaload, 1) := by decide +kernel
theorem dL_law_146 : decode cL_law 146 = .ok (.invokevirtual 13, 3) := by decide +kernel
theorem dL_law_149 : decode cL_law 149 = .ok (.aload_n 2, 1) := by decide +kernel
theorem dL_law_150 : decode cL_law 150 = .ok (.aload_n 0, 1) := by decide +kernel
theorem dL_law_151 : decode cL_law 151 = .ok (.iload_n 3, 1) := by decide +kernel
theorem dL_law_152 : decode cL_law 152 = .ok (.iconst 1, 1) := by decide +kernel
theorem dL_law_153 : decode cL_law 153 = .ok (.iadd, 1) := by decide +kernel
theorem dL_law_154 : decode cL_law 154 = .ok (.iaload, 1) := by decide +kernel
theorem dL_law_155 : decode cL_law 155 = .ok (.invokevirtual 17, 3) := by decide +kernel
theorem dL_law_158 : decode cL_law 158 = .ok (.if_icmp .eq 473, 3) := by decide +kernel
theorem dL_law_161 : decode cL_law 161 = .ok (.iconst 0, 1) := by decide +kernel
theorem dL_law_162 : decode cL_law 162 = .ok (.ireturn, 1) := by decide +kernel
theorem dL_law_163 : decode cL_law 163 = .ok (.aload_n 1, 1) := by decide +kernel
theorem dL_law_164 : decode cL_law 164 = .ok (.aload_n 0, 1) := by decide +kernel
theorem dL_law_165 : decode cL_law 165 = .ok (.iload_n 3, 1) := by decide +kernel
theorem dL_law_166 : decode cL_law 166 = .ok (.iconst 1, 1) := by decide +kernel
theorem dL_law_167 : decode cL_law 167 = .ok (.iadd, 1) := by decide +kernel
theorem dL_law_168 : decode cL_law 168 = .ok (.iaload, 1) := by decide +kernel
theorem dL_law_169 : decode cL_law 169 = .ok (.aload_n 0, 1) := by decide +kernel
theorem dL_law_170 : decode cL_law 170 = .ok (.iload_n 3, 1) := by decide +kernel
theorem dL_law_171 : decode cL_law 171 = .ok (.iconst 2, 1) := by decide +kernel
theorem dL_law_172 : decode cL_law 172 = .ok (.iadd, 1) := by decide +kernel
theorem dL_law_173 : decode cL_law 173 = .ok (.iaload, 1) := by decide +kernel
theorem dL_law_174 : decode cL_law 174 = .ok (.invokevirtual 18, 3) := by decide +kernel
theorem dL_law_177 : decode cL_law 177 = .ok (.aload_n 2, 1) := by decide +kernel
theorem dL_law_178 : decode cL_law 178 = .ok (.aload_n 0, 1) := by decide +kernel
theorem dL_law_179 : decode cL_law 179 = .ok (.iload_n 3, 1) := by decide +kernel
theorem dL_law_180 : decode cL_law 180 = .ok (.iconst 1, 1) := by decide +kernel
theorem dL_law_181 : decode cL_law 181 = .ok (.iadd, 1) := by decide +kernel
theorem dL_law_182 : decode cL_law 182 = .ok (.iaload, 1) := by decide +kernel
theorem dL_law_183 : decode cL_law 183 = .ok (.aload_n 0, 1) := by decide +kernel
theorem dL_law_184 : decode cL_law 184 = .ok (.iload_n 3, 1) := by decide +kernel
theorem dL_law_185 : decode cL_law 185 = .ok (.iconst 2, 1) := by decide +kernel
theorem dL_law_186 : decode cL_law 186 = .ok (.iadd, 1) := by decide +kernel
theorem dL_law_187 : decode cL_law 187 = .ok (.iaload, 1) := by decide +kernel
theorem dL_law_188 : decode cL_law 188 = .ok (.invokevirtual 22, 3) := by decide +kernel
theorem dL_law_191 : decode cL_law 191 = .ok (.if_icmp .eq 440, 3) := by decide +kernel
theorem dL_law_194 : decode cL_law 194 = .ok (.iconst 0, 1) := by decide +kernel
theorem dL_law_195 : decode cL_law 195 = .ok (.ireturn, 1) := by decide +kernel
theorem dL_law_196 : decode cL_law 196 = .ok (.aload_n 1, 1) := by decide +kernel
theorem dL_law_197 : decode cL_law 197 = .ok (.aload_n 0, 1) := by decide +kernel
theorem dL_law_198 : decode cL_law 198 = .ok (.iload_n 3, 1) := by decide +kernel
theorem dL_law_199 : decode cL_law 199 = .ok (.iconst 1, 1) := by decide +kernel
theorem dL_law_200 : decode cL_law 200 = .ok (.iadd, 1) := by decide +kernel
theorem dL_law_201 : decode cL_law 201 = .ok (.iaload, 1) := by decide +kernel
theorem dL_law_202 : decode cL_law 202 = .ok (.invokevirtual 23, 3) := by decide +kernel
theorem dL_law_205 : decode cL_law 205 = .ok (.aload_n 2, 1) := by decide +kernel
theorem dL_law_206 : decode cL_law 206 = .ok (.aload_n 0, 1) := by decide +kernel
theorem dL_law_207 : decode cL_law 207 = .ok (.iload_n 3, 1) := by decide +kernel
theorem dL_law_208 : decode cL_law 208 = .ok (.iconst 1, 1) := by decide +kernel
theorem dL_law_209 : decode cL_law 209 = .ok (.iadd, 1) := by decide +kernel
theorem dL_law_210 : decode cL_law 210 = .ok (.iaload, 1) := by decide +kernel
theorem dL_law_211 : decode cL_law 211 = .ok (.invokevirtual 26, 3) := by decide +kernel
theorem dL_law_214 : decode cL_law 214 = .ok (.if_icmp .eq 417, 3) := by decide +kernel
theorem dL_law_217 : decode cL_law 217 = .ok (.iconst 0, 1) := by decide +kernel
theorem dL_law_218 : decode cL_law 218 = .ok (.ireturn, 1) := by decide +kernel
theorem dL_law_219 : decode cL_law 219 = .ok (.aload_n 1, 1) := by decide +kernel
theorem dL_law_220 : decode cL_law 220 = .ok (.aload_n 0, 1) := by decide +kernel
theorem dL_law_221 : decode cL_law 221 = .ok (.iload_n 3, 1) := by decide +kernel
theorem dL_law_222 : decode cL_law 222 = .ok (.iconst 1, 1) := by decide +kernel
theorem dL_law_223 : decode cL_law 223 = .ok (.iadd, 1) := by decide +kernel
theorem dL_law_224 : decode cL_law 224 = .ok (.iaload, 1) := by decide +kernel
theorem dL_law_225 : decode cL_law 225 = .ok (.aload_n 0, 1) := by decide +kernel
theorem dL_law_226 : decode cL_law 226 = .ok (.iload_n 3, 1) := by decide +kernel
theorem dL_law_227 : decode cL_law 227 = .ok (.iconst 2, 1) := by decide +kernel
theorem dL_law_228 : decode cL_law 228 = .ok (.iadd, 1) := by decide +kernel
theorem dL_law_229 : decode cL_law 229 = .ok (.iaload, 1) := by decide +kernel
theorem dL_law_230 : decode cL_law 230 = .ok (.invokevirtual 27, 3) := by decide +kernel
theorem dL_law_233 : decode cL_law 233 = .ok (.aload_n 2, 1) := by decide +kernel
theorem dL_law_234 : decode cL_law 234 = .ok (.aload_n 0, 1) := by decide +kernel
theorem dL_law_235 : decode cL_law 235 = .ok (.iload_n 3, 1) := by decide +kernel
theorem dL_law_236 : decode cL_law 236 = .ok (.iconst 1, 1) := by decide +kernel
theorem dL_law_237 : decode cL_law 237 = .ok (.iadd, 1) := by decide +kernel
theorem dL_law_238 : decode cL_law 238 = .ok (.iaload, 1) := by decide +kernel
theorem dL_law_239 : decode cL_law 239 = .ok (.aload_n 0, 1) := by decide +kernel
theorem dL_law_240 : decode cL_law 240 = .ok (.iload_n 3, 1) := by decide +kernel
theorem dL_law_241 : decode cL_law 241 = .ok (.iconst 2, 1) := by decide +kernel
theorem dL_law_242 : decode cL_law 242 = .ok (.iadd, 1) := by decide +kernel
theorem dL_law_243 : decode cL_law 243 = .ok (.iaload, 1) := by decide +kernel
theorem dL_law_244 : decode cL_law 244 = .ok (.invokevirtual 30, 3) := by decide +kernel
theorem dL_law_247 : decode cL_law 247 = .ok (.if_icmp .eq 384, 3) := by decide +kernel
theorem dL_law_250 : decode cL_law 250 = .ok (.iconst 0, 1) := by decide +kernel
theorem dL_law_251 : decode cL_law 251 = .ok (.ireturn, 1) := by decide +kernel
theorem dL_law_252 : decode cL_law 252 = .ok (.aload_n 1, 1) := by decide +kernel
theorem dL_law_253 : decode cL_law 253 = .ok (.invokevirtual 31, 3) := by decide +kernel
theorem dL_law_256 : decode cL_law 256 = .ok (.aload_n 2, 1) := by decide +kernel
theorem dL_law_257 : decode cL_law 257 = .ok (.invokevirtual 35, 3) := by decide +kernel
theorem dL_law_260 : decode cL_law 260 = .ok (.if_icmp .eq 371, 3) := by decide +kernel
theorem dL_law_263 : decode cL_law 263 = .ok (.iconst 0, 1) := by decide +kernel
theorem dL_law_264 : decode cL_law 264 = .ok (.ireturn, 1) := by decide +kernel
theorem dL_law_265 : decode cL_law 265 = .ok (.aload_n 1, 1) := by decide +kernel
theorem dL_law_266 : decode cL_law 266 = .ok (.invokevirtual 36, 3) := by decide +kernel
theorem dL_law_269 : decode cL_law 269 = .ok (.aload_n 2, 1) := by decide +kernel
theorem dL_law_270 : decode cL_law 270 = .ok (.invokevirtual 39, 3) := by decide +kernel
theorem dL_law_273 : decode cL_law 273 = .ok (.if_icmp .eq 358, 3) := by decide +kernel
theorem dL_law_276 : decode cL_law 276 = .ok (.iconst 0, 1) := by decide +kernel
theorem dL_law_277 : decode cL_law 277 = .ok (.ireturn, 1) := by decide +kernel
theorem dL_law_278 : decode cL_law 278 = .ok (.aload_n 1, 1) := by decide +kernel
theorem dL_law_279 : decode cL_law 279 = .ok (.invokevirtual 40, 3) := by decide +kernel
theorem dL_law_282 : decode cL_law 282 = .ok (.aload_n 2, 1) := by decide +kernel
theorem dL_law_283 : decode cL_law 283 = .ok (.invokevirtual 43, 3) := by decide +kernel
theorem dL_law_286 : decode cL_law 286 = .ok (.if_icmp .eq 345, 3) := by decide +kernel
theorem dL_law_289 : decode cL_law 289 = .ok (.iconst 0, 1) := by decide +kernel
theorem dL_law_290 : decode cL_law 290 = .ok (.ireturn, 1) := by decide +kernel
theorem dL_law_291 : decode cL_law 291 = .ok (.aload_n 1, 1) := by decide +kernel
theorem dL_law_292 : decode cL_law 292 = .ok (.aload_n 0, 1) := by decide +kernel
theorem dL_law_293 : decode cL_law 293 = .ok (.iload_n 3, 1) := by decide +kernel
theorem dL_law_294 : decode cL_law 294 = .ok (.iconst 1, 1) := by decide +kernel
theorem dL_law_295 : decode cL_law 295 = .ok (.iadd, 1) := by decide +kernel
theorem dL_law_296 : decode cL_law 296 = .ok (.iaload, 1) := by decide +kernel
theorem dL_law_297 : decode cL_law 297 = .ok (.invokevirtual 44, 3) := by decide +kernel
theorem dL_law_300 : decode cL_law 300 = .ok (.aload_n 2, 1) := by decide +kernel
theorem dL_law_301 : decode cL_law 301 = .ok (.aload_n 0, 1) := by decide +kernel
theorem dL_law_302 : decode cL_law 302 = .ok (.iload_n 3, 1) := by decide +kernel
theorem dL_law_303 : decode cL_law 303 = .ok (.iconst 1, 1) := by decide +kernel
theorem dL_law_304 : decode cL_law 304 = .ok (.iadd, 1) := by decide +kernel
theorem dL_law_305 : decode cL_law 305 = .ok (.iaload, 1) := by decide +kernel
theorem dL_law_306 : decode cL_law 306 = .ok (.invokevirtual 47, 3) := by decide +kernel
theorem dL_law_309 : decode cL_law 309 = .ok (.if_icmp .eq 322, 3) := by decide +kernel
theorem dL_law_312 : decode cL_law 312 = .ok (.iconst 0, 1) := by decide +kernel
theorem dL_law_313 : decode cL_law 313 = .ok (.ireturn, 1) := by decide +kernel
theorem dL_law_314 : decode cL_law 314 = .ok (.aload_n 1, 1) := by decide +kernel
theorem dL_law_315 : decode cL_law 315 = .ok (.aload_n 0, 1) := by decide +kernel
theorem dL_law_316 : decode cL_law 316 = .ok (.iload_n 3, 1) := by decide +kernel
theorem dL_law_317 : decode cL_law 317 = .ok (.iconst 1, 1) := by decide +kernel
theorem dL_law_318 : decode cL_law 318 = .ok (.iadd, 1) := by decide +kernel
theorem dL_law_319 : decode cL_law 319 = .ok (.iaload, 1) := by decide +kernel
theorem dL_law_320 : decode cL_law 320 = .ok (.i2c, 1) := by decide +kernel
theorem dL_law_321 : decode cL_law 321 = .ok (.invokevirtual 48, 3) := by decide +kernel
theorem dL_law_324 : decode cL_law 324 = .ok (.aload_n 2, 1) := by decide +kernel
theorem dL_law_325 : decode cL_law 325 = .ok (.aload_n 0, 1) := by decide +kernel
theorem dL_law_326 : decode cL_law 326 = .ok (.iload_n 3, 1) := by decide +kernel
theorem dL_law_327 : decode cL_law 327 = .ok (.iconst 1, 1) := by decide +kernel
theorem dL_law_328 : decode cL_law 328 = .ok (.iadd, 1) := by decide +kernel
theorem dL_law_329 : decode cL_law 329 = .ok (.iaload, 1) := by decide +kernel
theorem dL_law_330 : decode cL_law 330 = .ok (.i2c, 1) := by decide +kernel
theorem dL_law_331 : decode cL_law 331 = .ok (.invokevirtual 52, 3) := by decide +kernel
theorem dL_law_334 : decode cL_law 334 = .ok (.if_icmp .eq 297, 3) := by decide +kernel
theorem dL_law_337 : decode cL_law 337 = .ok (.iconst 0, 1) := by decide +kernel
theorem dL_law_338 : decode cL_law 338 = .ok (.ireturn, 1) := by decide +kernel
theorem dL_law_339 : decode cL_law 339 = .ok (.aload_n 1, 1) := by decide +kernel
theorem dL_law_340 : decode cL_law 340 = .ok (.invokevirtual 53, 3) := by decide +kernel
theorem dL_law_343 : decode cL_law 343 = .ok (.aload_n 2, 1) := by decide +kernel
theorem dL_law_344 : decode cL_law 344 = .ok (.invokevirtual 56, 3) := by decide +kernel
theorem dL_law_347 : decode cL_law 347 = .ok (.if_icmp .eq 284, 3) := by decide +kernel
theorem dL_law_350 : decode cL_law 350 = .ok (.iconst 0, 1) := by decide +kernel
theorem dL_law_351 : decode cL_law 351 = .ok (.ireturn, 1) := by decide +kernel
theorem dL_law_352 : decode cL_law 352 = .ok (.aload_n 1, 1) := by decide +kernel
theorem dL_law_353 : decode cL_law 353 = .ok (.invokevirtual 57, 3) := by decide +kernel
theorem dL_law_356 : decode cL_law 356 = .ok (.aload_n 2, 1) := by decide +kernel
theorem dL_law_357 : decode cL_law 357 = .ok (.invokevirtual 60, 3) := by decide +kernel
theorem dL_law_360 : decode cL_law 360 = .ok (.if_icmp .eq 271, 3) := by decide +kernel
theorem dL_law_363 : decode cL_law 363 = .ok (.iconst 0, 1) := by decide +kernel
theorem dL_law_364 : decode cL_law 364 = .ok (.ireturn, 1) := by decide +kernel
theorem dL_law_365 : decode cL_law 365 = .ok (.aload_n 1, 1) := by decide +kernel
theorem dL_law_366 : decode cL_law 366 = .ok (.invokevirtual 61, 3) := by decide +kernel
theorem dL_law_369 : decode cL_law 369 = .ok (.aload_n 2, 1) := by decide +kernel
theorem dL_law_370 : decode cL_law 370 = .ok (.invokevirtual 64, 3) := by decide +kernel
theorem dL_law_373 : decode cL_law 373 = .ok (.if_icmp .eq 258, 3) := by decide +kernel
theorem dL_law_376 : decode cL_law 376 = .ok (.iconst 0, 1) := by decide +kernel
theorem dL_law_377 : decode cL_law 377 = .ok (.ireturn, 1) := by decide +kernel
theorem dL_law_378 : decode cL_law 378 = .ok (.aload_n 1, 1) := by decide +kernel
theorem dL_law_379 : decode cL_law 379 = .ok (.invokevirtual 65, 3) := by decide +kernel
theorem dL_law_382 : decode cL_law 382 = .ok (.aload_n 2, 1) := by decide +kernel
theorem dL_law_383 : decode cL_law 383 = .ok (.invokevirtual 68, 3) := by decide +kernel
theorem dL_law_386 : decode cL_law 386 = .ok (.if_icmp .eq 245, 3) := by decide +kernel
theorem dL_law_389 : decode cL_law 389 = .ok (.iconst 0, 1) := by decide +kernel
theorem dL_law_390 : decode cL_law 390 = .ok (.ireturn, 1) := by decide +kernel
theorem dL_law_391 : decode cL_law 391 = .ok (.aload_n 1, 1) := by decide +kernel
theorem dL_law_392 : decode cL_law 392 = .ok (.aload_n 0, 1) := by decide +kernel
theorem dL_law_393 : decode cL_law 393 = .ok (.iload_n 3, 1) := by decide +kernel
theorem dL_law_394 : decode cL_law 394 = .ok (.iconst 1, 1) := by decide +kernel
theorem dL_law_395 : decode cL_law 395 = .ok (.iadd, 1) := by decide +kernel
theorem dL_law_396 : decode cL_law 396 = .ok (.iaload, 1) := by decide +kernel
theorem dL_law_397 : decode cL_law 397 = .ok (.aload_n 0, 1) := by decide +kernel
theorem dL_law_398 : decode cL_law 398 = .ok (.iload_n 3, 1) := by decide +kernel
theorem dL_law_399 : decode cL_law 399 = .ok (.iconst 2, 1) := by decide +kernel
theorem dL_law_400 : decode cL_law 400 = .ok (.iadd, 1) := by decide +kernel
theorem dL_law_401 : decode cL_law 401 = .ok (.iaload, 1) := by decide +kernel
theorem dL_law_402 : decode cL_law 402 = .ok (.invokevirtual 69, 3) := by decide +kernel
theorem dL_law_405 : decode cL_law 405 = .ok (.aload_n 2, 1) := by decide +kernel
theorem dL_law_406 : decode cL_law 406 = .ok (.aload_n 0, 1) := by decide +kernel
theorem dL_law_407 : decode cL_law 407 = .ok (.iload_n 3, 1) := by decide +kernel
theorem dL_law_408 : decode cL_law 408 = .ok (.iconst 1, 1) := by decide +kernel
theorem dL_law_409 : decode cL_law 409 = .ok (.iadd, 1) := by decide +kernel
theorem dL_law_410 : decode cL_law 410 = .ok (.iaload, 1) := by decide +kernel
theorem dL_law_411 : decode cL_law 411 = .ok (.aload_n 0, 1) := by decide +kernel
theorem dL_law_412 : decode cL_law 412 = .ok (.iload_n 3, 1) := by decide +kernel
theorem dL_law_413 : decode cL_law 413 = .ok (.iconst 2, 1) := by decide +kernel
theorem dL_law_414 : decode cL_law 414 = .ok (.iadd, 1) := by decide +kernel
theorem dL_law_415 : decode cL_law 415 = .ok (.iaload, 1) := by decide +kernel
theorem dL_law_416 : decode cL_law 416 = .ok (.invokevirtual 72, 3) := by decide +kernel
theorem dL_law_419 : decode cL_law 419 = .ok (.if_icmp .eq 212, 3) := by decide +kernel
theorem dL_law_422 : decode cL_law 422 = .ok (.iconst 0, 1) := by decide +kernel
theorem dL_law_423 : decode cL_law 423 = .ok (.ireturn, 1) := by decide +kernel
theorem dL_law_424 : decode cL_law 424 = .ok (.aload_n 1, 1) := by decide +kernel
theorem dL_law_425 : decode cL_law 425 = .ok (.aload_n 0, 1) := by decide +kernel
theorem dL_law_426 : decode cL_law 426 = .ok (.iload_n 3, 1) := by decide +kernel
theorem dL_law_427 : decode cL_law 427 = .ok (.iconst 1, 1) := by decide +kernel
theorem dL_law_428 : decode cL_law 428 = .ok (.iadd, 1) := by decide +kernel
theorem dL_law_429 : decode cL_law 429 = .ok (.iaload, 1) := by decide +kernel
theorem dL_law_430 : decode cL_law 430 = .ok (.invokevirtual 73, 3) := by decide +kernel
theorem dL_law_433 : decode cL_law 433 = .ok (.aload_n 2, 1) := by decide +kernel
theorem dL_law_434 : decode cL_law 434 = .ok (.aload_n 0, 1) := by decide +kernel
theorem dL_law_435 : decode cL_law 435 = .ok (.iload_n 3, 1) := by decide +kernel
theorem dL_law_436 : decode cL_law 436 = .ok (.iconst 1, 1) := by decide +kernel
theorem dL_law_437 : decode cL_law 437 = .ok (.iadd, 1) := by decide +kernel
theorem dL_law_438 : decode cL_law 438 = .ok (.iaload, 1) := by decide +kernel
theorem dL_law_439 : decode cL_law 439 = .ok (.invokevirtual 76, 3) := by decide +kernel
theorem dL_law_442 : decode cL_law 442 = .ok (.if_icmp .eq 189, 3) := by decide +kernel
theorem dL_law_445 : decode cL_law 445 = .ok (.iconst 0, 1) := by decide +kernel
theorem dL_law_446 : decode cL_law 446 = .ok (.ireturn, 1) := by decide +kernel
theorem dL_law_447 : decode cL_law 447 = .ok (.aload_n 1, 1) := by decide +kernel
theorem dL_law_448 : decode cL_law 448 = .ok (.aload_n 0, 1) := by decide +kernel
theorem dL_law_449 : decode cL_law 449 = .ok (.iload_n 3, 1) := by decide +kernel
theorem dL_law_450 : decode cL_law 450 = .ok (.iconst 1, 1) := by decide +kernel
theorem dL_law_451 : decode cL_law 451 = .ok (.iadd, 1) := by decide +kernel
theorem dL_law_452 : decode cL_law 452 = .ok (.iaload, 1) := by decide +kernel
theorem dL_law_453 : decode cL_law 453 = .ok (.aload_n 0, 1) := by decide +kernel
theorem dL_law_454 : decode cL_law 454 = .ok (.iload_n 3, 1) := by decide +kernel
theorem dL_law_455 : decode cL_law 455 = .ok (.iconst 2, 1) := by decide +kernel
theorem dL_law_456 : decode cL_law 456 = .ok (.iadd, 1) := by decide +kernel
theorem dL_law_457 : decode cL_law 457 = .ok (.iaload, 1) := by decide +kernel
theorem dL_law_458 : decode cL_law 458 = .ok (.invokevirtual 77, 3) := by decide +kernel
theorem dL_law_461 : decode cL_law 461 = .ok (.aload_n 2, 1) := by decide +kernel
theorem dL_law_462 : decode cL_law 462 = .ok (.aload_n 0, 1) := by decide +kernel
theorem dL_law_463 : decode cL_law 463 = .ok (.iload_n 3, 1) := by decide +kernel
theorem dL_law_464 : decode cL_law 464 = .ok (.iconst 1, 1) := by decide +kernel
theorem dL_law_465 : decode cL_law 465 = .ok (.iadd, 1) := by decide +kernel
theorem dL_law_466 : decode cL_law 466 = .ok (.iaload, 1) := by decide +kernel
theorem dL_law_467 : decode cL_law 467 = .ok (.aload_n 0, 1) := by decide +kernel
theorem dL_law_468 : decode cL_law 468 = .ok (.iload_n 3, 1) := by decide +kernel
theorem dL_law_469 : decode cL_law 469 = .ok (.iconst 2, 1) := by decide +kernel
theorem dL_law_470 : decode cL_law 470 = .ok (.iadd, 1) := by decide +kernel
theorem dL_law_471 : decode cL_law 471 = .ok (.iaload, 1) := by decide +kernel
theorem dL_law_472 : decode cL_law 472 = .ok (.invokevirtual 80, 3) := by decide +kernel
theorem dL_law_475 : decode cL_law 475 = .ok (.if_icmp .eq 156, 3) := by decide +kernel
theorem dL_law_478 : decode cL_law 478 = .ok (.iconst 0, 1) := by decide +kernel
theorem dL_law_479 : decode cL_law 479 = .ok (.ireturn, 1) := by decide +kernel
theorem dL_law_480 : decode cL_law 480 = .ok (.aload_n 1, 1) := by decide +kernel
theorem dL_law_481 : decode cL_law 481 = .ok (.aload_n 0, 1) := by decide +kernel
theorem dL_law_482 : decode cL_law 482 = .ok (.iload_n 3, 1) := by decide +kernel
theorem dL_law_483 : decode cL_law 483 = .ok (.iconst 1, 1) := by decide +kernel
theorem dL_law_484 : decode cL_law 484 = .ok (.iadd, 1) := by decide +kernel
theorem dL_law_485 : decode cL_law 485 = .ok (.iaload, 1) := by decide +kernel
theorem dL_law_486 : decode cL_law 486 = .ok (.invokevirtual 81, 3) := by decide +kernel
theorem dL_law_489 : decode cL_law 489 = .ok (.aload_n 2, 1) := by decide +kernel
theorem dL_law_490 : decode cL_law 490 = .ok (.aload_n 0, 1) := by decide +kernel
theorem dL_law_491 : decode cL_law 491 = .ok (.iload_n 3, 1) := by decide +kernel
theorem dL_law_492 : decode cL_law 492 = .ok (.iconst 1, 1) := by decide +kernel
theorem dL_law_493 : decode cL_law 493 = .ok (.iadd, 1) := by decide +kernel
theorem dL_law_494 : decode cL_law 494 = .ok (.iaload, 1) := by decide +kernel
theorem dL_law_495 : decode cL_law 495 = .ok (.invokevirtual 84, 3) := by decide +kernel
theorem dL_law_498 : decode cL_law 498 = .ok (.if_icmp .eq 133, 3) := by decide +kernel
theorem dL_law_501 : decode cL_law 501 = .ok (.iconst 0, 1) := by decide +kernel
theorem dL_law_502 : decode cL_law 502 = .ok (.ireturn, 1) := by decide +kernel
theorem dL_law_503 : decode cL_law 503 = .ok (.aload_n 1, 1) := by decide +kernel
theorem dL_law_504 : decode cL_law 504 = .ok (.invokevirtual 85, 3) := by decide +kernel
theorem dL_law_507 : decode cL_law 507 = .ok (.aload_n 2, 1) := by decide +kernel
theorem dL_law_508 : decode cL_law 508 = .ok (.invokevirtual 88, 3) := by decide +kernel
theorem dL_law_511 : decode cL_law 511 = .ok (.if_icmp .eq 120, 3) := by decide +kernel
theorem dL_law_514 : decode cL_law 514 = .ok (.iconst 0, 1) := by decide +kernel
theorem dL_law_515 : decode cL_law 515 = .ok (.ireturn, 1) := by decide +kernel
theorem dL_law_516 : decode cL_law 516 = .ok (.aload_n 1, 1) := by decide +kernel
theorem dL_law_517 : decode cL_law 517 = .ok (.invokevirtual 89, 3) := by decide +kernel
theorem dL_law_520 : decode cL_law 520 = .ok (.aload_n 2, 1) := by decide +kernel
theorem dL_law_521 : decode cL_law 521 = .ok (.invokevirtual 92, 3) := by decide +kernel
theorem dL_law_524 : decode cL_law 524 = .ok (.if_icmp .eq 107, 3) := by decide +kernel
theorem dL_law_527 : decode cL_law 527 = .ok (.iconst 0, 1) := by decide +kernel
theorem dL_law_528 : decode cL_law 528 = .ok (.ireturn, 1) := by decide +kernel
theorem dL_law_529 : decode cL_law 529 = .ok (.aload_n 1, 1) := by decide +kernel
theorem dL_law_530 : decode cL_law 530 = .ok (.aload_n 0, 1) := by decide +kernel
theorem dL_law_531 : decode cL_law 531 = .ok (.iload_n 3, 1) := by decide +kernel
theorem dL_law_532 : decode cL_law 532 = .ok (.iconst 1, 1) := by decide +kernel
theorem dL_law_533 : decode cL_law 533 = .ok (.iadd, 1) := by decide +kernel
theorem dL_law_534 : decode cL_law 534 = .ok (.iaload, 1) := by decide +kernel
theorem dL_law_535 : decode cL_law 535 = .ok (.aload_n 0, 1) := by decide +kernel
theorem dL_law_536 : decode cL_law 536 = .ok (.iload_n 3, 1) := by decide +kernel
theorem dL_law_537 : decode cL_law 537 = .ok (.iconst 2, 1) := by decide +kernel
theorem dL_law_538 : decode cL_law 538 = .ok (.iadd, 1) := by decide +kernel
theorem dL_law_539 : decode cL_law 539 = .ok (.iaload, 1) := by decide +kernel
theorem dL_law_540 : decode cL_law 540 = .ok (.invokevirtual 93, 3) := by decide +kernel
theorem dL_law_543 : decode cL_law 543 = .ok (.aload_n 2, 1) := by decide +kernel
theorem dL_law_544 : decode cL_law 544 = .ok (.aload_n 0, 1) := by decide +kernel
theorem dL_law_545 : decode cL_law 545 = .ok (.iload_n 3, 1) := by decide +kernel
theorem dL_law_546 : decode cL_law 546 = .ok (.iconst 1, 1) := by decide +kernel
theorem dL_law_547 : decode cL_law 547 = .ok (.iadd, 1) := by decide +kernel
theorem dL_law_548 : decode cL_law 548 = .ok (.iaload, 1) := by decide +kernel
theorem dL_law_549 : decode cL_law 549 = .ok (.aload_n 0, 1) := by decide +kernel
theorem dL_law_550 : decode cL_law 550 = .ok (.iload_n 3, 1) := by decide +kernel
theorem dL_law_551 : decode cL_law 551 = .ok (.iconst 2, 1) := by decide +kernel
theorem dL_law_552 : decode cL_law 552 = .ok (.iadd, 1) := by decide +kernel
theorem dL_law_553 : decode cL_law 553 = .ok (.iaload, 1) := by decide +kernel
theorem dL_law_554 : decode cL_law 554 = .ok (.invokevirtual 96, 3) := by decide +kernel
theorem dL_law_557 : decode cL_law 557 = .ok (.if_icmp .eq 74, 3) := by decide +kernel
theorem dL_law_560 : decode cL_law 560 = .ok (.iconst 0, 1) := by decide +kernel
theorem dL_law_561 : decode cL_law 561 = .ok (.ireturn, 1) := by decide +kernel
theorem dL_law_562 : decode cL_law 562 = .ok (.aload_n 1, 1) := by decide +kernel
theorem dL_law_563 : decode cL_law 563 = .ok (.invokevirtual 97, 3) := by decide +kernel
theorem dL_law_566 : decode cL_law 566 = .ok (.aload_n 2, 1) := by decide +kernel
theorem dL_law_567 : decode cL_law 567 = .ok (.invokevirtual 100, 3) := by decide +kernel
theorem dL_law_570 : decode cL_law 570 = .ok (.if_icmp .eq 61, 3) := by decide +kernel
theorem dL_law_573 : decode cL_law 573 = .ok (.iconst 0, 1) := by decide +kernel
theorem dL_law_574 : decode cL_law 574 = .ok (.ireturn, 1) := by decide +kernel
theorem dL_law_575 : decode cL_law 575 = .ok (.aload_n 1, 1) := by decide +kernel
theorem dL_law_576 : decode cL_law 576 = .ok (.aload_n 0, 1) := by decide +kernel
theorem dL_law_577 : decode cL_law 577 = .ok (.iload_n 3, 1) := by decide +kernel
theorem dL_law_578 : decode cL_law 578 = .ok (.iconst 1, 1) := by decide +kernel
theorem dL_law_579 : decode cL_law 579 = .ok (.iadd, 1) := by decide +kernel
theorem dL_law_580 : decode cL_law 580 = .ok (.iaload, 1) := by decide +kernel
theorem dL_law_581 : decode cL_law 581 = .ok (.aload_n 0, 1) := by decide +kernel
theorem dL_law_582 : decode cL_law 582 = .ok (.iload_n 3, 1) := by decide +kernel
theorem dL_law_583 : decode cL_law 583 = .ok (.iconst 2, 1) := by decide +kernel
theorem dL_law_584 : decode cL_law 584 = .ok (.iadd, 1) := by decide +kernel
theorem dL_law_585 : decode cL_law 585 = .ok (.iaload, 1) := by decide +kernel
theorem dL_law_586 : decode cL_law 586 = .ok (.invokevirtual 101, 3) := by decide +kernel
theorem dL_law_589 : decode cL_law 589 = .ok (.aload_n 2, 1) := by decide +kernel
theorem dL_law_590 : decode cL_law 590 = .ok (.aload_n 0, 1) := by decide +kernel
theorem dL_law_591 : decode cL_law 591 = .ok (.iload_n 3, 1) := by decide +kernel
theorem dL_law_592 : decode cL_law 592 = .ok (.iconst 1, 1) := by decide +kernel
theorem dL_law_593 : decode cL_law 593 = .ok (.iadd, 1) := by decide +kernel
theorem dL_law_594 : decode cL_law 594 = .ok (.iaload, 1) := by decide +kernel
theorem dL_law_595 : decode cL_law 595 = .ok (.aload_n 0, 1) := by decide +kernel
theorem dL_law_596 : decode cL_law 596 = .ok (.iload_n 3, 1) := by decide +kernel
theorem dL_law_597 : decode cL_law 597 = .ok (.iconst 2, 1) := by decide +kernel
theorem dL_law_598 : decode cL_law 598 = .ok (.iadd, 1) := by decide +kernel
theorem dL_law_599 : decode cL_law 599 = .ok (.iaload, 1) := by decide +kernel
theorem dL_law_600 : decode cL_law 600 = .ok (.invokevirtual 104, 3) := by decide +kernel
theorem dL_law_603 : decode cL_law 603 = .ok (.if_icmp .eq 28, 3) := by decide +kernel
theorem dL_law_606 : decode cL_law 606 = .ok (.iconst 0, 1) := by decide +kernel
theorem dL_law_607 : decode cL_law 607 = .ok (.ireturn, 1) := by decide +kernel
theorem dL_law_608 : decode cL_law 608 = .ok (.aload_n 1, 1) := by decide +kernel
theorem dL_law_609 : decode cL_law 609 = .ok (.aload_n 0, 1) := by decide +kernel
theorem dL_law_610 : decode cL_law 610 = .ok (.iload_n 3, 1) := by decide +kernel
theorem dL_law_611 : decode cL_law 611 = .ok (.iconst 1, 1) := by decide +kernel
theorem dL_law_612 : decode cL_law 612 = .ok (.iadd, 1) := by decide +kernel
theorem dL_law_613 : decode cL_law 613 = .ok (.iaload, 1) := by decide +kernel
theorem dL_law_614 : decode cL_law 614 = .ok (.invokevirtual 105, 3) := by decide +kernel
theorem dL_law_617 : decode cL_law 617 = .ok (.aload_n 2, 1) := by decide +kernel
theorem dL_law_618 : decode cL_law 618 = .ok (.aload_n 0, 1) := by decide +kernel
theorem dL_law_619 : decode cL_law 619 = .ok (.iload_n 3, 1) := by decide +kernel
theorem dL_law_620 : decode cL_law 620 = .ok (.iconst 1, 1) := by decide +kernel
theorem dL_law_621 : decode cL_law 621 = .ok (.iadd, 1) := by decide +kernel
theorem dL_law_622 : decode cL_law 622 = .ok (.iaload, 1) := by decide +kernel
theorem dL_law_623 : decode cL_law 623 = .ok (.invokevirtual 108, 3) := by decide +kernel
theorem dL_law_626 : decode cL_law 626 = .ok (.if_icmp .eq 5, 3) := by decide +kernel
theorem dL_law_629 : decode cL_law 629 = .ok (.iconst 0, 1) := by decide +kernel
theorem dL_law_630 : decode cL_law 630 = .ok (.ireturn, 1) := by decide +kernel
theorem dL_law_631 : decode cL_law 631 = .ok (.iinc 3 3, 3) := by decide +kernel
theorem dL_law_634 : decode cL_law 634 = .ok (.goto (-616), 3) := by decide +kernel
theorem dL_law_637 : decode cL_law 637 = .ok (.iconst 1, 1) := by decide +kernel
theorem dL_law_638 : decode cL_law 638 = .ok (.ireturn, 1) := by decide +kernel
