theorem g_mem_pl {big ws : List Cond} (ps : List Nat) (h : ws = ps.filterMap (fun i => big[i]?)) : ∀ w ∈ ws, w ∈ big := by
  intro w hw
  rw [h] at hw
  obtain ⟨i, -, hi⟩ := List.mem_filterMap.mp hw
  exact List.mem_of_getElem? hi
set_option maxRecDepth 20000 in
theorem wl_L_law_r1 : ∀ w ∈ wsL_law_r1, w ∈ lw_tbl := g_mem_pl [27, 28, 18, 648, 646, 647, 598, 599, 17, 600, 604, 605, 606, 607, 608, 609, 610, 611, 612, 613, 614, 615, 616, 617] rfl
set_option maxRecDepth 20000 in
theorem wl_L_law_r2 : ∀ w ∈ wsL_law_r2, w ∈ lw_tbl := g_mem_pl [618, 619, 620, 621, 622, 623, 624, 625, 626, 627, 628, 629, 630, 631, 632, 633, 601, 602, 603, 29, 30, 31, 32, 33] rfl
set_option maxRecDepth 20000 in
theorem wl_L_law_r3 : ∀ w ∈ wsL_law_r3, w ∈ lw_tbl := g_mem_pl [34, 35, 36, 19, 237, 238, 239, 240, 190, 191, 23, 241, 207, 208, 24, 242, 226, 82, 21, 243, 38, 39, 40, 80] rfl
set_option maxRecDepth 20000 in
theorem wl_L_law_r4 : ∀ w ∈ wsL_law_r4, w ∈ lw_tbl := g_mem_pl [142, 41, 42, 20, 144, 81, 146, 116, 117, 22, 148, 150, 152, 154, 156, 158, 160, 161, 163, 44, 45, 46, 47, 49] rfl
set_option maxRecDepth 20000 in
theorem wl_L_law_r5 : ∀ w ∈ wsL_law_r5, w ∈ lw_tbl := g_mem_pl [51, 53, 55, 57, 59, 61, 84, 85, 86, 87, 90, 93, 97, 101, 119, 120, 121, 122, 124, 125, 127, 129, 192, 193] rfl
set_option maxRecDepth 20000 in
theorem wl_L_law_r6 : ∀ w ∈ wsL_law_r6, w ∈ lw_tbl := g_mem_pl [194, 195, 199, 196, 201, 210, 211, 212, 213, 215, 225, 217, 228, 229, 230, 231, 234, 236, 235, 25, 594, 595, 596, 597] rfl
set_option maxRecDepth 20000 in
theorem wl_L_law_r7 : ∀ w ∈ wsL_law_r7, w ∈ lw_tbl := g_mem_pl [487, 488, 489, 490, 214, 491, 492, 493, 494, 339, 340, 341, 342, 216, 151, 147, 89, 343, 344, 345, 346, 88, 347, 349] rfl
set_option maxRecDepth 20000 in
theorem wl_L_law_r8 : ∀ w ∈ wsL_law_r8, w ∈ lw_tbl := g_mem_pl [1, 350, 351, 353, 2, 354, 355, 356, 357, 358, 359, 361, 3, 362, 98, 363, 365, 4, 366, 94, 367, 369, 5, 370] rfl
set_option maxRecDepth 20000 in
theorem wl_L_law_r9 : ∀ w ∈ wsL_law_r9, w ∈ lw_tbl := g_mem_pl [371, 373, 6, 374, 375, 377, 7, 378, 102, 379, 380, 381, 382, 383, 385, 8, 386, 388, 389, 263, 264, 265, 266, 267] rfl
set_option maxRecDepth 20000 in
theorem wl_L_law_r10 : ∀ w ∈ wsL_law_r10, w ∈ lw_tbl := g_mem_pl [269, 0, 270, 271, 272, 273, 274, 275, 276, 277, 278, 279, 280, 281, 282, 283, 284, 285, 286, 287, 288, 289, 390, 521] rfl
set_option maxRecDepth 20000 in
theorem wl_L_law_r11 : ∀ w ∈ wsL_law_r11, w ∈ lw_tbl := g_mem_pl [522, 523, 524, 157, 145, 48, 153, 155, 159, 162, 164, 200, 312, 313, 314, 315, 294, 295, 26, 296, 525, 336, 337, 338] rfl
set_option maxRecDepth 20000 in
theorem wl_L_law_r12 : ∀ w ∈ wsL_law_r12, w ∈ lw_tbl := g_mem_pl [297, 298, 299, 526, 425, 426, 427, 634, 635, 636, 637, 638, 639, 640, 641, 391, 392, 393, 394, 395, 396, 397, 398, 399] rfl
set_option maxRecDepth 20000 in
theorem wl_L_law_r13 : ∀ w ∈ wsL_law_r13, w ∈ lw_tbl := g_mem_pl [401, 9, 402, 403, 404, 405, 406, 407, 408, 409, 410, 499, 500, 501, 502, 503, 504, 505, 506, 512, 513, 514, 515, 511] rfl
set_option maxRecDepth 20000 in
theorem wl_L_law_r14 : ∀ w ∈ wsL_law_r14, w ∈ lw_tbl := g_mem_pl [567, 568, 569, 570, 571, 572, 573, 574, 424, 420, 422, 10, 423, 429, 431, 11, 432, 433, 435, 12, 436, 437, 438, 439] rfl
set_option maxRecDepth 20000 in
theorem wl_L_law_r15 : ∀ w ∈ wsL_law_r15, w ∈ lw_tbl := g_mem_pl [440, 91, 95, 100, 441, 442, 443, 444, 445, 446, 447, 448, 449, 450, 451, 452, 453, 454, 455, 456, 335, 458, 459, 460] rfl
set_option maxRecDepth 20000 in
theorem wl_L_law_r16 : ∀ w ∈ wsL_law_r16, w ∈ lw_tbl := g_mem_pl [462, 13, 463, 464, 465, 466, 467, 468, 469, 471, 14, 472, 473, 475, 15, 476, 477, 479, 16, 480, 103, 481, 482, 483] rfl
set_option maxRecDepth 20000 in
theorem wl_L_law_r17 : ∀ w ∈ wsL_law_r17, w ∈ lw_tbl := g_mem_pl [484, 485, 590, 591, 592, 593, 143, 259, 260, 261, 262, 290, 291, 292, 293, 320, 321, 322, 323, 327, 329, 324, 325, 326] rfl
set_option maxRecDepth 20000 in
theorem wl_L_law_r18 : ∀ w ∈ wsL_law_r18, w ∈ lw_tbl := g_mem_pl [331, 332, 333, 334, 551, 552, 553, 554, 92, 96, 99, 104, 555, 556, 561, 562, 563, 564, 566, 565, 586, 587, 588, 589] rfl
set_option maxRecDepth 20000 in
theorem wl_L_law_r19 : ∀ w ∈ wsL_law_r19, w ∈ lw_tbl := g_mem_pl [50, 304, 305, 306, 307, 416, 417, 418, 419, 581, 582, 583, 584, 585, 411, 412, 413, 414, 415, 516, 517, 518, 519, 52] rfl
set_option maxRecDepth 20000 in
theorem wl_L_law_r20 : ∀ w ∈ wsL_law_r20, w ∈ lw_tbl := g_mem_pl [54, 56, 58, 60, 62, 520, 540, 541, 542, 543, 149, 123, 126, 128, 130, 544, 545, 546, 547, 548, 549, 26, 550, 308] rfl
set_option maxRecDepth 20000 in
theorem wl_L_law_r21 : ∀ w ∈ wsL_law_r21, w ∈ lw_tbl := g_mem_pl [309, 310, 311, 316, 317, 318, 319, 495, 496, 497, 498, 575, 576, 577, 535, 536, 537, 538, 539, 557, 558, 559, 560, 578] rfl
set_option maxRecDepth 20000 in
theorem wl_L_law_r22 : ∀ w ∈ wsL_law_r22, w ∈ lw_tbl := g_mem_pl [579, 580, 300, 301, 302, 303, 642, 643, 644, 645, 531, 532, 533, 534, 527, 528, 529, 530, 507, 508, 509, 510] rfl
set_option maxRecDepth 20000 in
theorem wl_X60 : ∀ w ∈ wsX60, w ∈ lw_tbl := g_mem_pl [244, 246, 248, 250, 252, 254, 256] rfl
set_option maxRecDepth 20000 in
theorem wl_X40 : ∀ w ∈ wsX40, w ∈ lw_tbl := g_mem_pl [165, 167, 169, 171, 173, 175, 177, 179, 181, 183, 185, 187] rfl
set_option maxRecDepth 20000 in
theorem wl_X10 : ∀ w ∈ wsX10, w ∈ lw_tbl := g_mem_pl [202, 204] rfl
set_option maxRecDepth 20000 in
theorem wl_X50 : ∀ w ∈ wsX50, w ∈ lw_tbl := g_mem_pl [218, 220, 222] rfl
set_option maxRecDepth 20000 in
theorem wl_X30 : ∀ w ∈ wsX30, w ∈ lw_tbl := g_mem_pl [105, 107, 109, 111, 113] rfl
set_option maxRecDepth 20000 in
theorem wl_X00 : ∀ w ∈ wsX00, w ∈ lw_tbl := g_mem_pl [63, 65, 67, 69, 71, 73, 75, 77] rfl
set_option maxRecDepth 20000 in
theorem wl_X20 : ∀ w ∈ wsX20, w ∈ lw_tbl := g_mem_pl [131, 133, 135, 137, 139] rfl
theorem wsL_law_in : ∀ w ∈ wsL_law, w ∈ lw_tbl := by
  unfold wsL_law
  exact (List.forall_mem_append.mpr ⟨(List.forall_mem_append.mpr ⟨(List.forall_mem_append.mpr ⟨(List.forall_mem_append.mpr ⟨(List.forall_mem_append.mpr ⟨(List.forall_mem_append.mpr ⟨(List.forall_mem_append.mpr ⟨(List.forall_mem_append.mpr ⟨(List.forall_mem_append.mpr ⟨wl_L_law_r1, (List.forall_mem_append.mpr ⟨wl_L_law_r2, (List.forall_mem_append.mpr ⟨wl_L_law_r3, (List.forall_mem_append.mpr ⟨wl_L_law_r4, (List.forall_mem_append.mpr ⟨wl_L_law_r5, (List.forall_mem_append.mpr ⟨wl_L_law_r6, (List.forall_mem_append.mpr ⟨wl_L_law_r7, (List.forall_mem_append.mpr ⟨wl_L_law_r8, (List.forall_mem_append.mpr ⟨wl_L_law_r9, (List.forall_mem_append.mpr ⟨wl_L_law_r10, (List.forall_mem_append.mpr ⟨wl_L_law_r11, (List.forall_mem_append.mpr ⟨wl_L_law_r12, (List.forall_mem_append.mpr ⟨wl_L_law_r13, (List.forall_mem_append.mpr ⟨wl_L_law_r14, (List.forall_mem_append.mpr ⟨wl_L_law_r15, (List.forall_mem_append.mpr ⟨wl_L_law_r16, (List.forall_mem_append.mpr ⟨wl_L_law_r17, (List.forall_mem_append.mpr ⟨wl_L_law_r18, (List.forall_mem_append.mpr ⟨wl_L_law_r19, (List.forall_mem_append.mpr ⟨wl_L_law_r20, (List.forall_mem_append.mpr ⟨wl_L_law_r21, wl_L_law_r22⟩)⟩)⟩)⟩)⟩)⟩)⟩)⟩)⟩)⟩)⟩)⟩)⟩)⟩)⟩)⟩)⟩)⟩)⟩)⟩)⟩), wl_X60⟩), wl_X40⟩), wl_X10⟩), wl_X50⟩), wl_X30⟩), wl_X00⟩), wl_X20⟩), (fun _ h => absurd h List.not_mem_nil)⟩)
theorem g_law {ws : List Cond} (h : GoodIn wsL_law ws) : GoodIn lw_tbl ws := fun w hw => ⟨wsL_law_in w (h w hw).1, (h w hw).2⟩
