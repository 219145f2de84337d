theorem in_of {big ws : List Cond} (ps : List Nat) (h : ws = ps.filterMap (fun i => big[i]?)) : ∀ w ∈ ws, w ∈ big := by
  intro w hw
  rw [h] at hw
  obtain ⟨i, -, hi⟩ := List.mem_filterMap.mp hw
  exact List.mem_of_getElem? hi
set_option maxRecDepth 20000 in
theorem inr_1 : ∀ w ∈ wsL_law_r1, w ∈ lw_tbl := in_of [38, 39, 28, 452, 453, 30, 40, 41, 42, 43, 44, 45, 46, 47, 29, 90, 82, 91, 84, 92, 86, 93, 88, 94] (by decide +kernel)
set_option maxRecDepth 20000 in
theorem inr_2 : ∀ w ∈ wsL_law_r2, w ∈ lw_tbl := in_of [80, 95, 48, 49, 50, 51, 67, 81, 68, 52, 53, 54, 55, 63, 65, 66, 56, 58, 0, 59, 61, 62, 454, 455] (by decide +kernel)
set_option maxRecDepth 20000 in
theorem inr_3 : ∀ w ∈ wsL_law_r3, w ∈ lw_tbl := in_of [456, 457, 460, 461, 462, 464, 465, 467, 468, 469, 470, 471, 472, 473, 474, 476, 478, 479, 480, 481, 482, 483, 484, 124] (by decide +kernel)
set_option maxRecDepth 20000 in
theorem inr_4 : ∀ w ∈ wsL_law_r4, w ∈ lw_tbl := in_of [125, 126, 127, 204, 210, 100, 128, 129, 130, 131, 132, 32, 133, 162, 134, 135, 31, 136, 137, 138, 139, 33, 140, 213] (by decide +kernel)
set_option maxRecDepth 20000 in
theorem inr_5 : ∀ w ∈ wsL_law_r5, w ∈ lw_tbl := in_of [141, 142, 143, 144, 145, 543, 544, 545, 546, 458, 547, 551, 552, 466, 459, 475, 548, 549, 550, 553, 555, 12, 556, 557] (by decide +kernel)
set_option maxRecDepth 20000 in
theorem inr_6 : ∀ w ∈ wsL_law_r6, w ∈ lw_tbl := in_of [559, 13, 560, 146, 147, 148, 149, 96, 150, 151, 152, 153, 154, 155, 157, 159, 561, 562, 563, 564, 565, 463, 175, 176] (by decide +kernel)
set_option maxRecDepth 20000 in
theorem inr_7 : ∀ w ∈ wsL_law_r7, w ∈ lw_tbl := in_of [177, 178, 160, 179, 181, 1, 182, 183, 185, 2, 186, 566, 567, 568, 569, 570, 572, 14, 573, 574, 576, 15, 577, 187] (by decide +kernel)
set_option maxRecDepth 20000 in
theorem inr_8 : ∀ w ∈ wsL_law_r8, w ∈ lw_tbl := in_of [188, 189, 190, 97, 191, 192, 193, 194, 195, 196, 197, 198, 199, 200, 201, 202, 203, 205, 207, 209, 211, 578, 579, 580] (by decide +kernel)
set_option maxRecDepth 20000 in
theorem inr_9 : ∀ w ∈ wsL_law_r9, w ∈ lw_tbl := in_of [581, 582, 587, 588, 583, 585, 16, 586, 228, 229, 230, 231, 589, 590, 591, 592, 232, 233, 234, 235, 212, 206, 208, 236] (by decide +kernel)
set_option maxRecDepth 20000 in
theorem inr_10 : ∀ w ∈ wsL_law_r10, w ∈ lw_tbl := in_of [238, 3, 239, 240, 242, 4, 243, 99, 244, 246, 5, 247, 593, 594, 595, 596, 597, 598, 600, 17, 601, 485, 602, 604] (by decide +kernel)
set_option maxRecDepth 20000 in
theorem inr_11 : ∀ w ∈ wsL_law_r11, w ∈ lw_tbl := in_of [18, 605, 248, 249, 250, 251, 252, 254, 6, 255, 64, 163, 256, 158, 257, 258, 259, 260, 261, 262, 263, 264, 34, 265] (by decide +kernel)
set_option maxRecDepth 20000 in
theorem inr_12 : ∀ w ∈ wsL_law_r12, w ∈ lw_tbl := in_of [266, 267, 268, 269, 270, 271, 606, 607, 608, 609, 610, 612, 19, 613, 614, 616, 20, 617, 618, 619, 620, 272, 273, 274] (by decide +kernel)
set_option maxRecDepth 20000 in
theorem inr_13 : ∀ w ∈ wsL_law_r13, w ∈ lw_tbl := in_of [275, 276, 277, 278, 279, 280, 621, 622, 623, 624, 281, 282, 283, 284, 285, 287, 7, 288, 156, 214, 289, 290, 625, 626] (by decide +kernel)
set_option maxRecDepth 20000 in
theorem inr_14 : ∀ w ∈ wsL_law_r14, w ∈ lw_tbl := in_of [627, 628, 629, 631, 21, 632, 633, 635, 22, 636, 291, 292, 293, 294, 299, 295, 296, 297, 298, 637, 638, 639, 640, 300] (by decide +kernel)
set_option maxRecDepth 20000 in
theorem inr_15 : ∀ w ∈ wsL_law_r15, w ∈ lw_tbl := in_of [301, 302, 303, 304, 306, 8, 307, 641, 642, 643, 644, 645, 647, 23, 648, 308, 309, 310, 311, 649, 650, 651, 652, 653] (by decide +kernel)
set_option maxRecDepth 20000 in
theorem inr_16 : ∀ w ∈ wsL_law_r16, w ∈ lw_tbl := in_of [312, 313, 314, 315, 316, 161, 654, 655, 656, 657, 317, 318, 319, 320, 658, 659, 660, 661, 321, 322, 323, 324, 325, 327] (by decide +kernel)
set_option maxRecDepth 20000 in
theorem inr_17 : ∀ w ∈ wsL_law_r17, w ∈ lw_tbl := in_of [9, 328, 662, 663, 664, 665, 666, 668, 24, 669, 329, 330, 331, 332, 670, 671, 672, 673, 333, 334, 335, 336, 674, 675] (by decide +kernel)
set_option maxRecDepth 20000 in
theorem inr_18 : ∀ w ∈ wsL_law_r18, w ∈ lw_tbl := in_of [676, 677, 337, 338, 339, 340, 98, 341, 35, 342, 343, 344, 345, 346, 348, 350, 678, 679, 680, 681, 682, 477, 359, 360] (by decide +kernel)
set_option maxRecDepth 20000 in
theorem inr_19 : ∀ w ∈ wsL_law_r19, w ∈ lw_tbl := in_of [361, 362, 683, 684, 685, 686, 363, 364, 365, 366, 367, 369, 10, 370, 347, 349, 351, 687, 688, 689, 690, 691, 692, 694] (by decide +kernel)
set_option maxRecDepth 20000 in
theorem inr_20 : ∀ w ∈ wsL_law_r20, w ∈ lw_tbl := in_of [25, 695, 696, 698, 26, 699, 371, 372, 373, 374, 700, 701, 702, 703, 375, 376, 377, 378, 382, 36, 379, 380, 381, 383] (by decide +kernel)
set_option maxRecDepth 20000 in
theorem inr_21 : ∀ w ∈ wsL_law_r21, w ∈ lw_tbl := in_of [384, 385, 386, 387, 389, 704, 705, 706, 707, 708, 709, 710, 711, 396, 397, 398, 399, 712, 713, 714, 715, 400, 401, 402] (by decide +kernel)
set_option maxRecDepth 20000 in
theorem inr_22 : ∀ w ∈ wsL_law_r22, w ∈ lw_tbl := in_of [403, 390, 404, 405, 406, 407, 408, 409, 410, 411, 412, 413, 414, 415, 416, 716, 717, 718, 719, 720, 721, 722, 723, 724] (by decide +kernel)
set_option maxRecDepth 20000 in
theorem inr_23 : ∀ w ∈ wsL_law_r23, w ∈ lw_tbl := in_of [725, 417, 418, 419, 420, 421, 423, 422, 37, 726, 727, 728, 729, 424, 425, 426, 427, 388, 428, 429, 430, 431, 730, 731] (by decide +kernel)
set_option maxRecDepth 20000 in
theorem inr_24 : ∀ w ∈ wsL_law_r24, w ∈ lw_tbl := in_of [732, 733, 432, 433, 434, 435, 734, 735, 736, 737, 436, 437, 438, 439, 440, 441, 442, 443, 738, 739, 740, 741, 742, 444] (by decide +kernel)
set_option maxRecDepth 20000 in
theorem inr_25 : ∀ w ∈ wsL_law_r25, w ∈ lw_tbl := in_of [445, 446, 447, 448, 450, 11, 451, 743, 744, 745, 746] (by decide +kernel)
set_option maxRecDepth 20000 in
theorem inf_X5 : ∀ w ∈ wsX50, w ∈ lw_tbl := in_of [101, 103, 105, 107, 109, 111, 113, 115, 117, 119, 121] (by decide +kernel)
set_option maxRecDepth 20000 in
theorem inf_X6 : ∀ w ∈ wsX60, w ∈ lw_tbl := in_of [486, 488, 490, 492, 494, 496, 498, 500, 502, 504, 506, 508, 510, 512, 514, 516, 518, 520, 522, 524, 526, 528, 530, 532, 534, 536, 538, 540] (by decide +kernel)
set_option maxRecDepth 20000 in
theorem inf_X1 : ∀ w ∈ wsX10, w ∈ lw_tbl := in_of [69, 71, 73, 75, 77] (by decide +kernel)
set_option maxRecDepth 20000 in
theorem inf_X3 : ∀ w ∈ wsX30, w ∈ lw_tbl := in_of [215, 217, 219, 221, 223, 225] (by decide +kernel)
set_option maxRecDepth 20000 in
theorem inf_X0 : ∀ w ∈ wsX00, w ∈ lw_tbl := in_of [164, 166, 168, 170, 172] (by decide +kernel)
set_option maxRecDepth 20000 in
theorem inf_X4 : ∀ w ∈ wsX40, w ∈ lw_tbl := in_of [352, 354, 356] (by decide +kernel)
set_option maxRecDepth 20000 in
theorem inf_X2 : ∀ w ∈ wsX20, w ∈ lw_tbl := in_of [391, 393] (by decide +kernel)
theorem wsL_law_in : ∀ w ∈ wsL_law, w ∈ lw_tbl := List.forall_mem_append.mpr ⟨List.forall_mem_append.mpr ⟨List.forall_mem_append.mpr ⟨List.forall_mem_append.mpr ⟨List.forall_mem_append.mpr ⟨List.forall_mem_append.mpr ⟨List.forall_mem_append.mpr ⟨List.forall_mem_append.mpr ⟨List.forall_mem_append.mpr ⟨inr_1, List.forall_mem_append.mpr ⟨inr_2, List.forall_mem_append.mpr ⟨inr_3, List.forall_mem_append.mpr ⟨inr_4, List.forall_mem_append.mpr ⟨inr_5, List.forall_mem_append.mpr ⟨inr_6, List.forall_mem_append.mpr ⟨inr_7, List.forall_mem_append.mpr ⟨inr_8, List.forall_mem_append.mpr ⟨inr_9, List.forall_mem_append.mpr ⟨inr_10, List.forall_mem_append.mpr ⟨inr_11, List.forall_mem_append.mpr ⟨inr_12, List.forall_mem_append.mpr ⟨inr_13, List.forall_mem_append.mpr ⟨inr_14, List.forall_mem_append.mpr ⟨inr_15, List.forall_mem_append.mpr ⟨inr_16, List.forall_mem_append.mpr ⟨inr_17, List.forall_mem_append.mpr ⟨inr_18, List.forall_mem_append.mpr ⟨inr_19, List.forall_mem_append.mpr ⟨inr_20, List.forall_mem_append.mpr ⟨inr_21, List.forall_mem_append.mpr ⟨inr_22, List.forall_mem_append.mpr ⟨inr_23, List.forall_mem_append.mpr ⟨inr_24, inr_25⟩⟩⟩⟩⟩⟩⟩⟩⟩⟩⟩⟩⟩⟩⟩⟩⟩⟩⟩⟩⟩⟩⟩⟩, inf_X5⟩, inf_X6⟩, inf_X1⟩, inf_X3⟩, inf_X0⟩, inf_X4⟩, inf_X2⟩, fun _ h => absurd h List.not_mem_nil⟩
