theorem in_of {big ws : List Cond} (ps : List Nat) (h : ws = ps.filterMap (fun i => big[i]?)) : ∀ w ∈ ws, w ∈ big := by
  intro w hw
  rw [h] at hw
  obtain ⟨i, -, hi⟩ := List.mem_filterMap.mp hw
  exact List.mem_of_getElem? hi
set_option maxRecDepth 20000 in
theorem inr_1 : ∀ w ∈ wsL_law_r1, w ∈ lw_tbl := in_of [37, 38, 27, 446, 447, 29, 39, 40, 41, 42, 43, 44, 45, 46, 28, 91, 83, 92, 85, 93, 87, 94, 89, 95] (by decide +kernel)
set_option maxRecDepth 20000 in
theorem inr_2 : ∀ w ∈ wsL_law_r2, w ∈ lw_tbl := in_of [81, 96, 47, 48, 49, 50, 62, 63, 64, 82, 65, 51, 52, 53, 54, 58, 60, 61, 55, 56, 57, 448, 449, 450] (by decide +kernel)
set_option maxRecDepth 20000 in
theorem inr_3 : ∀ w ∈ wsL_law_r3, w ∈ lw_tbl := in_of [451, 454, 455, 456, 458, 459, 461, 462, 463, 464, 465, 466, 467, 468, 470, 472, 473, 474, 475, 476, 477, 478, 125, 126] (by decide +kernel)
set_option maxRecDepth 20000 in
theorem inr_4 : ∀ w ∈ wsL_law_r4, w ∈ lw_tbl := in_of [127, 128, 199, 205, 101, 129, 130, 131, 132, 133, 134, 135, 32, 136, 208, 137, 138, 30, 139, 140, 141, 142, 143, 537] (by decide +kernel)
set_option maxRecDepth 20000 in
theorem inr_5 : ∀ w ∈ wsL_law_r5, w ∈ lw_tbl := in_of [538, 539, 540, 452, 541, 545, 546, 460, 453, 469, 542, 543, 544, 547, 549, 11, 550, 551, 553, 12, 554, 144, 145, 146] (by decide +kernel)
set_option maxRecDepth 20000 in
theorem inr_6 : ∀ w ∈ wsL_law_r6, w ∈ lw_tbl := in_of [147, 97, 148, 31, 149, 150, 151, 152, 153, 155, 157, 555, 556, 557, 558, 559, 457, 169, 170, 171, 172, 158, 173, 175] (by decide +kernel)
set_option maxRecDepth 20000 in
theorem inr_7 : ∀ w ∈ wsL_law_r7, w ∈ lw_tbl := in_of [0, 176, 177, 179, 1, 180, 560, 561, 562, 563, 564, 566, 13, 567, 568, 570, 14, 571, 181, 182, 183, 184, 98, 185] (by decide +kernel)
set_option maxRecDepth 20000 in
theorem inr_8 : ∀ w ∈ wsL_law_r8, w ∈ lw_tbl := in_of [186, 187, 188, 190, 191, 192, 193, 194, 195, 196, 197, 198, 200, 202, 204, 206, 572, 573, 574, 575, 576, 581, 582, 577] (by decide +kernel)
set_option maxRecDepth 20000 in
theorem inr_9 : ∀ w ∈ wsL_law_r9, w ∈ lw_tbl := in_of [579, 15, 580, 223, 224, 225, 226, 583, 584, 585, 586, 227, 228, 229, 230, 207, 201, 203, 231, 233, 2, 234, 235, 237] (by decide +kernel)
set_option maxRecDepth 20000 in
theorem inr_10 : ∀ w ∈ wsL_law_r10, w ∈ lw_tbl := in_of [3, 238, 100, 239, 241, 4, 242, 587, 588, 589, 590, 591, 592, 594, 16, 595, 479, 596, 598, 17, 599, 243, 244, 245] (by decide +kernel)
set_option maxRecDepth 20000 in
theorem inr_11 : ∀ w ∈ wsL_law_r11, w ∈ lw_tbl := in_of [246, 156, 247, 248, 249, 250, 251, 252, 33, 253, 254, 255, 257, 5, 258, 259, 260, 261, 262, 600, 601, 602, 603, 604] (by decide +kernel)
set_option maxRecDepth 20000 in
theorem inr_12 : ∀ w ∈ wsL_law_r12, w ∈ lw_tbl := in_of [606, 18, 607, 608, 610, 19, 611, 612, 613, 614, 263, 264, 265, 266, 267, 268, 269, 270, 271, 615, 616, 617, 618, 272] (by decide +kernel)
set_option maxRecDepth 20000 in
theorem inr_13 : ∀ w ∈ wsL_law_r13, w ∈ lw_tbl := in_of [273, 274, 275, 276, 278, 6, 279, 154, 209, 280, 281, 282, 619, 620, 621, 622, 623, 625, 20, 626, 627, 629, 21, 630] (by decide +kernel)
set_option maxRecDepth 20000 in
theorem inr_14 : ∀ w ∈ wsL_law_r14, w ∈ lw_tbl := in_of [283, 284, 285, 286, 291, 287, 288, 289, 290, 631, 632, 633, 634, 292, 293, 294, 295, 296, 298, 7, 299, 635, 636, 637] (by decide +kernel)
set_option maxRecDepth 20000 in
theorem inr_15 : ∀ w ∈ wsL_law_r15, w ∈ lw_tbl := in_of [638, 639, 641, 22, 642, 300, 301, 302, 303, 643, 644, 645, 646, 647, 304, 305, 306, 307, 308, 309, 310, 159, 648, 649] (by decide +kernel)
set_option maxRecDepth 20000 in
theorem inr_16 : ∀ w ∈ wsL_law_r16, w ∈ lw_tbl := in_of [650, 651, 311, 312, 313, 314, 652, 653, 654, 655, 315, 316, 317, 318, 319, 321, 8, 322, 656, 657, 658, 659, 660, 662] (by decide +kernel)
set_option maxRecDepth 20000 in
theorem inr_17 : ∀ w ∈ wsL_law_r17, w ∈ lw_tbl := in_of [23, 663, 323, 324, 325, 326, 664, 665, 666, 667, 327, 328, 329, 330, 668, 669, 670, 671, 331, 332, 333, 334, 99, 335] (by decide +kernel)
set_option maxRecDepth 20000 in
theorem inr_18 : ∀ w ∈ wsL_law_r18, w ∈ lw_tbl := in_of [34, 336, 337, 338, 339, 340, 342, 344, 672, 673, 674, 675, 676, 471, 353, 354, 355, 356, 677, 678, 679, 680, 357, 358] (by decide +kernel)
set_option maxRecDepth 20000 in
theorem inr_19 : ∀ w ∈ wsL_law_r19, w ∈ lw_tbl := in_of [359, 360, 59, 361, 363, 9, 364, 341, 343, 345, 681, 682, 683, 684, 685, 686, 688, 24, 689, 690, 692, 25, 693, 365] (by decide +kernel)
set_option maxRecDepth 20000 in
theorem inr_20 : ∀ w ∈ wsL_law_r20, w ∈ lw_tbl := in_of [366, 367, 368, 694, 695, 696, 697, 369, 370, 371, 372, 376, 35, 373, 374, 375, 377, 378, 379, 380, 381, 383, 698, 699] (by decide +kernel)
set_option maxRecDepth 20000 in
theorem inr_21 : ∀ w ∈ wsL_law_r21, w ∈ lw_tbl := in_of [700, 701, 702, 703, 704, 705, 390, 391, 392, 393, 706, 707, 708, 709, 394, 395, 396, 397, 384, 398, 399, 400, 401, 402] (by decide +kernel)
set_option maxRecDepth 20000 in
theorem inr_22 : ∀ w ∈ wsL_law_r22, w ∈ lw_tbl := in_of [403, 404, 405, 406, 407, 408, 409, 410, 710, 711, 712, 713, 714, 715, 716, 717, 718, 719, 411, 412, 413, 414, 415, 417] (by decide +kernel)
set_option maxRecDepth 20000 in
theorem inr_23 : ∀ w ∈ wsL_law_r23, w ∈ lw_tbl := in_of [416, 36, 720, 721, 722, 723, 418, 419, 420, 421, 382, 422, 423, 424, 425, 724, 725, 726, 727, 426, 427, 428, 429, 728] (by decide +kernel)
set_option maxRecDepth 20000 in
theorem inr_24 : ∀ w ∈ wsL_law_r24, w ∈ lw_tbl := in_of [729, 730, 731, 430, 431, 432, 433, 434, 435, 436, 437, 732, 733, 734, 735, 736, 438, 439, 440, 441, 442, 444, 10, 445] (by decide +kernel)
set_option maxRecDepth 20000 in
theorem inr_25 : ∀ w ∈ wsL_law_r25, w ∈ lw_tbl := in_of [737, 738, 739, 740] (by decide +kernel)
set_option maxRecDepth 20000 in
theorem inf_X5 : ∀ w ∈ wsX50, w ∈ lw_tbl := in_of [102, 104, 106, 108, 110, 112, 114, 116, 118, 120, 122] (by decide +kernel)
set_option maxRecDepth 20000 in
theorem inf_X6 : ∀ w ∈ wsX60, w ∈ lw_tbl := in_of [480, 482, 484, 486, 488, 490, 492, 494, 496, 498, 500, 502, 504, 506, 508, 510, 512, 514, 516, 518, 520, 522, 524, 526, 528, 530, 532, 534] (by decide +kernel)
set_option maxRecDepth 20000 in
theorem inf_X1 : ∀ w ∈ wsX10, w ∈ lw_tbl := in_of [66, 68, 70, 72, 74, 76, 78] (by decide +kernel)
set_option maxRecDepth 20000 in
theorem inf_X3 : ∀ w ∈ wsX30, w ∈ lw_tbl := in_of [210, 212, 214, 216, 218, 220] (by decide +kernel)
set_option maxRecDepth 20000 in
theorem inf_X0 : ∀ w ∈ wsX00, w ∈ lw_tbl := in_of [160, 162, 164, 166] (by decide +kernel)
set_option maxRecDepth 20000 in
theorem inf_X4 : ∀ w ∈ wsX40, w ∈ lw_tbl := in_of [346, 348, 350] (by decide +kernel)
set_option maxRecDepth 20000 in
theorem inf_X2 : ∀ w ∈ wsX20, w ∈ lw_tbl := in_of [385, 387] (by decide +kernel)
theorem wsL_law_in : ∀ w ∈ wsL_law, w ∈ lw_tbl := List.forall_mem_append.mpr ⟨List.forall_mem_append.mpr ⟨List.forall_mem_append.mpr ⟨List.forall_mem_append.mpr ⟨List.forall_mem_append.mpr ⟨List.forall_mem_append.mpr ⟨List.forall_mem_append.mpr ⟨List.forall_mem_append.mpr ⟨List.forall_mem_append.mpr ⟨inr_1, List.forall_mem_append.mpr ⟨inr_2, List.forall_mem_append.mpr ⟨inr_3, List.forall_mem_append.mpr ⟨inr_4, List.forall_mem_append.mpr ⟨inr_5, List.forall_mem_append.mpr ⟨inr_6, List.forall_mem_append.mpr ⟨inr_7, List.forall_mem_append.mpr ⟨inr_8, List.forall_mem_append.mpr ⟨inr_9, List.forall_mem_append.mpr ⟨inr_10, List.forall_mem_append.mpr ⟨inr_11, List.forall_mem_append.mpr ⟨inr_12, List.forall_mem_append.mpr ⟨inr_13, List.forall_mem_append.mpr ⟨inr_14, List.forall_mem_append.mpr ⟨inr_15, List.forall_mem_append.mpr ⟨inr_16, List.forall_mem_append.mpr ⟨inr_17, List.forall_mem_append.mpr ⟨inr_18, List.forall_mem_append.mpr ⟨inr_19, List.forall_mem_append.mpr ⟨inr_20, List.forall_mem_append.mpr ⟨inr_21, List.forall_mem_append.mpr ⟨inr_22, List.forall_mem_append.mpr ⟨inr_23, List.forall_mem_append.mpr ⟨inr_24, inr_25⟩⟩⟩⟩⟩⟩⟩⟩⟩⟩⟩⟩⟩⟩⟩⟩⟩⟩⟩⟩⟩⟩⟩⟩, inf_X5⟩, inf_X6⟩, inf_X1⟩, inf_X3⟩, inf_X0⟩, inf_X4⟩, inf_X2⟩, fun _ h => absurd h List.not_mem_nil⟩
