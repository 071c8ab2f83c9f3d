set_option maxRecDepth 20000 in
theorem in_wsL_law_r1 : ∀ w ∈ wsL_law_r1, w ∈ lw_tbl := fun w h => (goodIn_r (big := lw_tbl) wsL_law_r1 [42, 43, 34, 555, 556, 40, 44, 45, 46, 47, 48, 49, 50, 51, 35, 168, 87, 88, 36, 169, 118, 119, 37, 170] (by decide +kernel) (by decide +kernel) w h).1
set_option maxRecDepth 20000 in
theorem in_wsL_law_r2 : ∀ w ∈ wsL_law_r2, w ∈ lw_tbl := fun w h => (goodIn_r (big := lw_tbl) wsL_law_r2 [146, 147, 38, 171, 52, 53, 54, 55, 85, 60, 61, 62, 86, 63, 66, 67, 56, 57, 58, 59, 64, 65, 89, 90] (by decide +kernel) (by decide +kernel) w h).1
set_option maxRecDepth 20000 in
theorem in_wsL_law_r3 : ∀ w ∈ wsL_law_r3, w ∈ lw_tbl := fun w h => (goodIn_r (big := lw_tbl) wsL_law_r3 [91, 92, 93, 94, 95, 96, 97, 98, 100, 120, 121, 122, 123, 125, 126, 127, 129, 130, 124, 148, 149, 150, 151, 156] (by decide +kernel) (by decide +kernel) w h).1
set_option maxRecDepth 20000 in
theorem in_wsL_law_r4 : ∀ w ∈ wsL_law_r4, w ∈ lw_tbl := fun w h => (goodIn_r (big := lw_tbl) wsL_law_r4 [157, 152, 153, 39, 154, 557, 558, 559, 560, 565, 567, 568, 569, 570, 571, 572, 573, 574, 575, 576, 577, 580, 581, 582] (by decide +kernel) (by decide +kernel) w h).1
set_option maxRecDepth 20000 in
theorem in_wsL_law_r5 : ∀ w ∈ wsL_law_r5, w ∈ lw_tbl := fun w h => (goodIn_r (big := lw_tbl) wsL_law_r5 [584, 585, 586, 587, 588, 561, 563, 19, 564, 566, 181, 182, 183, 184, 185, 186, 187, 188, 189, 190, 191, 192, 193, 194] (by decide +kernel) (by decide +kernel) w h).1
set_option maxRecDepth 20000 in
theorem in_wsL_law_r6 : ∀ w ∈ wsL_law_r6, w ∈ lw_tbl := fun w h => (goodIn_r (big := lw_tbl) wsL_law_r6 [195, 196, 128, 197, 198, 199, 200, 201, 638, 639, 640, 641, 579, 642, 643, 644, 202, 203, 204, 205, 206, 208, 0, 209] (by decide +kernel) (by decide +kernel) w h).1
set_option maxRecDepth 20000 in
theorem in_wsL_law_r7 : ∀ w ∈ wsL_law_r7, w ∈ lw_tbl := fun w h => (goodIn_r (big := lw_tbl) wsL_law_r7 [210, 211, 212, 213, 214, 215, 216, 217, 218, 219, 220, 221, 222, 223, 224, 226, 1, 227, 645, 646, 647, 648, 649, 651] (by decide +kernel) (by decide +kernel) w h).1
set_option maxRecDepth 20000 in
theorem in_wsL_law_r8 : ∀ w ∈ wsL_law_r8, w ∈ lw_tbl := fun w h => (goodIn_r (big := lw_tbl) wsL_law_r8 [20, 652, 228, 229, 230, 231, 232, 249, 233, 234, 235, 236, 237, 238, 239, 240, 241, 242, 243, 244, 245, 246, 247, 248] (by decide +kernel) (by decide +kernel) w h).1
set_option maxRecDepth 20000 in
theorem in_wsL_law_r9 : ∀ w ∈ wsL_law_r9, w ∈ lw_tbl := fun w h => (goodIn_r (big := lw_tbl) wsL_law_r9 [653, 654, 655, 656, 657, 658, 250, 251, 252, 253, 262, 254, 255, 256, 257, 258, 259, 260, 261, 659, 660, 661, 662, 671] (by decide +kernel) (by decide +kernel) w h).1
set_option maxRecDepth 20000 in
theorem in_wsL_law_r10 : ∀ w ∈ wsL_law_r10, w ∈ lw_tbl := fun w h => (goodIn_r (big := lw_tbl) wsL_law_r10 [663, 665, 21, 666, 667, 669, 22, 670, 263, 264, 265, 266, 267, 268, 269, 270, 271, 272, 273, 274, 672, 673, 674, 675] (by decide +kernel) (by decide +kernel) w h).1
set_option maxRecDepth 20000 in
theorem in_wsL_law_r11 : ∀ w ∈ wsL_law_r11, w ∈ lw_tbl := fun w h => (goodIn_r (big := lw_tbl) wsL_law_r11 [275, 276, 277, 278, 279, 280, 281, 282, 283, 285, 2, 286, 676, 677, 678, 679, 287, 288, 289, 290, 291, 292, 293, 294] (by decide +kernel) (by decide +kernel) w h).1
set_option maxRecDepth 20000 in
theorem in_wsL_law_r12 : ∀ w ∈ wsL_law_r12, w ∈ lw_tbl := fun w h => (goodIn_r (big := lw_tbl) wsL_law_r12 [680, 681, 682, 683, 295, 296, 297, 298, 684, 685, 686, 687, 299, 300, 301, 302, 303, 304, 305, 306, 307, 308, 41, 309] (by decide +kernel) (by decide +kernel) w h).1
set_option maxRecDepth 20000 in
theorem in_wsL_law_r13 : ∀ w ∈ wsL_law_r13, w ∈ lw_tbl := fun w h => (goodIn_r (big := lw_tbl) wsL_law_r13 [310, 311, 312, 313, 688, 689, 690, 691, 692, 694, 23, 695, 696, 697, 698, 314, 315, 316, 317, 318, 319, 320, 321, 99] (by decide +kernel) (by decide +kernel) w h).1
set_option maxRecDepth 20000 in
theorem in_wsL_law_r14 : ∀ w ∈ wsL_law_r14, w ∈ lw_tbl := fun w h => (goodIn_r (big := lw_tbl) wsL_law_r14 [699, 700, 701, 702, 578, 322, 323, 324, 325, 703, 704, 705, 706, 326, 327, 328, 329, 330, 331, 332, 333, 334, 707, 708] (by decide +kernel) (by decide +kernel) w h).1
set_option maxRecDepth 20000 in
theorem in_wsL_law_r15 : ∀ w ∈ wsL_law_r15, w ∈ lw_tbl := fun w h => (goodIn_r (big := lw_tbl) wsL_law_r15 [709, 710, 335, 336, 337, 338, 339, 340, 341, 342, 343, 344, 345, 346, 347, 348, 349, 350, 711, 712, 713, 714, 715, 717] (by decide +kernel) (by decide +kernel) w h).1
set_option maxRecDepth 20000 in
theorem in_wsL_law_r16 : ∀ w ∈ wsL_law_r16, w ∈ lw_tbl := fun w h => (goodIn_r (big := lw_tbl) wsL_law_r16 [24, 718, 351, 352, 353, 354, 355, 356, 357, 358, 359, 360, 361, 362, 363, 364, 365, 366, 367, 368, 369, 719, 720, 721] (by decide +kernel) (by decide +kernel) w h).1
set_option maxRecDepth 20000 in
theorem in_wsL_law_r17 : ∀ w ∈ wsL_law_r17, w ∈ lw_tbl := fun w h => (goodIn_r (big := lw_tbl) wsL_law_r17 [722, 723, 725, 25, 726, 727, 728, 729, 370, 371, 372, 373, 374, 375, 376, 377, 378, 380, 3, 381, 382, 383, 384, 385] (by decide +kernel) (by decide +kernel) w h).1
set_option maxRecDepth 20000 in
theorem in_wsL_law_r18 : ∀ w ∈ wsL_law_r18, w ∈ lw_tbl := fun w h => (goodIn_r (big := lw_tbl) wsL_law_r18 [387, 4, 388, 389, 390, 391, 392, 394, 5, 395, 396, 397, 399, 6, 400, 401, 403, 7, 404, 405, 407, 8, 408, 409] (by decide +kernel) (by decide +kernel) w h).1
set_option maxRecDepth 20000 in
theorem in_wsL_law_r19 : ∀ w ∈ wsL_law_r19, w ∈ lw_tbl := fun w h => (goodIn_r (big := lw_tbl) wsL_law_r19 [411, 9, 412, 730, 731, 732, 733, 734, 736, 26, 737, 738, 740, 27, 741, 413, 414, 415, 416, 417, 418, 419, 420, 421] (by decide +kernel) (by decide +kernel) w h).1
set_option maxRecDepth 20000 in
theorem in_wsL_law_r20 : ∀ w ∈ wsL_law_r20, w ∈ lw_tbl := fun w h => (goodIn_r (big := lw_tbl) wsL_law_r20 [422, 423, 424, 742, 743, 744, 745, 425, 426, 427, 428, 429, 430, 431, 432, 433, 434, 746, 747, 748, 749, 750, 752, 28] (by decide +kernel) (by decide +kernel) w h).1
set_option maxRecDepth 20000 in
theorem in_wsL_law_r21 : ∀ w ∈ wsL_law_r21, w ∈ lw_tbl := fun w h => (goodIn_r (big := lw_tbl) wsL_law_r21 [753, 435, 436, 437, 438, 439, 440, 441, 442, 443, 445, 10, 446, 447, 448, 450, 11, 451, 754, 755, 756, 757, 758, 760] (by decide +kernel) (by decide +kernel) w h).1
set_option maxRecDepth 20000 in
theorem in_wsL_law_r22 : ∀ w ∈ wsL_law_r22, w ∈ lw_tbl := fun w h => (goodIn_r (big := lw_tbl) wsL_law_r22 [29, 761, 452, 453, 454, 455, 456, 457, 458, 459, 762, 763, 764, 765, 460, 461, 462, 463, 464, 465, 466, 467, 155, 468] (by decide +kernel) (by decide +kernel) w h).1
set_option maxRecDepth 20000 in
theorem in_wsL_law_r23 : ∀ w ∈ wsL_law_r23, w ∈ lw_tbl := fun w h => (goodIn_r (big := lw_tbl) wsL_law_r23 [469, 470, 471, 158, 766, 767, 768, 769, 583, 472, 473, 474, 475, 476, 478, 12, 479, 480, 481, 482, 483, 484, 486, 13] (by decide +kernel) (by decide +kernel) w h).1
set_option maxRecDepth 20000 in
theorem in_wsL_law_r24 : ∀ w ∈ wsL_law_r24, w ∈ lw_tbl := fun w h => (goodIn_r (big := lw_tbl) wsL_law_r24 [487, 770, 771, 772, 773, 774, 776, 30, 777, 488, 489, 490, 491, 492, 493, 494, 495, 496, 498, 14, 499, 500, 501, 502] (by decide +kernel) (by decide +kernel) w h).1
set_option maxRecDepth 20000 in
theorem in_wsL_law_r25 : ∀ w ∈ wsL_law_r25, w ∈ lw_tbl := fun w h => (goodIn_r (big := lw_tbl) wsL_law_r25 [503, 505, 15, 506, 507, 508, 510, 16, 511, 512, 513, 514, 515, 517, 17, 518, 519, 521, 18, 522, 778, 779, 780, 781] (by decide +kernel) (by decide +kernel) w h).1
set_option maxRecDepth 20000 in
theorem in_wsL_law_r26 : ∀ w ∈ wsL_law_r26, w ∈ lw_tbl := fun w h => (goodIn_r (big := lw_tbl) wsL_law_r26 [782, 784, 31, 785, 523, 524, 525, 526, 527, 528, 529, 530, 786, 787, 788, 789, 531, 532, 533, 534, 535, 536, 537, 538] (by decide +kernel) (by decide +kernel) w h).1
set_option maxRecDepth 20000 in
theorem in_wsL_law_r27 : ∀ w ∈ wsL_law_r27, w ∈ lw_tbl := fun w h => (goodIn_r (big := lw_tbl) wsL_law_r27 [539, 540, 541, 542, 543, 544, 545, 546, 547, 548, 549, 550, 551, 552, 553, 554, 790, 791, 792, 793, 794, 796, 32, 797] (by decide +kernel) (by decide +kernel) w h).1
set_option maxRecDepth 20000 in
theorem inX4 : ∀ w ∈ wsX40, w ∈ lw_tbl := by decide +kernel
set_option maxRecDepth 20000 in
theorem inX5 : ∀ w ∈ wsX50, w ∈ lw_tbl := by decide +kernel
set_option maxRecDepth 20000 in
theorem inX0 : ∀ w ∈ wsX00, w ∈ lw_tbl := by decide +kernel
set_option maxRecDepth 20000 in
theorem inX2 : ∀ w ∈ wsX20, w ∈ lw_tbl := by decide +kernel
set_option maxRecDepth 20000 in
theorem inX3 : ∀ w ∈ wsX30, w ∈ lw_tbl := by decide +kernel
set_option maxRecDepth 20000 in
theorem inX1 : ∀ w ∈ wsX10, w ∈ lw_tbl := by decide +kernel
theorem wsL_law_in : ∀ w ∈ wsL_law, w ∈ lw_tbl := by
  intro w h
  unfold wsL_law at h
  simp only [List.mem_append] at h
  rcases h with ((((((h | h) | h) | h) | h) | h) | h) | h
  · rcases h with h | h | h | h | h | h | h | h | h | h | h | h | h | h | h | h | h | h | h | h | h | h | h | h | h | h | h
    · exact in_wsL_law_r1 w h
    · exact in_wsL_law_r2 w h
    · exact in_wsL_law_r3 w h
    · exact in_wsL_law_r4 w h
    · exact in_wsL_law_r5 w h
    · exact in_wsL_law_r6 w h
    · exact in_wsL_law_r7 w h
    · exact in_wsL_law_r8 w h
    · exact in_wsL_law_r9 w h
    · exact in_wsL_law_r10 w h
    · exact in_wsL_law_r11 w h
    · exact in_wsL_law_r12 w h
    · exact in_wsL_law_r13 w h
    · exact in_wsL_law_r14 w h
    · exact in_wsL_law_r15 w h
    · exact in_wsL_law_r16 w h
    · exact in_wsL_law_r17 w h
    · exact in_wsL_law_r18 w h
    · exact in_wsL_law_r19 w h
    · exact in_wsL_law_r20 w h
    · exact in_wsL_law_r21 w h
    · exact in_wsL_law_r22 w h
    · exact in_wsL_law_r23 w h
    · exact in_wsL_law_r24 w h
    · exact in_wsL_law_r25 w h
    · exact in_wsL_law_r26 w h
    · exact in_wsL_law_r27 w h
  · exact inX4 w h
  · exact inX5 w h
  · exact inX0 w h
  · exact inX2 w h
  · exact inX3 w h
  · exact inX1 w h
  · cases h
