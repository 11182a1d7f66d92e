theorem wl_pos {big ws : List Cond} (ps : List Nat) (hp : ws = ps.filterMap (fun i => big[i]?)) : ∀ w ∈ ws, w ∈ big := by
  intro w hw
  rw [hp] at hw
  obtain ⟨i, -, hi⟩ := List.mem_filterMap.mp hw
  exact List.mem_of_getElem? hi
theorem wl_app {big a b : List Cond} (ha : ∀ w ∈ a, w ∈ big) (hb : ∀ w ∈ b, w ∈ big) : ∀ w ∈ a ++ b, w ∈ big := fun w h => (List.mem_append.mp h).elim (ha w) (hb w)
set_option maxRecDepth 100000 in
theorem wl_1 : ∀ w ∈ wsL_law_r1, w ∈ lw_tbl := wl_pos [56, 57, 36, 646, 647, 45, 58, 59, 60, 61, 62, 63, 64, 65, 37, 148, 149, 84, 85, 39, 150, 151, 106, 107] rfl
set_option maxRecDepth 100000 in
theorem wl_2 : ∀ w ∈ wsL_law_r2, w ∈ lw_tbl := wl_pos [40, 152, 116, 117, 42, 153, 176, 154, 83, 155, 156, 66, 67, 68, 69, 70, 71, 38, 72, 73, 74, 75, 87, 88] rfl
set_option maxRecDepth 100000 in
theorem wl_3 : ∀ w ∈ wsL_law_r3, w ∈ lw_tbl := wl_pos [89, 90, 91, 92, 93, 94, 109, 110, 111, 112, 118, 119, 120, 121, 122, 41, 123, 124, 125, 147, 134, 135, 127, 128] rfl
set_option maxRecDepth 100000 in
theorem wl_4 : ∀ w ∈ wsL_law_r4, w ∈ lw_tbl := wl_pos [44, 129, 130, 131, 132, 133, 648, 649, 650, 651, 758, 652, 653, 654, 655, 656, 657, 658, 659, 660, 661, 662, 663, 664] rfl
set_option maxRecDepth 100000 in
theorem wl_5 : ∀ w ∈ wsL_law_r5, w ∈ lw_tbl := wl_pos [665, 666, 667, 668, 669, 670, 671, 672, 673, 674, 675, 676, 677, 678, 679, 680, 681, 682, 683, 684, 685, 686, 687, 688] rfl
set_option maxRecDepth 100000 in
theorem wl_6 : ∀ w ∈ wsL_law_r6, w ∈ lw_tbl := wl_pos [689, 690, 691, 692, 693, 694, 695, 696, 697, 698, 699, 700, 701, 702, 703, 704, 705, 706, 707, 709, 711, 712, 713, 714] rfl
set_option maxRecDepth 100000 in
theorem wl_7 : ∀ w ∈ wsL_law_r7, w ∈ lw_tbl := wl_pos [716, 717, 719, 721, 722, 177, 178, 179, 180, 181, 183, 184, 185, 186, 187, 188, 189, 190, 191, 192, 193, 759, 760, 761] rfl
set_option maxRecDepth 100000 in
theorem wl_8 : ∀ w ∈ wsL_law_r8, w ∈ lw_tbl := wl_pos [762, 708, 763, 764, 765, 194, 195, 196, 197, 198, 199, 200, 201, 202, 204, 6, 205, 206, 207, 208, 209, 210, 211, 212] rfl
set_option maxRecDepth 100000 in
theorem wl_9 : ∀ w ∈ wsL_law_r9, w ∈ lw_tbl := wl_pos [213, 766, 767, 768, 769, 710, 214, 215, 216, 217, 218, 219, 220, 221, 223, 225, 7, 226, 227, 233, 235, 237, 229, 230] rfl
set_option maxRecDepth 100000 in
theorem wl_10 : ∀ w ∈ wsL_law_r10, w ∈ lw_tbl := wl_pos [231, 232, 239, 240, 241, 242, 243, 244, 245, 47, 246, 904, 247, 248, 249, 43, 250, 905, 251, 252, 253, 254, 255, 906] rfl
set_option maxRecDepth 100000 in
theorem wl_11 : ∀ w ∈ wsL_law_r11, w ∈ lw_tbl := wl_pos [256, 257, 258, 259, 260, 261, 262, 263, 264, 265, 266, 267, 268, 269, 271, 8, 272, 273, 274, 275, 276, 277, 279, 9] rfl
set_option maxRecDepth 100000 in
theorem wl_12 : ∀ w ∈ wsL_law_r12, w ∈ lw_tbl := wl_pos [280, 281, 282, 283, 284, 285, 287, 10, 288, 289, 290, 291, 292, 293, 294, 295, 48, 296, 297, 298, 299, 300, 301, 303] rfl
set_option maxRecDepth 100000 in
theorem wl_13 : ∀ w ∈ wsL_law_r13, w ∈ lw_tbl := wl_pos [11, 304, 305, 306, 307, 308, 309, 310, 311, 312, 313, 314, 315, 316, 317, 318, 319, 49, 320, 321, 322, 323, 324, 326] rfl
set_option maxRecDepth 100000 in
theorem wl_14 : ∀ w ∈ wsL_law_r14, w ∈ lw_tbl := wl_pos [327, 50, 328, 329, 330, 331, 332, 333, 334, 335, 336, 337, 338, 339, 340, 341, 342, 344, 346, 348, 349, 350, 351, 352] rfl
set_option maxRecDepth 100000 in
theorem wl_15 : ∀ w ∈ wsL_law_r15, w ∈ lw_tbl := wl_pos [353, 354, 355, 356, 357, 358, 359, 360, 362, 12, 363, 364, 365, 366, 367, 368, 369, 370, 371, 372, 373, 770, 771, 772] rfl
set_option maxRecDepth 100000 in
theorem wl_16 : ∀ w ∈ wsL_law_r16, w ∈ lw_tbl := wl_pos [773, 715, 774, 776, 19, 777, 778, 780, 20, 781, 782, 783, 784, 785, 787, 21, 788, 374, 375, 376, 377, 378, 379, 380] rfl
set_option maxRecDepth 100000 in
theorem wl_17 : ∀ w ∈ wsL_law_r17, w ∈ lw_tbl := wl_pos [381, 789, 790, 791, 792, 382, 383, 384, 385, 386, 388, 13, 389, 390, 392, 14, 393, 793, 794, 795, 796, 718, 797, 799] rfl
set_option maxRecDepth 100000 in
theorem wl_18 : ∀ w ∈ wsL_law_r18, w ∈ lw_tbl := wl_pos [22, 800, 801, 803, 23, 804, 805, 807, 24, 808, 809, 811, 25, 812, 813, 815, 26, 816, 817, 819, 27, 820, 821, 823] rfl
set_option maxRecDepth 100000 in
theorem wl_19 : ∀ w ∈ wsL_law_r19, w ∈ lw_tbl := wl_pos [28, 824, 825, 827, 29, 828, 829, 831, 30, 832, 833, 835, 31, 836, 394, 395, 396, 397, 837, 838, 839, 840, 398, 399] rfl
set_option maxRecDepth 100000 in
theorem wl_20 : ∀ w ∈ wsL_law_r20, w ∈ lw_tbl := wl_pos [400, 401, 841, 842, 843, 844, 402, 403, 404, 405, 406, 408, 15, 409, 410, 411, 412, 413, 845, 846, 847, 848, 849, 850] rfl
set_option maxRecDepth 100000 in
theorem wl_21 : ∀ w ∈ wsL_law_r21, w ∈ lw_tbl := wl_pos [414, 415, 416, 417, 418, 419, 420, 421, 422, 423, 424, 425, 426, 427, 428, 429, 851, 852, 853, 854, 430, 431, 432, 433] rfl
set_option maxRecDepth 100000 in
theorem wl_22 : ∀ w ∈ wsL_law_r22, w ∈ lw_tbl := wl_pos [855, 856, 857, 858, 434, 435, 436, 437, 859, 860, 861, 862, 438, 439, 440, 441, 442, 443, 444, 445, 446, 891, 146, 447] rfl
set_option maxRecDepth 100000 in
theorem wl_23 : ∀ w ∈ wsL_law_r23, w ∈ lw_tbl := wl_pos [448, 137, 136, 449, 892, 0, 451, 452, 453, 893, 1, 455, 456, 465, 457, 458, 51, 459, 460, 461, 462, 463, 464, 466] rfl
set_option maxRecDepth 100000 in
theorem wl_24 : ∀ w ∈ wsL_law_r24, w ∈ lw_tbl := wl_pos [467, 468, 469, 470, 471, 472, 473, 475, 476, 477, 479, 478, 52, 480, 482, 483, 481, 484, 485, 486, 487, 488, 489, 490] rfl
set_option maxRecDepth 100000 in
theorem wl_25 : ∀ w ∈ wsL_law_r25, w ∈ lw_tbl := wl_pos [491, 492, 493, 494, 495, 496, 497, 498, 499, 500, 501, 502, 894, 503, 504, 505, 506, 54, 507, 508, 509, 510, 511, 513] rfl
set_option maxRecDepth 100000 in
theorem wl_26 : ∀ w ∈ wsL_law_r26, w ∈ lw_tbl := wl_pos [515, 516, 517, 518, 519, 520, 521, 522, 523, 524, 525, 526, 527, 528, 529, 530, 534, 531, 532, 533, 536, 537, 538, 539] rfl
set_option maxRecDepth 100000 in
theorem wl_27 : ∀ w ∈ wsL_law_r27, w ∈ lw_tbl := wl_pos [540, 895, 541, 542, 543, 896, 2, 545, 546, 547, 548, 549, 550, 551, 897, 3, 553, 554, 555, 898, 4, 557, 558, 559] rfl
set_option maxRecDepth 100000 in
theorem wl_28 : ∀ w ∈ wsL_law_r28, w ∈ lw_tbl := wl_pos [560, 899, 5, 562, 563, 564, 565, 566, 567, 568, 569, 570, 571, 572, 573, 574, 575, 576, 577, 578, 579, 580, 581, 582] rfl
set_option maxRecDepth 100000 in
theorem wl_29 : ∀ w ∈ wsL_law_r29, w ∈ lw_tbl := wl_pos [583, 584, 585, 587, 16, 588, 589, 591, 17, 592, 595, 597, 598, 599, 600, 601, 900, 602, 603, 604, 605, 606, 607, 608] rfl
set_option maxRecDepth 100000 in
theorem wl_30 : ∀ w ∈ wsL_law_r30, w ∈ lw_tbl := wl_pos [609, 611, 613, 18, 614, 617, 618, 619, 620, 621, 901, 622, 623, 867, 868, 869, 870, 720, 871, 873, 32, 874, 875, 877] rfl
set_option maxRecDepth 100000 in
theorem wl_31 : ∀ w ∈ wsL_law_r31, w ∈ lw_tbl := wl_pos [33, 878, 879, 880, 882, 34, 883, 884, 885, 886, 624, 625, 626, 627, 628, 629, 630, 631, 632, 902, 633, 634, 635, 636] rfl
set_option maxRecDepth 100000 in
theorem wl_32 : ∀ w ∈ wsL_law_r32, w ∈ lw_tbl := wl_pos [637, 887, 888, 889, 890, 638, 639, 640, 641, 642, 643, 644, 645, 863, 864, 865, 866] rfl
set_option maxRecDepth 100000 in
theorem wl_wsX50 : ∀ w ∈ wsX50, w ∈ lw_tbl := wl_pos [157, 159, 161, 163, 165, 167, 169, 171, 173] rfl
set_option maxRecDepth 100000 in
theorem wl_wsX60 : ∀ w ∈ wsX60, w ∈ lw_tbl := wl_pos [723, 725, 727, 729, 731, 733, 735, 737, 739, 741, 743, 745, 747, 749, 751, 753, 755] rfl
set_option maxRecDepth 100000 in
theorem wl_wsX40 : ∀ w ∈ wsX40, w ∈ lw_tbl := wl_pos [76, 78, 80] rfl
set_option maxRecDepth 100000 in
theorem wl_wsX20 : ∀ w ∈ wsX20, w ∈ lw_tbl := wl_pos [95, 97, 99, 101, 103] rfl
set_option maxRecDepth 100000 in
theorem wl_wsX10 : ∀ w ∈ wsX10, w ∈ lw_tbl := wl_pos [113] rfl
set_option maxRecDepth 100000 in
theorem wl_wsJ40 : ∀ w ∈ wsJ40, w ∈ lw_tbl := wl_pos [138, 140, 142, 144] rfl
set_option maxRecDepth 100000 in
theorem wsL_law_in : ∀ w ∈ wsL_law, w ∈ lw_tbl := (wl_app (wl_app (wl_app (wl_app (wl_app (wl_app (wl_app (wl_app wl_1 (wl_app wl_2 (wl_app wl_3 (wl_app wl_4 (wl_app wl_5 (wl_app wl_6 (wl_app wl_7 (wl_app wl_8 (wl_app wl_9 (wl_app wl_10 (wl_app wl_11 (wl_app wl_12 (wl_app wl_13 (wl_app wl_14 (wl_app wl_15 (wl_app wl_16 (wl_app wl_17 (wl_app wl_18 (wl_app wl_19 (wl_app wl_20 (wl_app wl_21 (wl_app wl_22 (wl_app wl_23 (wl_app wl_24 (wl_app wl_25 (wl_app wl_26 (wl_app wl_27 (wl_app wl_28 (wl_app wl_29 (wl_app wl_30 (wl_app wl_31 wl_32))))))))))))))))))))))))))))))) wl_wsX50) wl_wsX60) wl_wsX40) wl_wsX20) wl_wsX10) wl_wsJ40) (fun _ h => absurd h List.not_mem_nil))
