theorem lw_mem_r {big : List Cond} (ws : List Cond) (ps : List Nat) (hp : ws = ps.filterMap (fun i => big[i]?)) : ∀ w ∈ ws, w ∈ big := by
  intro w h
  rw [hp] at h
  obtain ⟨i, _, hi⟩ := List.mem_filterMap.mp h
  exact List.mem_of_getElem? hi
set_option maxRecDepth 20000 in
theorem wsL_law0_i1 : ∀ w ∈ wsL_law0_r1, w ∈ lw_tbl := lw_mem_r _ [64, 65, 52, 684, 685, 55, 1009, 66, 67, 68, 69, 70, 71, 72, 73, 53, 137, 118, 119, 54, 138, 139, 143, 144] (by decide +kernel)
set_option maxRecDepth 20000 in
theorem wsL_law0_i2 : ∀ w ∈ wsL_law0_r2, w ∈ lw_tbl := lw_mem_r _ [75, 76, 77, 116, 81, 117, 84, 89, 91, 93, 94, 95, 121, 122, 123, 124, 125, 126, 127, 686, 687, 688, 689, 693] (by decide +kernel)
set_option maxRecDepth 20000 in
theorem wsL_law0_i3 : ∀ w ∈ wsL_law0_r3, w ∈ lw_tbl := lw_mem_r _ [694, 695, 696, 697, 698, 699, 706, 481, 482, 51, 483, 484, 485, 486, 487, 488, 489, 59, 78, 505, 506, 507, 508, 79] (by decide +kernel)
set_option maxRecDepth 20000 in
theorem wsL_law0_i4 : ∀ w ∈ wsL_law0_r4, w ∈ lw_tbl := lw_mem_r _ [290, 291, 292, 293, 316, 318, 317, 60, 294, 296, 8, 297, 88, 90, 92, 223, 224, 225, 259, 260, 299, 300, 301, 302] (by decide +kernel)
set_option maxRecDepth 20000 in
theorem wsL_law0_i5 : ∀ w ∈ wsL_law0_r5, w ∈ lw_tbl := lw_mem_r _ [303, 305, 9, 306, 82, 190, 191, 308, 310, 10, 311, 80, 312, 314, 11, 315, 244, 245, 319, 321, 12, 322, 323, 325] (by decide +kernel)
set_option maxRecDepth 20000 in
theorem wsL_law0_i6 : ∀ w ∈ wsL_law0_r6, w ∈ lw_tbl := lw_mem_r _ [13, 326, 327, 328, 329, 330, 332, 14, 333, 755, 756, 757, 758, 691, 759, 761, 27, 762, 690, 763, 765, 28, 766, 751] (by decide +kernel)
set_option maxRecDepth 20000 in
theorem wsL_law0_i7 : ∀ w ∈ wsL_law0_r7, w ∈ lw_tbl := lw_mem_r _ [752, 753, 754, 509, 510, 511, 512, 513, 514, 515, 516, 517, 518, 62, 87, 371, 373, 16, 374, 375, 61, 536, 537, 538] (by decide +kernel)
set_option maxRecDepth 20000 in
theorem wsL_law0_i8 : ∀ w ∈ wsL_law0_r8, w ∈ lw_tbl := lw_mem_r _ [539, 86, 541, 542, 543, 544, 767, 768, 769, 770, 692, 771, 773, 29, 774, 775, 777, 30, 778, 779, 780, 781, 782, 784] (by decide +kernel)
set_option maxRecDepth 20000 in
theorem wsL_law0_i9 : ∀ w ∈ wsL_law0_r9, w ∈ lw_tbl := lw_mem_r _ [31, 785, 545, 546, 547, 548, 549, 550, 551, 96, 467, 469, 19, 470, 786, 787, 788, 789, 790, 792, 32, 793, 552, 553] (by decide +kernel)
set_option maxRecDepth 20000 in
theorem wsL_law0_i10 : ∀ w ∈ wsL_law0_r10, w ∈ lw_tbl := lw_mem_r _ [554, 555, 556, 557, 558, 85, 794, 795, 796, 797, 561, 562, 563, 564, 565, 566, 567, 140, 145, 142, 141, 569, 571, 20] (by decide +kernel)
set_option maxRecDepth 20000 in
theorem wsL_law0_i11 : ∀ w ∈ wsL_law0_r11, w ∈ lw_tbl := lw_mem_r _ [572, 83, 285, 205, 206, 207, 208, 210, 0, 211, 212, 214, 1, 215, 216, 217, 63, 218, 219, 220, 221, 222, 798, 799] (by decide +kernel)
set_option maxRecDepth 20000 in
theorem wsL_law0_i12 : ∀ w ∈ wsL_law0_r12, w ∈ lw_tbl := lw_mem_r _ [800, 801, 700, 701, 702, 703, 704, 705, 802, 804, 33, 805, 806, 808, 34, 809, 810, 811, 812, 813, 815, 35, 816, 817] (by decide +kernel)
set_option maxRecDepth 20000 in
theorem wsL_law0_i13 : ∀ w ∈ wsL_law0_r13, w ∈ lw_tbl := lw_mem_r _ [819, 36, 820, 821, 823, 37, 824, 574, 575, 576, 577, 578, 579, 580, 581, 583, 21, 584, 586, 588, 22, 589, 234, 186] (by decide +kernel)
set_option maxRecDepth 20000 in
theorem wsL_law0_i14 : ∀ w ∈ wsL_law0_r14, w ∈ lw_tbl := lw_mem_r _ [187, 188, 189, 239, 240, 241, 242, 591, 593, 23, 594, 595, 597, 24, 598, 599, 601, 25, 602, 825, 826, 827, 828, 829] (by decide +kernel)
set_option maxRecDepth 20000 in
theorem wsL_law0_i15 : ∀ w ∈ wsL_law0_r15, w ∈ lw_tbl := lw_mem_r _ [831, 38, 832, 603, 604, 605, 606, 607, 608, 609, 359, 231, 232, 233, 235, 237, 2, 238, 246, 248, 3, 249, 250, 252] (by decide +kernel)
set_option maxRecDepth 20000 in
theorem wsL_law0_i16 : ∀ w ∈ wsL_law0_r16, w ∈ lw_tbl := lw_mem_r _ [4, 253, 254, 255, 256, 257, 262, 264, 5, 265, 833, 834, 835, 836, 837, 839, 39, 840, 841, 842, 844, 40, 845, 165] (by decide +kernel)
set_option maxRecDepth 20000 in
theorem wsL_law0_i17 : ∀ w ∈ wsL_law0_r17, w ∈ lw_tbl := lw_mem_r _ [166, 167, 168, 846, 847, 848, 849, 850, 852, 41, 853, 169, 170, 171, 172, 854, 855, 856, 857, 173, 174, 175, 176, 858] (by decide +kernel)
set_option maxRecDepth 20000 in
theorem wsL_law0_i18 : ∀ w ∈ wsL_law0_r18, w ∈ lw_tbl := lw_mem_r _ [859, 860, 861, 177, 178, 179, 180, 862, 863, 864, 865, 866, 868, 42, 869, 181, 182, 183, 184, 870, 871, 872, 873, 185] (by decide +kernel)
set_option maxRecDepth 20000 in
theorem wsL_law0_i19 : ∀ w ∈ wsL_law0_r19, w ∈ lw_tbl := lw_mem_r _ [874, 875, 876, 877, 192, 193, 194, 195, 878, 879, 880, 881, 196, 197, 198, 199, 882, 883, 884, 885, 200, 201, 202, 203] (by decide +kernel)
set_option maxRecDepth 20000 in
theorem wsL_law0_i20 : ∀ w ∈ wsL_law0_r20, w ∈ lw_tbl := lw_mem_r _ [886, 887, 888, 889, 611, 612, 613, 614, 368, 369, 370, 890, 891, 892, 893, 615, 616, 617, 618, 444, 445, 446, 894, 895] (by decide +kernel)
set_option maxRecDepth 20000 in
theorem wsL_law0_i21 : ∀ w ∈ wsL_law0_r21, w ∈ lw_tbl := lw_mem_r _ [896, 897, 619, 620, 621, 622, 448, 449, 450, 451, 452, 453, 454, 898, 899, 900, 901, 902, 904, 43, 905, 623, 624, 625] (by decide +kernel)
set_option maxRecDepth 20000 in
theorem wsL_law0_i22 : ∀ w ∈ wsL_law0_r22, w ∈ lw_tbl := lw_mem_r _ [626, 464, 465, 466, 906, 907, 908, 909, 627, 628, 629, 630, 473, 474, 475, 476, 910, 911, 912, 913, 631, 632, 633, 634] (by decide +kernel)
set_option maxRecDepth 20000 in
theorem wsL_law0_i23 : ∀ w ∈ wsL_law0_r23, w ∈ lw_tbl := lw_mem_r _ [478, 479, 480, 914, 915, 916, 917, 918, 920, 44, 921, 635, 636, 637, 638, 639, 640, 641, 922, 923, 924, 925, 642, 643] (by decide +kernel)
set_option maxRecDepth 20000 in
theorem wsL_law0_i24 : ∀ w ∈ wsL_law0_r24, w ∈ lw_tbl := lw_mem_r _ [644, 645, 646, 647, 648, 926, 927, 928, 929, 649, 650, 651, 652, 456, 457, 458, 930, 931, 932, 933, 653, 654, 655, 656] (by decide +kernel)
set_option maxRecDepth 20000 in
theorem wsL_law0_i25 : ∀ w ∈ wsL_law0_r25, w ∈ lw_tbl := lw_mem_r _ [657, 658, 659, 660, 662, 26, 663, 664, 665, 666, 667, 668, 669, 934, 935, 936, 937, 938, 940, 45, 941, 942, 944, 46] (by decide +kernel)
set_option maxRecDepth 20000 in
theorem wsL_law0_i26 : ∀ w ∈ wsL_law0_r26, w ∈ lw_tbl := lw_mem_r _ [945, 670, 671, 672, 673, 674, 675, 676, 946, 947, 948, 949, 204, 950, 951, 952, 953, 677, 678, 679, 680, 681, 682, 683] (by decide +kernel)
set_option maxRecDepth 20000 in
theorem wsL_law0_i27 : ∀ w ∈ wsL_law0_r27, w ∈ lw_tbl := lw_mem_r _ [954, 955, 956, 957, 226, 227, 228, 229, 958, 959, 960, 961, 962, 964, 47, 965, 230, 966, 967, 968, 969, 266, 267, 268] (by decide +kernel)
set_option maxRecDepth 20000 in
theorem wsL_law0_i28 : ∀ w ∈ wsL_law0_r28, w ∈ lw_tbl := lw_mem_r _ [269, 270, 272, 6, 273, 970, 971, 972, 973, 974, 976, 48, 977, 707, 708, 978, 980, 49, 981, 709, 982, 279, 63, 280] (by decide +kernel)
set_option maxRecDepth 20000 in
theorem wsL_law0_i29 : ∀ w ∈ wsL_law0_r29, w ∈ lw_tbl := lw_mem_r _ [274, 275, 276, 277, 278, 983, 984, 985, 986, 281, 282, 283, 284, 286, 288, 7, 289, 987, 988, 989, 990, 991, 993, 50] (by decide +kernel)
set_option maxRecDepth 20000 in
theorem wsL_law0_i30 : ∀ w ∈ wsL_law0_r30, w ∈ lw_tbl := lw_mem_r _ [994, 334, 335, 336, 337, 995, 996, 997, 998, 338, 339, 340, 341, 342, 343, 344, 345, 346, 347, 348, 349, 350, 351, 352] (by decide +kernel)
set_option maxRecDepth 20000 in
theorem wsL_law0_i31 : ∀ w ∈ wsL_law0_r31, w ∈ lw_tbl := lw_mem_r _ [353, 354, 355, 356, 357, 358, 360, 361, 362, 363, 365, 15, 366, 367, 443, 447, 455, 459, 461, 18, 462, 463, 472, 477] (by decide +kernel)
set_option maxRecDepth 20000 in
theorem wsL_law0_i32 : ∀ w ∈ wsL_law0_r32, w ∈ lw_tbl := lw_mem_r _ [999, 1000, 1001, 1002, 1003, 1008, 1004, 1005, 1006, 1007] (by decide +kernel)
set_option maxRecDepth 20000 in
theorem wsX20_i : ∀ w ∈ wsX20, w ∈ lw_tbl := lw_mem_r _ [146, 148, 150, 152, 154, 156, 158, 160, 162] (by decide +kernel)
set_option maxRecDepth 20000 in
theorem wsX30_i : ∀ w ∈ wsX30, w ∈ lw_tbl := lw_mem_r _ [710, 712, 714, 716, 718, 720, 722, 724, 726, 728, 730, 732, 734, 736, 738, 740, 742, 744, 746, 748] (by decide +kernel)
set_option maxRecDepth 20000 in
theorem wsX00_i : ∀ w ∈ wsX00, w ∈ lw_tbl := lw_mem_r _ [97, 99, 101, 103, 105, 107, 109, 111, 113] (by decide +kernel)
set_option maxRecDepth 20000 in
theorem wsX10_i : ∀ w ∈ wsX10, w ∈ lw_tbl := lw_mem_r _ [128, 130, 132, 134] (by decide +kernel)
theorem wsL_law_in0 : ∀ w ∈ wsL_law0, w ∈ lw_tbl := fun w h => (List.mem_append.mp h).elim (fun h => (List.mem_append.mp h).elim (fun h => (List.mem_append.mp h).elim (fun h => (List.mem_append.mp h).elim (fun h => (List.mem_append.mp h).elim (fun h => (List.mem_append.mp h).elim (fun h => wsL_law0_i1 w h) (fun h => (List.mem_append.mp h).elim (fun h => wsL_law0_i2 w h) (fun h => (List.mem_append.mp h).elim (fun h => wsL_law0_i3 w h) (fun h => (List.mem_append.mp h).elim (fun h => wsL_law0_i4 w h) (fun h => (List.mem_append.mp h).elim (fun h => wsL_law0_i5 w h) (fun h => (List.mem_append.mp h).elim (fun h => wsL_law0_i6 w h) (fun h => (List.mem_append.mp h).elim (fun h => wsL_law0_i7 w h) (fun h => (List.mem_append.mp h).elim (fun h => wsL_law0_i8 w h) (fun h => (List.mem_append.mp h).elim (fun h => wsL_law0_i9 w h) (fun h => (List.mem_append.mp h).elim (fun h => wsL_law0_i10 w h) (fun h => (List.mem_append.mp h).elim (fun h => wsL_law0_i11 w h) (fun h => (List.mem_append.mp h).elim (fun h => wsL_law0_i12 w h) (fun h => (List.mem_append.mp h).elim (fun h => wsL_law0_i13 w h) (fun h => (List.mem_append.mp h).elim (fun h => wsL_law0_i14 w h) (fun h => (List.mem_append.mp h).elim (fun h => wsL_law0_i15 w h) (fun h => (List.mem_append.mp h).elim (fun h => wsL_law0_i16 w h) (fun h => (List.mem_append.mp h).elim (fun h => wsL_law0_i17 w h) (fun h => (List.mem_append.mp h).elim (fun h => wsL_law0_i18 w h) (fun h => (List.mem_append.mp h).elim (fun h => wsL_law0_i19 w h) (fun h => (List.mem_append.mp h).elim (fun h => wsL_law0_i20 w h) (fun h => (List.mem_append.mp h).elim (fun h => wsL_law0_i21 w h) (fun h => (List.mem_append.mp h).elim (fun h => wsL_law0_i22 w h) (fun h => (List.mem_append.mp h).elim (fun h => wsL_law0_i23 w h) (fun h => (List.mem_append.mp h).elim (fun h => wsL_law0_i24 w h) (fun h => (List.mem_append.mp h).elim (fun h => wsL_law0_i25 w h) (fun h => (List.mem_append.mp h).elim (fun h => wsL_law0_i26 w h) (fun h => (List.mem_append.mp h).elim (fun h => wsL_law0_i27 w h) (fun h => (List.mem_append.mp h).elim (fun h => wsL_law0_i28 w h) (fun h => (List.mem_append.mp h).elim (fun h => wsL_law0_i29 w h) (fun h => (List.mem_append.mp h).elim (fun h => wsL_law0_i30 w h) (fun h => (List.mem_append.mp h).elim (fun h => wsL_law0_i31 w h) (fun h => wsL_law0_i32 w h)))))))))))))))))))))))))))))))) (fun h => wsX20_i w h)) (fun h => wsX30_i w h)) (fun h => wsX00_i w h)) (fun h => wsX10_i w h)) (fun h => absurd h List.not_mem_nil)
