/-! the law's words are the tables' -/
theorem in_tbl {ws : List Cond} (ps : List Nat) (h : ws = ps.filterMap (fun i => lw_tbl[i]?)) : ∀ w ∈ ws, w ∈ lw_tbl := by
  intro w hw
  rw [h] at hw
  obtain ⟨i, -, hi⟩ := List.mem_filterMap.mp hw
  exact List.mem_of_getElem? hi
theorem wl_wsL_law0_r1 : ∀ w ∈ wsL_law0_r1, w ∈ lw_tbl := in_tbl [50, 51, 33, 725, 726, 40, 1046, 52, 53, 54, 55, 56, 57, 58, 59, 34, 245, 246, 169, 247, 171, 248, 173, 174] (by decide +kernel)
theorem wl_wsL_law0_r2 : ∀ w ∈ wsL_law0_r2, w ∈ lw_tbl := in_tbl [37, 249, 89, 250, 252, 205, 38, 227, 39, 232, 60, 61, 62, 63, 64, 121, 66, 123, 127, 129, 131, 135, 68, 35] (by decide +kernel)
theorem wl_wsL_law0_r3 : ∀ w ∈ wsL_law0_r3, w ∈ lw_tbl := in_tbl [90, 36, 70, 71, 72, 73, 75, 92, 93, 94, 104, 107, 176, 177, 178, 183, 207, 208, 209, 212, 229, 230, 231, 727] (by decide +kernel)
theorem wl_wsL_law0_r4 : ∀ w ∈ wsL_law0_r4, w ∈ lw_tbl := in_tbl [728, 729, 730, 731, 732, 41, 797, 795, 798, 799, 800, 733, 734, 735, 736, 739, 741, 794, 743, 745, 737, 747, 749, 751] (by decide +kernel)
theorem wl_wsL_law0_r5 : ∀ w ∈ wsL_law0_r5, w ∈ lw_tbl := in_tbl [753, 754, 759, 761, 559, 560, 32, 561, 562, 563, 564, 565, 566, 567, 122, 74, 76, 481, 482, 483, 484, 45, 398, 399] (by decide +kernel)
theorem wl_wsL_law0_r6 : ∀ w ∈ wsL_law0_r6, w ∈ lw_tbl := in_tbl [400, 401, 46, 386, 325, 326, 327, 328, 329, 330, 331, 825, 826, 827, 828, 796, 740, 742, 829, 830, 831, 832, 833, 834] (by decide +kernel)
theorem wl_wsL_law0_r7 : ∀ w ∈ wsL_law0_r7, w ∈ lw_tbl := in_tbl [835, 837, 16, 838, 839, 840, 841, 842, 843, 844, 845, 846, 821, 822, 823, 824, 568, 569, 570, 571, 572, 573, 574, 549] (by decide +kernel)
theorem wl_wsL_law0_r8 : ∀ w ∈ wsL_law0_r8, w ∈ lw_tbl := in_tbl [550, 551, 552, 376, 377, 554, 379, 380, 381, 78, 79, 555, 556, 557, 558, 847, 848, 849, 850, 744, 746, 851, 852, 853] (by decide +kernel)
theorem wl_wsL_law0_r9 : ∀ w ∈ wsL_law0_r9, w ∈ lw_tbl := in_tbl [575, 576, 577, 578, 579, 580, 581, 582, 512, 47, 126, 124, 96, 99, 854, 855, 856, 857, 756, 748, 584, 585, 586, 587] (by decide +kernel)
theorem wl_wsL_law0_r10 : ∀ w ∈ wsL_law0_r10, w ∈ lw_tbl := in_tbl [588, 589, 590, 102, 508, 510, 10, 511, 210, 858, 859, 860, 861, 862, 864, 17, 865, 591, 592, 593, 594, 595, 596, 597] (by decide +kernel)
theorem wl_wsL_law0_r11 : ∀ w ∈ wsL_law0_r11, w ∈ lw_tbl := in_tbl [105, 866, 867, 868, 869, 598, 599, 600, 601, 602, 603, 604, 211, 870, 871, 872, 873, 606, 607, 608, 609, 610, 611, 612] (by decide +kernel)
theorem wl_wsL_law0_r12 : ∀ w ∈ wsL_law0_r12, w ∈ lw_tbl := in_tbl [874, 875, 876, 877, 613, 614, 615, 616, 617, 618, 619, 128, 878, 879, 880, 881, 750, 620, 621, 622, 623, 624, 625, 626] (by decide +kernel)
theorem wl_wsL_law0_r13 : ∀ w ∈ wsL_law0_r13, w ∈ lw_tbl := in_tbl [130, 882, 883, 884, 885, 760, 627, 628, 629, 630, 631, 632, 633, 134, 132, 886, 887, 888, 889, 764, 762, 635, 636, 637] (by decide +kernel)
theorem wl_wsL_law0_r14 : ∀ w ∈ wsL_law0_r14, w ∈ lw_tbl := in_tbl [638, 639, 640, 641, 890, 891, 892, 893, 642, 643, 644, 645, 646, 647, 648, 894, 895, 896, 897, 649, 650, 651, 652, 653] (by decide +kernel)
theorem wl_wsL_law0_r15 : ∀ w ∈ wsL_law0_r15, w ∈ lw_tbl := in_tbl [654, 655, 251, 136, 656, 309, 310, 311, 125, 97, 106, 312, 314, 1, 315, 140, 142, 137, 103, 316, 317, 318, 319, 320] (by decide +kernel)
theorem wl_wsL_law0_r16 : ∀ w ∈ wsL_law0_r16, w ∈ lw_tbl := in_tbl [322, 2, 323, 100, 332, 333, 48, 334, 339, 340, 341, 108, 133, 324, 335, 337, 3, 338, 342, 343, 344, 345, 346, 348] (by decide +kernel)
theorem wl_wsL_law0_r17 : ∀ w ∈ wsL_law0_r17, w ∈ lw_tbl := in_tbl [4, 349, 350, 351, 352, 353, 354, 355, 356, 357, 358, 359, 361, 5, 362, 138, 363, 365, 6, 366, 77, 367, 369, 7] (by decide +kernel)
theorem wl_wsL_law0_r18 : ∀ w ∈ wsL_law0_r18, w ∈ lw_tbl := in_tbl [370, 371, 373, 8, 374, 378, 657, 659, 11, 660, 253, 139, 254, 141, 255, 143, 214, 109, 661, 663, 12, 664, 213, 215] (by decide +kernel)
theorem wl_wsL_law0_r19 : ∀ w ∈ wsL_law0_r19, w ∈ lw_tbl := in_tbl [665, 666, 667, 668, 95, 669, 671, 13, 672, 673, 675, 14, 676, 677, 297, 296, 49, 678, 680, 15, 681, 233, 898, 899] (by decide +kernel)
theorem wl_wsL_law0_r20 : ∀ w ∈ wsL_law0_r20, w ∈ lw_tbl := in_tbl [900, 901, 902, 903, 904, 905, 757, 906, 911, 755, 907, 909, 18, 910, 912, 914, 19, 915, 917, 763, 916, 918, 919, 920] (by decide +kernel)
theorem wl_wsL_law0_r21 : ∀ w ∈ wsL_law0_r21, w ∈ lw_tbl := in_tbl [921, 922, 924, 20, 925, 926, 928, 21, 929, 930, 932, 22, 933, 934, 936, 23, 937, 938, 940, 24, 941, 942, 943, 944] (by decide +kernel)
theorem wl_wsL_law0_r22 : ∀ w ∈ wsL_law0_r22, w ∈ lw_tbl := in_tbl [945, 947, 25, 948, 949, 950, 951, 682, 683, 684, 685, 686, 687, 688, 536, 234, 235, 532, 533, 534, 535, 952, 953, 954] (by decide +kernel)
theorem wl_wsL_law0_r23 : ∀ w ∈ wsL_law0_r23, w ∈ lw_tbl := in_tbl [955, 960, 956, 958, 26, 959, 961, 279, 280, 281, 282, 185, 187, 186, 179, 182, 180, 181, 184, 283, 285, 0, 286, 303] (by decide +kernel)
theorem wl_wsL_law0_r24 : ∀ w ∈ wsL_law0_r24, w ∈ lw_tbl := in_tbl [287, 288, 289, 290, 302, 291, 292, 293, 294, 295, 298, 299, 300, 301, 98, 101, 304, 305, 306, 307, 308, 962, 963, 964] (by decide +kernel)
theorem wl_wsL_law0_r25 : ∀ w ∈ wsL_law0_r25, w ∈ lw_tbl := in_tbl [965, 801, 802, 752, 803, 758, 982, 966, 968, 27, 969, 976, 970, 971, 972, 973, 974, 975, 977, 978, 979, 980, 981, 689] (by decide +kernel)
theorem wl_wsL_law0_r26 : ∀ w ∈ wsL_law0_r26, w ∈ lw_tbl := in_tbl [690, 691, 692, 478, 479, 480, 983, 984, 985, 986, 987, 989, 28, 990, 693, 694, 695, 696, 501, 502, 503, 991, 992, 993] (by decide +kernel)
theorem wl_wsL_law0_r27 : ∀ w ∈ wsL_law0_r27, w ∈ lw_tbl := in_tbl [994, 697, 698, 699, 700, 529, 530, 531, 995, 996, 997, 998, 701, 702, 703, 704, 538, 539, 540, 999, 1000, 1001, 1002, 705] (by decide +kernel)
theorem wl_wsL_law0_r28 : ∀ w ∈ wsL_law0_r28, w ∈ lw_tbl := in_tbl [706, 707, 708, 395, 396, 397, 469, 470, 471, 472, 473, 474, 475, 476, 1003, 1004, 1005, 1006, 1007, 1009, 29, 1010, 382, 383] (by decide +kernel)
theorem wl_wsL_law0_r29 : ∀ w ∈ wsL_law0_r29, w ∈ lw_tbl := in_tbl [384, 385, 387, 1011, 1012, 1013, 1014, 1015, 709, 710, 711, 712, 542, 543, 544, 1016, 1017, 1018, 1019, 713, 714, 715, 716, 505] (by decide +kernel)
theorem wl_wsL_law0_r30 : ∀ w ∈ wsL_law0_r30, w ∈ lw_tbl := in_tbl [506, 507, 1020, 1021, 1022, 1023, 1024, 1026, 30, 1027, 717, 718, 719, 720, 546, 547, 548, 1028, 1029, 1030, 1031, 1032, 1034, 31] (by decide +kernel)
theorem wl_wsL_law0_r31 : ∀ w ∈ wsL_law0_r31, w ∈ lw_tbl := in_tbl [1035, 721, 722, 723, 724, 1036, 1037, 1038, 1039, 388, 389, 390, 391, 392, 393, 394, 477, 500, 504, 528, 537, 541, 545, 1040] (by decide +kernel)
theorem wl_wsL_law0_r32 : ∀ w ∈ wsL_law0_r32, w ∈ lw_tbl := in_tbl [1041, 1042, 1043, 1044, 1045] (by decide +kernel)
theorem wl_wsX00 : ∀ w ∈ wsX00, w ∈ lw_tbl := in_tbl [188, 190, 192, 194, 196, 198, 200, 202] (by decide +kernel)
theorem wl_wsX10 : ∀ w ∈ wsX10, w ∈ lw_tbl := in_tbl [80, 82, 84, 86] (by decide +kernel)
theorem wl_wsX20 : ∀ w ∈ wsX20, w ∈ lw_tbl := in_tbl [144, 146, 148, 150, 152, 154, 156, 158, 160, 162, 164, 166] (by decide +kernel)
theorem wl_wsX30 : ∀ w ∈ wsX30, w ∈ lw_tbl := in_tbl [236, 238, 240, 242] (by decide +kernel)
theorem wl_wsX40 : ∀ w ∈ wsX40, w ∈ lw_tbl := in_tbl [110, 112, 114, 116, 118] (by decide +kernel)
theorem wl_wsX50 : ∀ w ∈ wsX50, w ∈ lw_tbl := in_tbl [216, 218, 220, 222, 224] (by decide +kernel)
theorem wl_wsX60 : ∀ w ∈ wsX60, w ∈ lw_tbl := in_tbl [256, 258, 260, 262, 264, 266, 268, 270, 272, 274, 276] (by decide +kernel)
theorem wl_wsX70 : ∀ w ∈ wsX70, w ∈ lw_tbl := in_tbl [765, 767, 769, 771, 773, 775, 777, 779, 781, 783, 785, 787, 789, 791] (by decide +kernel)
theorem wl_wsX80 : ∀ w ∈ wsX80, w ∈ lw_tbl := in_tbl [804, 806, 808, 810, 812, 814, 816, 818] (by decide +kernel)
theorem wl_x0 : ∀ w ∈ (vx_atS RX6 277 "java/lang/IndexOutOfBoundsException" ["java/lang/RuntimeException", "java/lang/Exception"]).filter goodWord, w ∈ lw_tbl := by decide +kernel
theorem wl_x1 : ∀ w ∈ (vx_atS RX6 288 "java/lang/IllegalArgumentException" ["java/lang/RuntimeException", "java/lang/Exception"]).filter goodWord, w ∈ lw_tbl := by decide +kernel
theorem wl_x2 : ∀ w ∈ (vx_atS RX6 94 "java/lang/IllegalStateException" ["java/lang/RuntimeException", "java/lang/Exception"]).filter goodWord, w ∈ lw_tbl := by decide +kernel
theorem wl_app {a b : List Cond} (ha : ∀ w ∈ a, w ∈ lw_tbl) (hb : ∀ w ∈ b, w ∈ lw_tbl) : ∀ w ∈ a ++ b, w ∈ lw_tbl := fun w h => (List.mem_append.mp h).elim (ha w) (hb w)
theorem wl_law0 : ∀ w ∈ wsL_law0, w ∈ lw_tbl := (wl_app (wl_app (wl_app (wl_app (wl_app (wl_app (wl_app (wl_app (wl_app (wl_app (wl_app wl_wsL_law0_r1 (wl_app wl_wsL_law0_r2 (wl_app wl_wsL_law0_r3 (wl_app wl_wsL_law0_r4 (wl_app wl_wsL_law0_r5 (wl_app wl_wsL_law0_r6 (wl_app wl_wsL_law0_r7 (wl_app wl_wsL_law0_r8 (wl_app wl_wsL_law0_r9 (wl_app wl_wsL_law0_r10 (wl_app wl_wsL_law0_r11 (wl_app wl_wsL_law0_r12 (wl_app wl_wsL_law0_r13 (wl_app wl_wsL_law0_r14 (wl_app wl_wsL_law0_r15 (wl_app wl_wsL_law0_r16 (wl_app wl_wsL_law0_r17 (wl_app wl_wsL_law0_r18 (wl_app wl_wsL_law0_r19 (wl_app wl_wsL_law0_r20 (wl_app wl_wsL_law0_r21 (wl_app wl_wsL_law0_r22 (wl_app wl_wsL_law0_r23 (wl_app wl_wsL_law0_r24 (wl_app wl_wsL_law0_r25 (wl_app wl_wsL_law0_r26 (wl_app wl_wsL_law0_r27 (wl_app wl_wsL_law0_r28 (wl_app wl_wsL_law0_r29 (wl_app wl_wsL_law0_r30 (wl_app wl_wsL_law0_r31 wl_wsL_law0_r32))))))))))))))))))))))))))))))) wl_wsX60) wl_wsX80) wl_wsX20) wl_wsX00) wl_wsX50) wl_wsX30) wl_wsX10) wl_wsX40) wl_wsX70) (fun _ h => absurd h List.not_mem_nil))
theorem wl_law : ∀ w ∈ wsL_law, w ∈ lw_tbl := wl_app (wl_app (wl_app wl_law0 wl_x0) wl_x1) wl_x2
