/-! the two digests' words are the tables' -/
theorem gt_wsX6_digest_r1 : GoodIn lw_tbl wsX6_digest_r1 := goodIn_sub (in_tbl [392, 393, 245, 126, 247, 210, 394, 395, 396, 33, 397, 251, 250, 134, 253, 254, 255, 249, 187, 398, 399, 400, 401, 46] (by decide +kernel)) (by decide +kernel)
theorem gt_wsX6_digest_r2 : GoodIn lw_tbl wsX6_digest_r2 := goodIn_sub (in_tbl [469, 470, 471, 34, 472, 121, 77, 473, 474, 475, 476, 378, 379, 380, 35, 381, 78, 79, 477, 478, 479, 480, 122, 74] (by decide +kernel)) (by decide +kernel)
theorem gt_wsX6_digest_r3 : GoodIn lw_tbl wsX6_digest_r3 := goodIn_sub (in_tbl [76, 481, 482, 483, 484, 45, 386, 325, 326, 327, 73, 328, 329, 330, 331, 75, 500, 501, 502, 503, 124, 96, 99, 102] (by decide +kernel)) (by decide +kernel)
theorem gt_wsX6_digest_r4 : GoodIn lw_tbl wsX6_digest_r4 := goodIn_sub (in_tbl [105, 213, 109, 214, 215, 211, 504, 505, 506, 507, 246, 508, 510, 10, 511, 512, 47, 287, 288, 289, 290, 123, 125, 127] (by decide +kernel)) (by decide +kernel)
theorem gt_wsX6_digest_r5 : GoodIn lw_tbl wsX6_digest_r5 := goodIn_sub (in_tbl [302, 297, 296, 49, 129, 131, 133, 291, 292, 293, 294, 295, 298, 299, 300, 36, 301, 95, 98, 101, 104, 304, 305, 306] (by decide +kernel)) (by decide +kernel)
theorem gt_wsX6_digest_r6 : GoodIn lw_tbl wsX6_digest_r6 := goodIn_sub (in_tbl [307, 308, 309, 310, 311, 97, 106, 135, 312, 314, 1, 315, 140, 142, 137, 103, 316, 317, 318, 319, 107, 320, 322, 2] (by decide +kernel)) (by decide +kernel)
theorem gt_wsX6_digest_r7 : GoodIn lw_tbl wsX6_digest_r7 := goodIn_sub (in_tbl [323, 100, 332, 333, 48, 334, 339, 340, 341, 108, 324, 335, 337, 3, 338, 342, 343, 344, 345, 346, 348, 4, 349, 350] (by decide +kernel)) (by decide +kernel)
theorem gt_wsX6_digest_r8 : GoodIn lw_tbl wsX6_digest_r8 := goodIn_sub (in_tbl [351, 352, 353, 354, 355, 356, 357, 358, 359, 361, 5, 362, 138, 363, 365, 6, 366, 367, 369, 7, 370, 371, 373, 8] (by decide +kernel)) (by decide +kernel)
theorem gt_wsX6_digest_r9 : GoodIn lw_tbl wsX6_digest_r9 := goodIn_sub (in_tbl [374, 376, 377, 528, 529, 530, 531, 248, 232, 233, 234, 235, 532, 533, 534, 535, 536, 537, 538, 539, 540, 179, 180, 181] (by decide +kernel)) (by decide +kernel)
theorem gt_wsX6_digest_r10 : GoodIn lw_tbl wsX6_digest_r10 := goodIn_sub (in_tbl [182, 184, 541, 542, 543, 544, 545, 546, 547, 548, 549, 550, 551, 552, 554, 555, 556, 557, 558] (by decide +kernel)) (by decide +kernel)
theorem gt_X6_code : GoodIn lw_tbl [.code yX6_digest cX6_digest 5 (some .long)] := goodIn_sub (in_tbl [391] (by decide +kernel)) (by decide +kernel)
theorem gt_wsX8_digest_r1 : GoodIn lw_tbl wsX8_digest_r1 := goodIn_sub (in_tbl [796, 1044, 1045, 797, 756, 748, 798, 799, 1007, 1009, 29, 40, 1010, 742, 744, 746, 758, 764, 752, 801, 832, 833, 834, 987] (by decide +kernel)) (by decide +kernel)
theorem gt_wsX8_digest_r2 : GoodIn lw_tbl wsX8_digest_r2 := goodIn_sub (in_tbl [989, 28, 990, 740, 839, 840, 841, 41, 842, 739, 843, 844, 845, 846, 741, 1024, 1026, 30, 1027, 961, 333, 48, 334, 970] (by decide +kernel)) (by decide +kernel)
theorem gt_wsX8_digest_r3 : GoodIn lw_tbl wsX8_digest_r3 := goodIn_sub (in_tbl [971, 972, 973, 974, 732, 906, 297, 296, 49, 743, 745, 755, 747, 749, 751, 757, 759, 761, 763, 975, 734, 735, 736, 56] (by decide +kernel)) (by decide +kernel)
theorem gt_wsX8_digest_r4 : GoodIn lw_tbl wsX8_digest_r4 := goodIn_sub (in_tbl [57, 89, 794, 737, 753, 754, 977, 978, 979, 980, 981, 903, 904, 905, 911, 340, 341, 907, 909, 18, 910, 912, 914, 19] (by decide +kernel)) (by decide +kernel)
theorem gt_wsX8_digest_r5 : GoodIn lw_tbl wsX8_digest_r5 := goodIn_sub (in_tbl [915, 917, 916, 918, 919, 920, 921, 922, 924, 20, 925, 926, 928, 21, 929, 930, 932, 22, 933, 934, 936, 23, 937, 938] (by decide +kernel)) (by decide +kernel)
theorem gt_wsX8_digest_r6 : GoodIn lw_tbl wsX8_digest_r6 := goodIn_sub (in_tbl [940, 24, 941, 942, 943, 944, 945, 947, 25, 948, 949, 950, 951, 956, 958, 26, 959, 960, 1032, 1034, 31, 1035] (by decide +kernel)) (by decide +kernel)
theorem gt_X8_code : GoodIn lw_tbl [.code yX8_digest cX8_digest 5 (some .long)] := goodIn_sub (in_tbl [1043] (by decide +kernel)) (by decide +kernel)
theorem gt_wsX60 : GoodIn lw_tbl wsX60 := goodIn_sub wl_wsX60 (by decide +kernel)
theorem gt_wsX20 : GoodIn lw_tbl wsX20 := goodIn_sub wl_wsX20 (by decide +kernel)
theorem gt_wsX00 : GoodIn lw_tbl wsX00 := goodIn_sub wl_wsX00 (by decide +kernel)
theorem gt_wsX50 : GoodIn lw_tbl wsX50 := goodIn_sub wl_wsX50 (by decide +kernel)
theorem gt_wsX10 : GoodIn lw_tbl wsX10 := goodIn_sub wl_wsX10 (by decide +kernel)
theorem gt_wsX30 : GoodIn lw_tbl wsX30 := goodIn_sub wl_wsX30 (by decide +kernel)
theorem gt_wsX40 : GoodIn lw_tbl wsX40 := goodIn_sub wl_wsX40 (by decide +kernel)
theorem gt_wsX70 : GoodIn lw_tbl wsX70 := goodIn_sub wl_wsX70 (by decide +kernel)
theorem gt_wsX80 : GoodIn lw_tbl wsX80 := goodIn_sub wl_wsX80 (by decide +kernel)
theorem gt_x0 : GoodIn lw_tbl ((vx_atS RX6 277 "java/lang/IndexOutOfBoundsException" ["java/lang/RuntimeException", "java/lang/Exception"]).filter goodWord) := goodIn_sub wl_x0 (by decide +kernel)
theorem gt_x1 : GoodIn lw_tbl ((vx_atS RX6 288 "java/lang/IllegalArgumentException" ["java/lang/RuntimeException", "java/lang/Exception"]).filter goodWord) := goodIn_sub wl_x1 (by decide +kernel)
theorem gt_x2 : GoodIn lw_tbl ((vx_atS RX6 94 "java/lang/IllegalStateException" ["java/lang/RuntimeException", "java/lang/Exception"]).filter goodWord) := goodIn_sub wl_x2 (by decide +kernel)
theorem ggT_X6_digest : GoodIn lw_tbl wsX6_digest := goodIn_app (a := [_]) gt_X6_code (goodIn_app (goodIn_app (goodIn_app (goodIn_app (goodIn_app (goodIn_app (goodIn_app (goodIn_app (goodIn_app (goodIn_app (goodIn_app gt_wsX6_digest_r1 (goodIn_app gt_wsX6_digest_r2 (goodIn_app gt_wsX6_digest_r3 (goodIn_app gt_wsX6_digest_r4 (goodIn_app gt_wsX6_digest_r5 (goodIn_app gt_wsX6_digest_r6 (goodIn_app gt_wsX6_digest_r7 (goodIn_app gt_wsX6_digest_r8 (goodIn_app gt_wsX6_digest_r9 gt_wsX6_digest_r10))))))))) gt_wsX60) gt_wsX20) gt_wsX50) gt_wsX00) gt_wsX10) gt_wsX40) gt_wsX30) gt_x1) gt_x0) gt_x2)
theorem ggT_X8_digest : GoodIn lw_tbl wsX8_digest := goodIn_app (a := [_]) gt_X8_code (goodIn_app (goodIn_app (goodIn_app gt_wsX8_digest_r1 (goodIn_app gt_wsX8_digest_r2 (goodIn_app gt_wsX8_digest_r3 (goodIn_app gt_wsX8_digest_r4 (goodIn_app gt_wsX8_digest_r5 gt_wsX8_digest_r6))))) gt_wsX80) gt_wsX70)
theorem wl_xd1 : ∀ w ∈ XWD 277 IOB, w ∈ lw_tbl := by decide +kernel
theorem wl_xd2 : ∀ w ∈ XWD 288 IAE, w ∈ lw_tbl := by decide +kernel
/-- what a throw needs of the start -/
theorem XK_of {s : State} {A : Array Value} (hg : (Jvm.Cond.and given_1 narrow_1).before A s = true) (hts : ∀ w ∈ lw_tbl, w.before A s = true) : XK s := by
  have hs := flat_of_before _ hg
  have st : ∀ (k : Nat) (tx : String), (Cond.stringRef RX6 k tx) ∈ lw_tbl → Cond.exactly (Term.string RX6 k) "java/lang/String" ∈ flatC (Jvm.Cond.and given_1 narrow_1) → ∃ sa, vk_R RX6 k tx sa s := fun k tx h1 h2 => by
    obtain ⟨a, c, cA, kA, q1, -⟩ := Cond.exactly_spec (args := A) (first := s) (o := none) (s := s) (idx := []) (t := .string RX6 k) (cls := "java/lang/String") (hs _ h2)
    exact ⟨a, vk_R.of (hts _ h1) q1⟩
  exact ⟨fun w hw => va_Nw.of (mvw.tab (xw_mv1 w hw)) (hts w (wl_xd1 w hw)), fun w hw => va_Nw.of (mvw.tab (xw_mv2 w hw)) (hts w (wl_xd2 w hw)), st 275 _ (by decide +kernel) (by decide +kernel), st 282 _ (by decide +kernel) (by decide +kernel), st 286 _ (by decide +kernel) (by decide +kernel)⟩
