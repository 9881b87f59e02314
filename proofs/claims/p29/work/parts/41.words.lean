/-! the law's words are the tables' -/
theorem in_tbl {ws : List Cond} (ps : List Nat) (h : ws = ps.filterMap (fun i => lw_tbl[i]?)) : ∀ w ∈ ws, w ∈ lw_tbl := by
  intro w hw
  rw [h] at hw
  obtain ⟨i, -, hi⟩ := List.mem_filterMap.mp hw
  exact List.mem_of_getElem? hi
theorem wl_wsL_law0_r1 : ∀ w ∈ wsL_law0_r1, w ∈ lw_tbl := in_tbl [357, 358, 17, 593, 596, 601, 359, 360, 361, 362, 69, 70, 363, 151, 18, 592, 397, 597, 587, 598, 589, 633, 599, 591] (by decide +kernel)
theorem wl_wsL_law0_r2 : ∀ w ∈ wsL_law0_r2, w ∈ lw_tbl := in_tbl [600, 602, 603, 604, 605, 594, 595, 364, 365, 366, 367, 368, 180, 19, 553, 554, 477, 555, 479, 556, 481, 482, 22, 557] (by decide +kernel)
theorem wl_wsL_law0_r3 : ∀ w ∈ wsL_law0_r3, w ∈ lw_tbl := in_tbl [558, 560, 513, 23, 535, 24, 540, 369, 370, 371, 372, 373, 429, 375, 431, 435, 437, 439, 443, 215, 20, 398, 21, 378] (by decide +kernel)
theorem wl_wsL_law0_r4 : ∀ w ∈ wsL_law0_r4, w ∈ lw_tbl := in_tbl [379, 380, 381, 383, 400, 401, 402, 412, 415, 484, 485, 486, 491, 515, 516, 517, 520, 537, 538, 539, 646, 647, 648, 649] (by decide +kernel)
theorem wl_wsL_law0_r5 : ∀ w ∈ wsL_law0_r5, w ∈ lw_tbl := in_tbl [650, 635, 636, 637, 639, 16, 640, 641, 643, 644, 645, 651, 652, 653, 654, 655, 656, 657, 658, 430, 382, 384, 40, 41] (by decide +kernel)
theorem wl_wsL_law0_r6 : ∀ w ∈ wsL_law0_r6, w ∈ lw_tbl := in_tbl [42, 43, 28, 129, 130, 131, 132, 29, 342, 191, 192, 193, 194, 195, 196, 197, 659, 660, 661, 662, 663, 664, 665, 666] (by decide +kernel)
theorem wl_wsL_law0_r7 : ∀ w ∈ wsL_law0_r7, w ∈ lw_tbl := in_tbl [667, 668, 669, 670, 671, 34, 35, 36, 37, 38, 39, 113, 114, 115, 117, 118, 119, 120, 386, 387, 121, 122, 123, 124] (by decide +kernel)
theorem wl_wsL_law0_r8 : ∀ w ∈ wsL_law0_r8, w ∈ lw_tbl := in_tbl [672, 673, 674, 675, 676, 266, 265, 30, 677, 678, 679, 680, 153, 31, 434, 432, 404, 407, 682, 683, 684, 685, 686, 126] (by decide +kernel)
theorem wl_wsL_law0_r9 : ∀ w ∈ wsL_law0_r9, w ∈ lw_tbl := in_tbl [127, 128, 410, 148, 150, 1, 152, 518, 687, 688, 689, 690, 691, 692, 693, 694, 413, 695, 696, 697, 698, 436, 699, 700] (by decide +kernel)
theorem wl_wsL_law0_r10 : ∀ w ∈ wsL_law0_r10, w ∈ lw_tbl := in_tbl [701, 702, 438, 703, 704, 705, 706, 707, 708, 709, 710, 519, 634, 331, 332, 333, 334, 335, 336, 337, 308, 309, 310, 559] (by decide +kernel)
theorem wl_wsL_law0_r11 : ∀ w ∈ wsL_law0_r11, w ∈ lw_tbl := in_tbl [442, 561, 562, 563, 495, 311, 312, 313, 314, 385, 315, 316, 317, 318, 243, 338, 339, 340, 341, 343, 300, 301, 302, 521] (by decide +kernel)
theorem wl_wsL_law0_r12 : ∀ w ∈ wsL_law0_r12, w ∈ lw_tbl := in_tbl [417, 522, 523, 344, 324, 325, 326, 279, 280, 281, 282, 433, 292, 441, 283, 284, 285, 286, 287, 288, 289, 290, 291, 403] (by decide +kernel)
theorem wl_wsL_law0_r13 : ∀ w ∈ wsL_law0_r13, w ∈ lw_tbl := in_tbl [406, 409, 294, 295, 296, 297, 298, 174, 175, 176, 405, 414, 177, 179, 2, 181, 448, 450, 445, 411, 182, 183, 184, 185] (by decide +kernel)
theorem wl_wsL_law0_r14 : ∀ w ∈ wsL_law0_r14, w ∈ lw_tbl := in_tbl [186, 188, 3, 189, 408, 198, 199, 32, 200, 205, 206, 207, 416, 190, 201, 203, 4, 204, 208, 209, 210, 211, 212, 214] (by decide +kernel)
theorem wl_wsL_law0_r15 : ∀ w ∈ wsL_law0_r15, w ∈ lw_tbl := in_tbl [5, 216, 217, 218, 219, 220, 221, 222, 223, 224, 225, 226, 228, 6, 229, 446, 230, 232, 7, 233, 234, 236, 8, 237] (by decide +kernel)
theorem wl_wsL_law0_r16 : ∀ w ∈ wsL_law0_r16, w ∈ lw_tbl := in_tbl [238, 240, 9, 241, 345, 346, 347, 348, 541, 542, 543, 349, 350, 351, 352, 353, 354, 304, 305, 306, 487, 488, 489, 490] (by decide +kernel)
theorem wl_wsL_law0_r17 : ∀ w ∈ wsL_law0_r17, w ∈ lw_tbl := in_tbl [492, 355, 320, 321, 322, 356, 328, 329, 330, 327, 319, 299, 323, 303, 271, 272, 273, 274, 493, 494, 275, 277, 15, 278] (by decide +kernel)
theorem wl_wsL_law0_r18 : ∀ w ∈ wsL_law0_r18, w ∈ lw_tbl := in_tbl [293, 440, 307, 125, 33, 169, 170, 171, 172, 444, 173, 244, 246, 10, 247, 447, 449, 451, 248, 250, 11, 251, 252, 253] (by decide +kernel)
theorem wl_wsL_law0_r19 : ∀ w ∈ wsL_law0_r19, w ∈ lw_tbl := in_tbl [254, 255, 256, 258, 12, 259, 260, 262, 13, 263, 264, 267, 269, 14, 270] (by decide +kernel)
theorem wl_wsX00 : ∀ w ∈ wsX00, w ∈ lw_tbl := in_tbl [496, 498, 500, 502, 504, 506, 508, 510] (by decide +kernel)
theorem wl_wsX10 : ∀ w ∈ wsX10, w ∈ lw_tbl := in_tbl [388, 390, 392, 394] (by decide +kernel)
theorem wl_wsX20 : ∀ w ∈ wsX20, w ∈ lw_tbl := in_tbl [452, 454, 456, 458, 460, 462, 464, 466, 468, 470, 472, 474] (by decide +kernel)
theorem wl_wsX30 : ∀ w ∈ wsX30, w ∈ lw_tbl := in_tbl [544, 546, 548, 550] (by decide +kernel)
theorem wl_wsX40 : ∀ w ∈ wsX40, w ∈ lw_tbl := in_tbl [418, 420, 422, 424, 426] (by decide +kernel)
theorem wl_wsX50 : ∀ w ∈ wsX50, w ∈ lw_tbl := in_tbl [524, 526, 528, 530, 532] (by decide +kernel)
theorem wl_wsX60 : ∀ w ∈ wsX60, w ∈ lw_tbl := in_tbl [564, 566, 568, 570, 572, 574, 576, 578, 580, 582, 584] (by decide +kernel)
theorem wl_wsX70 : ∀ w ∈ wsX70, w ∈ lw_tbl := in_tbl [606, 608, 610, 612, 614, 616, 618, 620, 622, 624, 626, 628, 630] (by decide +kernel)
theorem wl_x0 : ∀ w ∈ (vx_atS RX6 277 "java/lang/IndexOutOfBoundsException" ["java/lang/RuntimeException", "java/lang/Exception"]).filter goodWord, w ∈ lw_tbl := by decide +kernel
theorem wl_x1 : ∀ w ∈ (vx_atS RX6 288 "java/lang/IllegalArgumentException" ["java/lang/RuntimeException", "java/lang/Exception"]).filter goodWord, w ∈ lw_tbl := by decide +kernel
theorem wl_x2 : ∀ w ∈ (vx_atS RX6 94 "java/lang/IllegalStateException" ["java/lang/RuntimeException", "java/lang/Exception"]).filter goodWord, w ∈ lw_tbl := by decide +kernel
theorem wl_app {a b : List Cond} (ha : ∀ w ∈ a, w ∈ lw_tbl) (hb : ∀ w ∈ b, w ∈ lw_tbl) : ∀ w ∈ a ++ b, w ∈ lw_tbl := fun w h => (List.mem_append.mp h).elim (ha w) (hb w)
theorem wl_law0 : ∀ w ∈ wsL_law0, w ∈ lw_tbl := (wl_app (wl_app (wl_app (wl_app (wl_app (wl_app (wl_app (wl_app (wl_app (wl_app wl_wsL_law0_r1 (wl_app wl_wsL_law0_r2 (wl_app wl_wsL_law0_r3 (wl_app wl_wsL_law0_r4 (wl_app wl_wsL_law0_r5 (wl_app wl_wsL_law0_r6 (wl_app wl_wsL_law0_r7 (wl_app wl_wsL_law0_r8 (wl_app wl_wsL_law0_r9 (wl_app wl_wsL_law0_r10 (wl_app wl_wsL_law0_r11 (wl_app wl_wsL_law0_r12 (wl_app wl_wsL_law0_r13 (wl_app wl_wsL_law0_r14 (wl_app wl_wsL_law0_r15 (wl_app wl_wsL_law0_r16 (wl_app wl_wsL_law0_r17 (wl_app wl_wsL_law0_r18 wl_wsL_law0_r19)))))))))))))))))) wl_wsX70) wl_wsX60) wl_wsX20) wl_wsX00) wl_wsX50) wl_wsX30) wl_wsX10) wl_wsX40) (fun _ h => absurd h List.not_mem_nil))
theorem wl_law : ∀ w ∈ wsL_law, w ∈ lw_tbl := wl_app (wl_app (wl_app wl_law0 wl_x0) wl_x1) wl_x2
