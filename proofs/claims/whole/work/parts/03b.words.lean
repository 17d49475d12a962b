theorem cf_mem {big ws : List Cond} (ps : List Nat) (h : ws = ps.filterMap (fun i => big[i]?)) : ∀ w ∈ ws, w ∈ big := by
  intro w hw
  rw [h] at hw
  obtain ⟨i, -, hi⟩ := List.mem_filterMap.mp hw
  exact List.mem_of_getElem? hi
theorem wsL_law0_r1_in : ∀ w ∈ wsL_law0_r1, w ∈ lw_tbl := cf_mem [29, 30, 15, 520, 521, 19, 730, 31, 32, 33, 34, 35, 36, 37, 113, 39, 114, 41, 115, 43, 116, 45, 117, 118] (by decide +kernel)
theorem wsL_law0_r2_in : ∀ w ∈ wsL_law0_r2, w ∈ lw_tbl := cf_mem [119, 120, 121, 47, 16, 80, 17, 98, 18, 49, 50, 51, 52, 54, 56, 58, 79, 61, 63, 81, 82, 83, 84, 89] (by decide +kernel)
theorem wsL_law0_r3_in : ∀ w ∈ wsL_law0_r3, w ∈ lw_tbl := cf_mem [85, 87, 100, 101, 102, 112, 103, 105, 522, 523, 524, 525, 527, 528, 529, 530, 531, 532, 533, 534, 535, 536, 538, 539] (by decide +kernel)
theorem wsL_law0_r4_in : ∀ w ∈ wsL_law0_r4, w ∈ lw_tbl := cf_mem [540, 542, 543, 544, 545, 546, 547, 548, 149, 150, 14, 151, 152, 153, 154, 155, 156, 157, 53, 55, 57, 158, 159, 160] (by decide +kernel)
theorem wsL_law0_r5_in : ∀ w ∈ wsL_law0_r5, w ∈ lw_tbl := cf_mem [161, 23, 229, 230, 231, 232, 24, 603, 604, 605, 606, 549, 607, 608, 609, 610, 611, 612, 599, 600, 601, 602, 248, 249] (by decide +kernel)
theorem wsL_law0_r6_in : ∀ w ∈ wsL_law0_r6, w ∈ lw_tbl := cf_mem [250, 251, 252, 253, 254, 62, 65, 613, 614, 615, 616, 255, 256, 257, 258, 259, 260, 261, 262, 263, 25, 90, 88, 617] (by decide +kernel)
theorem wsL_law0_r7_in : ∀ w ∈ wsL_law0_r7, w ∈ lw_tbl := cf_mem [618, 619, 620, 279, 280, 281, 282, 283, 284, 285, 104, 621, 622, 623, 624, 286, 287, 288, 289, 290, 291, 292, 294, 26] (by decide +kernel)
theorem wsL_law0_r8_in : ∀ w ∈ wsL_law0_r8, w ∈ lw_tbl := cf_mem [295, 296, 297, 298, 312, 306, 308, 60, 299, 300, 301, 302, 303, 305, 310, 625, 626, 627, 628, 537, 323, 324, 325, 326] (by decide +kernel)
theorem wsL_law0_r9_in : ∀ w ∈ wsL_law0_r9, w ∈ lw_tbl := cf_mem [327, 328, 329, 311, 313, 330, 332, 1, 333, 629, 630, 631, 632, 633, 635, 7, 636, 637, 639, 8, 640, 336, 337, 338] (by decide +kernel)
theorem wsL_law0_r10_in : ∀ w ∈ wsL_law0_r10, w ∈ lw_tbl := cf_mem [339, 340, 341, 342, 309, 345, 346, 347, 348, 349, 350, 27, 351, 352, 353, 354, 641, 642, 643, 644, 355, 356, 357, 358] (by decide +kernel)
theorem wsL_law0_r11_in : ∀ w ∈ wsL_law0_r11, w ∈ lw_tbl := cf_mem [359, 360, 361, 106, 384, 28, 362, 363, 364, 365, 367, 369, 2, 370, 371, 373, 3, 374, 375, 376, 377, 378, 64, 379] (by decide +kernel)
theorem wsL_law0_r12_in : ∀ w ∈ wsL_law0_r12, w ∈ lw_tbl := cf_mem [381, 4, 382, 385, 386, 387, 388, 393, 395, 389, 391, 645, 646, 647, 648, 541, 526, 649, 651, 9, 652, 653, 655, 10] (by decide +kernel)
theorem wsL_law0_r13_in : ∀ w ∈ wsL_law0_r13, w ∈ lw_tbl := cf_mem [656, 657, 659, 11, 660, 661, 663, 12, 664, 406, 407, 408, 409, 410, 411, 412, 394, 390, 396, 86, 413, 415, 5, 416] (by decide +kernel)
theorem wsL_law0_r14_in : ∀ w ∈ wsL_law0_r14, w ∈ lw_tbl := cf_mem [665, 666, 667, 668, 669, 671, 13, 672, 419, 420, 421, 422, 423, 424, 425, 59, 392, 673, 674, 675, 676, 426, 427, 428] (by decide +kernel)
theorem wsL_law0_r15_in : ∀ w ∈ wsL_law0_r15, w ∈ lw_tbl := cf_mem [429, 430, 431, 432, 433, 677, 678, 679, 680, 681, 435, 436, 437, 438, 439, 440, 441, 443, 444, 445, 446, 448, 449, 682] (by decide +kernel)
theorem wsL_law0_r16_in : ∀ w ∈ wsL_law0_r16, w ∈ lw_tbl := cf_mem [683, 684, 685, 450, 451, 452, 453, 454, 455, 456, 458, 686, 687, 688, 689, 141, 142, 143, 144, 690, 691, 692, 693, 145] (by decide +kernel)
theorem wsL_law0_r17_in : ∀ w ∈ wsL_law0_r17, w ∈ lw_tbl := cf_mem [146, 147, 148, 694, 695, 696, 697, 459, 460, 461, 462, 463, 464, 465, 698, 699, 700, 701, 466, 467, 468, 469, 470, 471] (by decide +kernel)
theorem wsL_law0_r18_in : ∀ w ∈ wsL_law0_r18, w ∈ lw_tbl := cf_mem [472, 702, 703, 704, 705, 473, 474, 475, 476, 477, 478, 479, 706, 707, 708, 709, 480, 481, 482, 483, 484, 485, 486, 710] (by decide +kernel)
theorem wsL_law0_r19_in : ∀ w ∈ wsL_law0_r19, w ∈ lw_tbl := cf_mem [711, 712, 713, 487, 488, 489, 490, 491, 492, 493, 307, 714, 715, 716, 717, 494, 495, 496, 497, 498, 499, 500, 501, 718] (by decide +kernel)
theorem wsL_law0_r20_in : ∀ w ∈ wsL_law0_r20, w ∈ lw_tbl := cf_mem [719, 720, 721, 502, 503, 504, 505, 506, 507, 508, 722, 723, 724, 725, 509, 510, 511, 512, 513, 514, 515, 516, 518, 6] (by decide +kernel)
theorem wsL_law0_r21_in : ∀ w ∈ wsL_law0_r21, w ∈ lw_tbl := cf_mem [519, 726, 727, 728, 729] (by decide +kernel)
theorem wsX50_in : ∀ w ∈ wsX50, w ∈ lw_tbl := cf_mem [122, 124, 126, 128, 130, 132, 134, 136, 138] (by decide +kernel)
theorem wsX60_in : ∀ w ∈ wsX60, w ∈ lw_tbl := cf_mem [550, 552, 554, 556, 558, 560, 562, 564, 566, 568, 570, 572, 574, 576, 578, 580, 582, 584, 586, 588, 590, 592, 594, 596] (by decide +kernel)
theorem wsX10_in : ∀ w ∈ wsX10, w ∈ lw_tbl := cf_mem [66, 68, 70, 72, 74, 76] (by decide +kernel)
theorem wsX30_in : ∀ w ∈ wsX30, w ∈ lw_tbl := cf_mem [91, 93, 95] (by decide +kernel)
theorem wsX40_in : ∀ w ∈ wsX40, w ∈ lw_tbl := cf_mem [107, 109] (by decide +kernel)
theorem wsX00_in : ∀ w ∈ wsX00, w ∈ lw_tbl := cf_mem [314, 316, 318, 320] (by decide +kernel)
theorem wsX20_in : ∀ w ∈ wsX20, w ∈ lw_tbl := cf_mem [397, 399, 401, 403] (by decide +kernel)
theorem wsL_law_in0 : ∀ w ∈ wsL_law0, w ∈ lw_tbl := fun w h => (List.mem_append.mp h).elim (fun h => (List.mem_append.mp h).elim (fun h => (List.mem_append.mp h).elim (fun h => (List.mem_append.mp h).elim (fun h => (List.mem_append.mp h).elim (fun h => (List.mem_append.mp h).elim (fun h => (List.mem_append.mp h).elim (fun h => (List.mem_append.mp h).elim (fun h => (List.mem_append.mp h).elim (fun h => wsL_law0_r1_in w h) (fun h => (List.mem_append.mp h).elim (fun h => wsL_law0_r2_in w h) (fun h => (List.mem_append.mp h).elim (fun h => wsL_law0_r3_in w h) (fun h => (List.mem_append.mp h).elim (fun h => wsL_law0_r4_in w h) (fun h => (List.mem_append.mp h).elim (fun h => wsL_law0_r5_in w h) (fun h => (List.mem_append.mp h).elim (fun h => wsL_law0_r6_in w h) (fun h => (List.mem_append.mp h).elim (fun h => wsL_law0_r7_in w h) (fun h => (List.mem_append.mp h).elim (fun h => wsL_law0_r8_in w h) (fun h => (List.mem_append.mp h).elim (fun h => wsL_law0_r9_in w h) (fun h => (List.mem_append.mp h).elim (fun h => wsL_law0_r10_in w h) (fun h => (List.mem_append.mp h).elim (fun h => wsL_law0_r11_in w h) (fun h => (List.mem_append.mp h).elim (fun h => wsL_law0_r12_in w h) (fun h => (List.mem_append.mp h).elim (fun h => wsL_law0_r13_in w h) (fun h => (List.mem_append.mp h).elim (fun h => wsL_law0_r14_in w h) (fun h => (List.mem_append.mp h).elim (fun h => wsL_law0_r15_in w h) (fun h => (List.mem_append.mp h).elim (fun h => wsL_law0_r16_in w h) (fun h => (List.mem_append.mp h).elim (fun h => wsL_law0_r17_in w h) (fun h => (List.mem_append.mp h).elim (fun h => wsL_law0_r18_in w h) (fun h => (List.mem_append.mp h).elim (fun h => wsL_law0_r19_in w h) (fun h => (List.mem_append.mp h).elim (fun h => wsL_law0_r20_in w h) (fun h => wsL_law0_r21_in w h))))))))))))))))))))) (fun h => wsX50_in w h)) (fun h => wsX60_in w h)) (fun h => wsX10_in w h)) (fun h => wsX30_in w h)) (fun h => wsX40_in w h)) (fun h => wsX00_in w h)) (fun h => wsX20_in w h)) (fun h => absurd h List.not_mem_nil)
theorem wsL_law_x0 : ∀ w ∈ (vx_atS RX5 215 "java/lang/IndexOutOfBoundsException" ["java/lang/RuntimeException", "java/lang/Exception"]).filter goodWord, w ∈ lw_tbl := by decide +kernel
theorem wsL_law_x1 : ∀ w ∈ (vx_atS RX5 122 "java/lang/IllegalArgumentException" ["java/lang/RuntimeException", "java/lang/Exception"]).filter goodWord, w ∈ lw_tbl := by decide +kernel
theorem wsL_law_x2 : ∀ w ∈ (vx_atS RX5 87 "java/lang/IllegalStateException" ["java/lang/RuntimeException", "java/lang/Exception"]).filter goodWord, w ∈ lw_tbl := by decide +kernel
theorem wsL_law_in : ∀ w ∈ wsL_law, w ∈ lw_tbl := fun w h => (List.mem_append.mp h).elim (fun h => (List.mem_append.mp h).elim (fun h => (List.mem_append.mp h).elim (fun h => wsL_law_in0 w h) (fun h => wsL_law_x0 w h)) (fun h => wsL_law_x1 w h)) (fun h => wsL_law_x2 w h)
theorem inlX0 : ∀ w ∈ wsX00, w ∈ wsL_law := fun _ h => List.mem_append_left _ (List.mem_append_left _ (List.mem_append_left _ (List.mem_append_left _ (List.mem_append_left _ (List.mem_append_right _ h)))))
theorem inX0 : ∀ w ∈ wsX00, w ∈ lw_tbl := fun w h => wsL_law_in w (inlX0 w h)
theorem inlX1 : ∀ w ∈ wsX10, w ∈ wsL_law := fun _ h => List.mem_append_left _ (List.mem_append_left _ (List.mem_append_left _ (List.mem_append_left _ (List.mem_append_left _ (List.mem_append_left _ (List.mem_append_left _ (List.mem_append_left _ (List.mem_append_right _ h))))))))
theorem inX1 : ∀ w ∈ wsX10, w ∈ lw_tbl := fun w h => wsL_law_in w (inlX1 w h)
theorem inlX2 : ∀ w ∈ wsX20, w ∈ wsL_law := fun _ h => List.mem_append_left _ (List.mem_append_left _ (List.mem_append_left _ (List.mem_append_left _ (List.mem_append_right _ h))))
theorem inX2 : ∀ w ∈ wsX20, w ∈ lw_tbl := fun w h => wsL_law_in w (inlX2 w h)
theorem inlX3 : ∀ w ∈ wsX30, w ∈ wsL_law := fun _ h => List.mem_append_left _ (List.mem_append_left _ (List.mem_append_left _ (List.mem_append_left _ (List.mem_append_left _ (List.mem_append_left _ (List.mem_append_left _ (List.mem_append_right _ h)))))))
theorem inX3 : ∀ w ∈ wsX30, w ∈ lw_tbl := fun w h => wsL_law_in w (inlX3 w h)
theorem inlX4 : ∀ w ∈ wsX40, w ∈ wsL_law := fun _ h => List.mem_append_left _ (List.mem_append_left _ (List.mem_append_left _ (List.mem_append_left _ (List.mem_append_left _ (List.mem_append_left _ (List.mem_append_right _ h))))))
theorem inX4 : ∀ w ∈ wsX40, w ∈ lw_tbl := fun w h => wsL_law_in w (inlX4 w h)
theorem inlX5 : ∀ w ∈ wsX50, w ∈ wsL_law := fun _ h => List.mem_append_left _ (List.mem_append_left _ (List.mem_append_left _ (List.mem_append_left _ (List.mem_append_left _ (List.mem_append_left _ (List.mem_append_left _ (List.mem_append_left _ (List.mem_append_left _ (List.mem_append_left _ (List.mem_append_right _ h))))))))))
theorem inX5 : ∀ w ∈ wsX50, w ∈ lw_tbl := fun w h => wsL_law_in w (inlX5 w h)
theorem inlX6 : ∀ w ∈ wsX60, w ∈ wsL_law := fun _ h => List.mem_append_left _ (List.mem_append_left _ (List.mem_append_left _ (List.mem_append_left _ (List.mem_append_left _ (List.mem_append_left _ (List.mem_append_left _ (List.mem_append_left _ (List.mem_append_left _ (List.mem_append_right _ h)))))))))
theorem inX6 : ∀ w ∈ wsX60, w ∈ lw_tbl := fun w h => wsL_law_in w (inlX6 w h)
theorem inJx8e188 : ∀ w ∈ wsJx8e1880, w ∈ lw_tbl := by decide +kernel
theorem inJ9 : ∀ w ∈ wsJ90, w ∈ lw_tbl := by decide +kernel
theorem inJ0 : ∀ w ∈ wsJ00, w ∈ lw_tbl := by decide +kernel
