theorem mem_r {big : List Cond} (ws : List Cond) (ps : List Nat) (hp : ws = ps.filterMap (fun i => big[i]?)) : ∀ w ∈ ws, w ∈ big := by
  intro w hw
  rw [hp] at hw
  obtain ⟨i, -, hi⟩ := List.mem_filterMap.mp hw
  exact List.mem_of_getElem? hi
theorem all_app {big a b : List Cond} (ha : ∀ w ∈ a, w ∈ big) (hb : ∀ w ∈ b, w ∈ big) : ∀ w ∈ a ++ b, w ∈ big := fun w h => (List.mem_append.mp h).elim (ha w) (hb w)
set_option maxRecDepth 20000 in
theorem wl_1 : ∀ w ∈ wsL_law_r1, w ∈ lw_tbl := mem_r _ [44, 45, 32, 651, 652, 37, 46, 47, 48, 49, 50, 51, 52, 166, 167, 54, 168, 56, 57, 33, 169, 94, 95, 34] (by decide +kernel)
set_option maxRecDepth 20000 in
theorem wl_2 : ∀ w ∈ wsL_law_r2, w ∈ lw_tbl := mem_r _ [170, 112, 113, 35, 171, 130, 131, 36, 172, 176, 177, 58, 59, 60, 61, 62, 64, 67, 68, 97, 98, 99, 100, 102] (by decide +kernel)
set_option maxRecDepth 20000 in
theorem wl_3 : ∀ w ∈ wsL_law_r3, w ∈ lw_tbl := mem_r _ [115, 116, 117, 118, 120, 133, 134, 135, 136, 137, 138, 165, 139, 140, 653, 654, 655, 656, 661, 662, 664, 665, 666, 667] (by decide +kernel)
set_option maxRecDepth 20000 in
theorem wl_4 : ∀ w ∈ wsL_law_r4, w ∈ lw_tbl := mem_r _ [668, 669, 670, 671, 672, 673, 769, 674, 675, 676, 677, 678, 679, 680, 681, 685, 686, 687, 689, 690, 692, 693, 209, 210] (by decide +kernel)
set_option maxRecDepth 20000 in
theorem wl_5 : ∀ w ∈ wsL_law_r5, w ∈ lw_tbl := mem_r _ [211, 212, 175, 770, 771, 772, 773, 657, 774, 775, 776, 213, 214, 215, 216, 286, 173, 240, 38, 305, 307, 300, 316, 179] (by decide +kernel)
set_option maxRecDepth 20000 in
theorem wl_6 : ∀ w ∈ wsL_law_r6, w ∈ lw_tbl := mem_r _ [217, 218, 219, 220, 222, 0, 223, 292, 294, 296, 309, 224, 225, 226, 227, 228, 229, 230, 231, 312, 232, 233, 234, 235] (by decide +kernel)
set_option maxRecDepth 20000 in
theorem wl_7 : ∀ w ∈ wsL_law_r7, w ∈ lw_tbl := mem_r _ [304, 306, 236, 237, 238, 239, 310, 308, 241, 242, 243, 244, 252, 69, 245, 246, 247, 248, 250, 1, 251, 253, 254, 255] (by decide +kernel)
set_option maxRecDepth 20000 in
theorem wl_8 : ∀ w ∈ wsL_law_r8, w ∈ lw_tbl := mem_r _ [256, 257, 285, 288, 291, 293, 295, 297, 299, 258, 259, 39, 301, 260, 261, 262, 263, 264, 356, 358, 2, 359, 174, 360] (by decide +kernel)
set_option maxRecDepth 20000 in
theorem wl_9 : ∀ w ∈ wsL_law_r9, w ∈ lw_tbl := mem_r _ [361, 362, 40, 363, 382, 383, 384, 364, 366, 3, 367, 290, 368, 369, 370, 371, 372, 75, 777, 778, 779, 780, 658, 659] (by decide +kernel)
set_option maxRecDepth 20000 in
theorem wl_10 : ∀ w ∈ wsL_law_r10, w ∈ lw_tbl := mem_r _ [781, 783, 17, 784, 785, 786, 787, 373, 374, 375, 376, 377, 378, 379, 380, 381, 788, 789, 790, 791, 392, 393, 394, 395] (by decide +kernel)
set_option maxRecDepth 20000 in
theorem wl_11 : ∀ w ∈ wsL_law_r11, w ∈ lw_tbl := mem_r _ [178, 792, 793, 794, 795, 663, 396, 397, 398, 399, 400, 402, 4, 403, 404, 405, 406, 407, 408, 314, 315, 409, 410, 411] (by decide +kernel)
set_option maxRecDepth 20000 in
theorem wl_12 : ∀ w ∈ wsL_law_r12, w ∈ lw_tbl := mem_r _ [412, 413, 414, 41, 415, 416, 417, 418, 419, 420, 421, 422, 72, 70, 424, 425, 796, 797, 798, 799, 800, 802, 18, 803] (by decide +kernel)
set_option maxRecDepth 20000 in
theorem wl_13 : ∀ w ∈ wsL_law_r13, w ∈ lw_tbl := mem_r _ [804, 805, 806, 426, 427, 428, 429, 430, 431, 432, 433, 456, 104, 444, 43, 438, 439, 42, 440, 441, 442, 443, 434, 436] (by decide +kernel)
set_option maxRecDepth 20000 in
theorem wl_14 : ∀ w ∈ wsL_law_r14, w ∈ lw_tbl := mem_r _ [5, 437, 450, 453, 445, 446, 447, 448, 449, 452, 455, 807, 808, 809, 810, 660, 811, 813, 19, 814, 465, 466, 467, 468] (by decide +kernel)
set_option maxRecDepth 20000 in
theorem wl_15 : ∀ w ∈ wsL_law_r15, w ∈ lw_tbl := mem_r _ [298, 311, 313, 66, 469, 470, 471, 472, 473, 474, 475, 476, 477, 73, 63, 478, 479, 480, 481, 482, 483, 484, 485, 486] (by decide +kernel)
set_option maxRecDepth 20000 in
theorem wl_16 : ∀ w ∈ wsL_law_r16, w ∈ lw_tbl := mem_r _ [487, 488, 489, 490, 491, 493, 6, 494, 495, 497, 7, 498, 499, 500, 501, 502, 318, 302, 503, 504, 505, 506, 266, 269] (by decide +kernel)
set_option maxRecDepth 20000 in
theorem wl_17 : ∀ w ∈ wsL_law_r17, w ∈ lw_tbl := mem_r _ [273, 507, 508, 509, 510, 317, 289, 287, 511, 512, 513, 514, 319, 515, 516, 517, 518, 519, 520, 521, 522, 523, 524, 525] (by decide +kernel)
set_option maxRecDepth 20000 in
theorem wl_18 : ∀ w ∈ wsL_law_r18, w ∈ lw_tbl := mem_r _ [526, 105, 103, 457, 451, 454, 528, 529, 530, 65, 531, 532, 533, 534, 535, 536, 537, 538, 540, 8, 541, 122, 267, 542] (by decide +kernel)
set_option maxRecDepth 20000 in
theorem wl_19 : ∀ w ∈ wsL_law_r19, w ∈ lw_tbl := mem_r _ [544, 9, 545, 546, 547, 548, 549, 550, 831, 832, 833, 834, 835, 837, 22, 838, 683, 682, 827, 829, 21, 830, 819, 821] (by decide +kernel)
set_option maxRecDepth 20000 in
theorem wl_20 : ∀ w ∈ wsL_law_r20, w ∈ lw_tbl := mem_r _ [20, 822, 684, 839, 841, 23, 842, 850, 851, 688, 843, 845, 24, 846, 847, 848, 849, 852, 854, 25, 855, 551, 552, 553] (by decide +kernel)
set_option maxRecDepth 20000 in
theorem wl_21 : ∀ w ∈ wsL_law_r21, w ∈ lw_tbl := mem_r _ [554, 71, 74, 76, 555, 556, 557, 558, 815, 816, 817, 818, 559, 560, 561, 562, 563, 564, 565, 566, 567, 823, 824, 825] (by decide +kernel)
set_option maxRecDepth 20000 in
theorem wl_22 : ∀ w ∈ wsL_law_r22, w ∈ lw_tbl := mem_r _ [826, 568, 569, 570, 571, 265, 572, 573, 574, 575, 856, 857, 858, 859, 576, 577, 578, 579, 320, 303, 268, 272, 275, 580] (by decide +kernel)
set_option maxRecDepth 20000 in
theorem wl_23 : ∀ w ∈ wsL_law_r23, w ∈ lw_tbl := mem_r _ [581, 582, 583, 584, 586, 10, 587, 860, 861, 862, 863, 864, 866, 26, 867, 868, 870, 27, 871, 872, 874, 28, 875, 588] (by decide +kernel)
set_option maxRecDepth 20000 in
theorem wl_24 : ∀ w ∈ wsL_law_r24, w ∈ lw_tbl := mem_r _ [589, 590, 591, 876, 877, 878, 879, 592, 593, 594, 595, 142, 596, 597, 598, 599, 141, 143, 144, 600, 601, 146, 602, 604] (by decide +kernel)
set_option maxRecDepth 20000 in
theorem wl_25 : ∀ w ∈ wsL_law_r25, w ∈ lw_tbl := mem_r _ [11, 605, 123, 121, 274, 606, 607, 609, 12, 610, 271, 611, 613, 13, 614, 615, 617, 14, 618, 619, 621, 15, 622, 623] (by decide +kernel)
set_option maxRecDepth 20000 in
theorem wl_26 : ∀ w ∈ wsL_law_r26, w ∈ lw_tbl := mem_r _ [625, 16, 626, 627, 628, 629, 630, 880, 881, 882, 883, 691, 884, 885, 886, 887, 889, 29, 890, 891, 893, 30, 894, 632] (by decide +kernel)
set_option maxRecDepth 20000 in
theorem wl_27 : ∀ w ∈ wsL_law_r27, w ∈ lw_tbl := mem_r _ [633, 634, 635, 145, 147, 636, 637, 638, 639, 270, 895, 896, 897, 898, 640, 641, 642, 643, 644, 645, 646, 899, 900, 901] (by decide +kernel)
set_option maxRecDepth 20000 in
theorem wl_28 : ∀ w ∈ wsL_law_r28, w ∈ lw_tbl := mem_r _ [902, 647, 648, 649, 650, 124, 106, 903, 904, 905, 906] (by decide +kernel)
set_option maxRecDepth 20000 in
theorem wl_X8 : ∀ w ∈ wsX80, w ∈ lw_tbl := by decide +kernel
set_option maxRecDepth 20000 in
theorem wl_X9 : ∀ w ∈ wsX90, w ∈ lw_tbl := by decide +kernel
set_option maxRecDepth 20000 in
theorem wl_X3 : ∀ w ∈ wsX30, w ∈ lw_tbl := by decide +kernel
set_option maxRecDepth 20000 in
theorem wl_X7 : ∀ w ∈ wsX70, w ∈ lw_tbl := by decide +kernel
set_option maxRecDepth 20000 in
theorem wl_X2 : ∀ w ∈ wsX20, w ∈ lw_tbl := by decide +kernel
set_option maxRecDepth 20000 in
theorem wl_X5 : ∀ w ∈ wsX50, w ∈ lw_tbl := by decide +kernel
set_option maxRecDepth 20000 in
theorem wl_X0 : ∀ w ∈ wsX00, w ∈ lw_tbl := by decide +kernel
set_option maxRecDepth 20000 in
theorem wl_X1 : ∀ w ∈ wsX10, w ∈ lw_tbl := by decide +kernel
set_option maxRecDepth 20000 in
theorem wl_X6 : ∀ w ∈ wsX60, w ∈ lw_tbl := by decide +kernel
set_option maxRecDepth 20000 in
theorem wl_X4 : ∀ w ∈ wsX40, w ∈ lw_tbl := by decide +kernel
theorem wsL_law_in : ∀ w ∈ wsL_law, w ∈ lw_tbl := all_app (all_app (all_app (all_app (all_app (all_app (all_app (all_app (all_app (all_app (all_app (all_app wl_1 (all_app wl_2 (all_app wl_3 (all_app wl_4 (all_app wl_5 (all_app wl_6 (all_app wl_7 (all_app wl_8 (all_app wl_9 (all_app wl_10 (all_app wl_11 (all_app wl_12 (all_app wl_13 (all_app wl_14 (all_app wl_15 (all_app wl_16 (all_app wl_17 (all_app wl_18 (all_app wl_19 (all_app wl_20 (all_app wl_21 (all_app wl_22 (all_app wl_23 (all_app wl_24 (all_app wl_25 (all_app wl_26 (all_app wl_27 (wl_28)))))))))))))))))))))))))))) wl_X8) wl_X9) wl_X3) wl_X7) wl_X2) wl_X5) wl_X0) wl_X1) wl_X6) wl_X4) (fun w h => absurd h List.not_mem_nil)
theorem inlX0 : ∀ w ∈ wsX00, w ∈ wsL_law := fun _ h => List.mem_append_left _ (List.mem_append_left _ (List.mem_append_left _ (List.mem_append_left _ (List.mem_append_right _ h))))
theorem inX0 : ∀ w ∈ wsX00, w ∈ lw_tbl := fun w h => wsL_law_in w (inlX0 w h)
theorem inlX1 : ∀ w ∈ wsX10, w ∈ wsL_law := fun _ h => List.mem_append_left _ (List.mem_append_left _ (List.mem_append_left _ (List.mem_append_right _ h)))
theorem inX1 : ∀ w ∈ wsX10, w ∈ lw_tbl := fun w h => wsL_law_in w (inlX1 w h)
theorem inlX2 : ∀ w ∈ wsX20, w ∈ wsL_law := fun _ h => List.mem_append_left _ (List.mem_append_left _ (List.mem_append_left _ (List.mem_append_left _ (List.mem_append_left _ (List.mem_append_left _ (List.mem_append_right _ h))))))
theorem inX2 : ∀ w ∈ wsX20, w ∈ lw_tbl := fun w h => wsL_law_in w (inlX2 w h)
theorem inlX3 : ∀ w ∈ wsX30, w ∈ wsL_law := fun _ h => List.mem_append_left _ (List.mem_append_left _ (List.mem_append_left _ (List.mem_append_left _ (List.mem_append_left _ (List.mem_append_left _ (List.mem_append_left _ (List.mem_append_left _ (List.mem_append_right _ h))))))))
theorem inX3 : ∀ w ∈ wsX30, w ∈ lw_tbl := fun w h => wsL_law_in w (inlX3 w h)
theorem inlX4 : ∀ w ∈ wsX40, w ∈ wsL_law := fun _ h => List.mem_append_left _ (List.mem_append_right _ h)
theorem inX4 : ∀ w ∈ wsX40, w ∈ lw_tbl := fun w h => wsL_law_in w (inlX4 w h)
theorem inlX5 : ∀ w ∈ wsX50, w ∈ wsL_law := fun _ h => List.mem_append_left _ (List.mem_append_left _ (List.mem_append_left _ (List.mem_append_left _ (List.mem_append_left _ (List.mem_append_right _ h)))))
theorem inX5 : ∀ w ∈ wsX50, w ∈ lw_tbl := fun w h => wsL_law_in w (inlX5 w h)
theorem inlX6 : ∀ w ∈ wsX60, w ∈ wsL_law := fun _ h => List.mem_append_left _ (List.mem_append_left _ (List.mem_append_right _ h))
theorem inX6 : ∀ w ∈ wsX60, w ∈ lw_tbl := fun w h => wsL_law_in w (inlX6 w h)
theorem inlX7 : ∀ w ∈ wsX70, w ∈ wsL_law := fun _ h => List.mem_append_left _ (List.mem_append_left _ (List.mem_append_left _ (List.mem_append_left _ (List.mem_append_left _ (List.mem_append_left _ (List.mem_append_left _ (List.mem_append_right _ h)))))))
theorem inX7 : ∀ w ∈ wsX70, w ∈ lw_tbl := fun w h => wsL_law_in w (inlX7 w h)
theorem inlX8 : ∀ w ∈ wsX80, w ∈ wsL_law := fun _ h => List.mem_append_left _ (List.mem_append_left _ (List.mem_append_left _ (List.mem_append_left _ (List.mem_append_left _ (List.mem_append_left _ (List.mem_append_left _ (List.mem_append_left _ (List.mem_append_left _ (List.mem_append_left _ (List.mem_append_right _ h))))))))))
theorem inX8 : ∀ w ∈ wsX80, w ∈ lw_tbl := fun w h => wsL_law_in w (inlX8 w h)
theorem inlX9 : ∀ w ∈ wsX90, w ∈ wsL_law := fun _ h => List.mem_append_left _ (List.mem_append_left _ (List.mem_append_left _ (List.mem_append_left _ (List.mem_append_left _ (List.mem_append_left _ (List.mem_append_left _ (List.mem_append_left _ (List.mem_append_left _ (List.mem_append_right _ h)))))))))
theorem inX9 : ∀ w ∈ wsX90, w ∈ lw_tbl := fun w h => wsL_law_in w (inlX9 w h)
theorem inJ6 : ∀ w ∈ wsJ60, w ∈ lw_tbl := by decide +kernel
theorem inJ9 : ∀ w ∈ wsJ90, w ∈ lw_tbl := by decide +kernel
abbrev vwCl : List vw_C := [(RX0, TX0, 17), (RX1, TX1, 4), (RX2, TX2, 2), (RX3, TX3, 8), (RX4, TX4, 3), (RX5, TX5, 8), (RX6, TX6, 3), (RX7, TX7, 2), (RX8, TX8, 14), (RX9, TX9, 37)]
