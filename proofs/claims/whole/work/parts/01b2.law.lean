set_option maxRecDepth 20000 in
theorem wsL_lr1 : ∀ w ∈ wsL_law0_r1, w ∈ lw_tbl := fun w h => (goodIn_r wsL_law0_r1 [47, 48, 31, 680, 681, 36, 165, 49, 50, 51, 52, 53, 54, 55, 56, 32, 202, 123, 124, 33, 203, 166, 167, 35] (by decide +kernel) (by decide +kernel) w h).1
set_option maxRecDepth 20000 in
theorem wsL_lr2 : ∀ w ∈ wsL_law0_r2, w ∈ lw_tbl := fun w h => (goodIn_r wsL_law0_r2 [204, 205, 206, 207, 208, 57, 58, 59, 60, 122, 65, 66, 67, 69, 72, 75, 61, 77, 82, 84, 85, 87, 90, 63] (by decide +kernel) (by decide +kernel) w h).1
set_option maxRecDepth 20000 in
theorem wsL_lr3 : ∀ w ∈ wsL_law0_r3, w ∈ lw_tbl := fun w h => (goodIn_r wsL_law0_r3 [79, 88, 125, 126, 127, 128, 142, 129, 130, 34, 143, 144, 145, 146, 147, 149, 131, 132, 133, 134, 135, 136, 168, 169] (by decide +kernel) (by decide +kernel) w h).1
set_option maxRecDepth 20000 in
theorem wsL_lr4 : ∀ w ∈ wsL_law0_r4, w ∈ lw_tbl := fun w h => (goodIn_r wsL_law0_r4 [170, 171, 172, 173, 175, 177, 178, 180, 182, 183, 682, 683, 684, 685, 765, 770, 773, 775, 686, 687, 37, 777, 778, 689] (by decide +kernel) (by decide +kernel) w h).1
set_option maxRecDepth 20000 in
theorem wsL_lr5 : ∀ w ∈ wsL_law0_r5, w ∈ lw_tbl := fun w h => (goodIn_r wsL_law0_r5 [690, 720, 691, 707, 710, 712, 714, 715, 716, 717, 718, 719, 279, 280, 30, 281, 282, 283, 284, 285, 286, 287, 362, 42] (by decide +kernel) (by decide +kernel) w h).1
set_option maxRecDepth 20000 in
theorem wsL_lr6 : ∀ w ∈ wsL_law0_r6, w ∈ lw_tbl := fun w h => (goodIn_r wsL_law0_r6 [288, 289, 290, 291, 292, 293, 294, 41, 378, 379, 380, 381, 804, 805, 806, 807, 764, 815, 817, 816, 43, 808, 809, 810] (by decide +kernel) (by decide +kernel) w h).1
set_option maxRecDepth 20000 in
theorem wsL_lr7 : ∀ w ∈ wsL_law0_r7, w ∈ lw_tbl := fun w h => (goodIn_r wsL_law0_r7 [811, 813, 15, 814, 800, 801, 802, 803, 382, 383, 384, 385, 386, 387, 388, 389, 390, 391, 392, 393, 395, 396, 397, 398] (by decide +kernel) (by decide +kernel) w h).1
set_option maxRecDepth 20000 in
theorem wsL_lr8 : ∀ w ∈ wsL_law0_r8, w ∈ lw_tbl := fun w h => (goodIn_r wsL_law0_r8 [44, 415, 416, 417, 418, 419, 421, 3, 422, 818, 819, 820, 821, 767, 822, 824, 16, 825, 423, 424, 425, 426, 427, 428] (by decide +kernel) (by decide +kernel) w h).1
set_option maxRecDepth 20000 in
theorem wsL_lr9 : ∀ w ∈ wsL_law0_r9, w ∈ lw_tbl := fun w h => (goodIn_r wsL_law0_r9 [429, 826, 827, 828, 829, 769, 430, 431, 432, 433, 434, 435, 436, 830, 831, 832, 833, 437, 438, 439, 440, 441, 442, 443] (by decide +kernel) (by decide +kernel) w h).1
set_option maxRecDepth 20000 in
theorem wsL_lr10 : ∀ w ∈ wsL_law0_r10, w ∈ lw_tbl := fun w h => (goodIn_r wsL_law0_r10 [444, 445, 446, 447, 834, 835, 836, 837, 448, 449, 450, 451, 452, 453, 454, 838, 839, 840, 841, 455, 456, 457, 458, 459] (by decide +kernel) (by decide +kernel) w h).1
set_option maxRecDepth 20000 in
theorem wsL_lr11 : ∀ w ∈ wsL_law0_r11, w ∈ lw_tbl := fun w h => (goodIn_r wsL_law0_r11 [460, 461, 266, 267, 268, 269, 270, 272, 1, 273, 258, 259, 260, 261, 842, 843, 844, 845, 846, 848, 17, 849, 850, 852] (by decide +kernel) (by decide +kernel) w h).1
set_option maxRecDepth 20000 in
theorem wsL_lr12 : ∀ w ∈ wsL_law0_r12, w ∈ lw_tbl := fun w h => (goodIn_r wsL_law0_r12 [18, 853, 854, 856, 19, 857, 462, 463, 464, 465, 466, 467, 468, 469, 470, 471, 472, 274, 275, 276, 277, 858, 859, 860] (by decide +kernel) (by decide +kernel) w h).1
set_option maxRecDepth 20000 in
theorem wsL_lr13 : ∀ w ∈ wsL_law0_r13, w ∈ lw_tbl := fun w h => (goodIn_r wsL_law0_r13 [861, 862, 864, 20, 865, 473, 474, 475, 476, 477, 478, 479, 480, 481, 482, 483, 484, 485, 486, 487, 488, 489, 490, 492] (by decide +kernel) (by decide +kernel) w h).1
set_option maxRecDepth 20000 in
theorem wsL_lr14 : ∀ w ∈ wsL_law0_r14, w ∈ lw_tbl := fun w h => (goodIn_r wsL_law0_r14 [493, 494, 495, 496, 497, 498, 499, 45, 500, 501, 503, 4, 504, 505, 506, 507, 508, 509, 511, 5, 512, 513, 514, 515] (by decide +kernel) (by decide +kernel) w h).1
set_option maxRecDepth 20000 in
theorem wsL_lr15 : ∀ w ∈ wsL_law0_r15, w ∈ lw_tbl := fun w h => (goodIn_r wsL_law0_r15 [516, 517, 518, 519, 520, 521, 522, 523, 524, 525, 526, 527, 528, 530, 6, 531, 532, 534, 7, 535, 536, 537, 538, 539] (by decide +kernel) (by decide +kernel) w h).1
set_option maxRecDepth 20000 in
theorem wsL_lr16 : ∀ w ∈ wsL_law0_r16, w ∈ lw_tbl := fun w h => (goodIn_r wsL_law0_r16 [540, 541, 542, 543, 544, 545, 546, 547, 548, 549, 550, 551, 552, 553, 554, 555, 556, 558, 8, 559, 561, 562, 563, 564] (by decide +kernel) (by decide +kernel) w h).1
set_option maxRecDepth 20000 in
theorem wsL_lr17 : ∀ w ∈ wsL_law0_r17, w ∈ lw_tbl := fun w h => (goodIn_r wsL_law0_r17 [565, 567, 9, 568, 569, 571, 10, 572, 573, 574, 576, 11, 577, 578, 579, 580, 581, 582, 583, 584, 585, 586, 587, 588] (by decide +kernel) (by decide +kernel) w h).1
set_option maxRecDepth 20000 in
theorem wsL_lr18 : ∀ w ∈ wsL_law0_r18, w ∈ lw_tbl := fun w h => (goodIn_r wsL_law0_r18 [589, 866, 867, 868, 869, 772, 870, 871, 872, 873, 874, 875, 876, 877, 692, 694, 696, 698, 700, 702, 703, 705, 706, 886] (by decide +kernel) (by decide +kernel) w h).1
set_option maxRecDepth 20000 in
theorem wsL_lr19 : ∀ w ∈ wsL_law0_r19, w ∈ lw_tbl := fun w h => (goodIn_r wsL_law0_r19 [678, 46, 679, 878, 880, 21, 881, 882, 884, 22, 885, 887, 889, 23, 890, 891, 893, 24, 894, 895, 897, 25, 898, 708] (by decide +kernel) (by decide +kernel) w h).1
set_option maxRecDepth 20000 in
theorem wsL_lr20 : ∀ w ∈ wsL_law0_r20, w ∈ lw_tbl := fun w h => (goodIn_r wsL_law0_r20 [709, 901, 903, 26, 904, 590, 591, 592, 593, 594, 595, 596, 278, 241, 242, 243, 905, 906, 907, 908, 224, 225, 226, 227] (by decide +kernel) (by decide +kernel) w h).1
set_option maxRecDepth 20000 in
theorem wsL_lr21 : ∀ w ∈ wsL_law0_r21, w ∈ lw_tbl := fun w h => (goodIn_r wsL_law0_r21 [228, 229, 230, 231, 909, 910, 911, 912, 913, 914, 915, 916, 597, 598, 599, 600, 601, 602, 603, 917, 918, 919, 920, 604] (by decide +kernel) (by decide +kernel) w h).1
set_option maxRecDepth 20000 in
theorem wsL_lr22 : ∀ w ∈ wsL_law0_r22, w ∈ lw_tbl := fun w h => (goodIn_r wsL_law0_r22 [605, 606, 607, 608, 609, 610, 250, 252, 0, 253, 254, 255, 256, 257, 262, 263, 264, 265, 921, 922, 923, 924, 925, 927] (by decide +kernel) (by decide +kernel) w h).1
set_option maxRecDepth 20000 in
theorem wsL_lr23 : ∀ w ∈ wsL_law0_r23, w ∈ lw_tbl := fun w h => (goodIn_r wsL_law0_r23 [27, 928, 611, 612, 613, 614, 615, 616, 617, 929, 930, 931, 932, 933, 935, 28, 936, 618, 619, 620, 621, 622, 623, 624] (by decide +kernel) (by decide +kernel) w h).1
set_option maxRecDepth 20000 in
theorem wsL_lr24 : ∀ w ∈ wsL_law0_r24, w ∈ lw_tbl := fun w h => (goodIn_r wsL_law0_r24 [625, 627, 12, 628, 937, 938, 939, 940, 941, 942, 943, 944, 629, 630, 631, 632, 633, 634, 635, 945, 946, 947, 948, 636] (by decide +kernel) (by decide +kernel) w h).1
set_option maxRecDepth 20000 in
theorem wsL_lr25 : ∀ w ∈ wsL_law0_r25, w ∈ lw_tbl := fun w h => (goodIn_r wsL_law0_r25 [637, 638, 639, 640, 641, 642, 949, 950, 951, 952, 643, 644, 645, 646, 647, 648, 649, 650, 651, 652, 653, 654, 655, 657] (by decide +kernel) (by decide +kernel) w h).1
set_option maxRecDepth 20000 in
theorem wsL_lr26 : ∀ w ∈ wsL_law0_r26, w ∈ lw_tbl := fun w h => (goodIn_r wsL_law0_r26 [13, 658, 953, 954, 955, 956, 957, 959, 29, 960, 961, 675, 676, 659, 660, 661, 662, 663, 664, 665, 666, 667, 668, 669] (by decide +kernel) (by decide +kernel) w h).1
set_option maxRecDepth 20000 in
theorem wsL_lr27 : ∀ w ∈ wsL_law0_r27, w ∈ lw_tbl := fun w h => (goodIn_r wsL_law0_r27 [670, 672, 14, 673, 674, 677, 962, 963, 964, 965, 232, 233, 234, 235, 236, 237, 238, 239, 240, 966, 967, 968, 969, 244] (by decide +kernel) (by decide +kernel) w h).1
set_option maxRecDepth 20000 in
theorem wsL_lr28 : ∀ w ∈ wsL_law0_r28, w ∈ lw_tbl := fun w h => (goodIn_r wsL_law0_r28 [245, 246, 247, 248, 249, 970, 971, 972, 973, 974, 975] (by decide +kernel) (by decide +kernel) w h).1
theorem wsL_lcX4 : ∀ w ∈ wsX40, w ∈ lw_tbl := by decide +kernel
theorem wsL_lcX6 : ∀ w ∈ wsX60, w ∈ lw_tbl := by decide +kernel
theorem wsL_lcX0 : ∀ w ∈ wsX00, w ∈ lw_tbl := by decide +kernel
theorem wsL_lcX3 : ∀ w ∈ wsX30, w ∈ lw_tbl := by decide +kernel
theorem wsL_lcX2 : ∀ w ∈ wsX20, w ∈ lw_tbl := by decide +kernel
theorem wsL_lcX1 : ∀ w ∈ wsX10, w ∈ lw_tbl := by decide +kernel
theorem wsL_lcX5 : ∀ w ∈ wsX50, w ∈ lw_tbl := by decide +kernel
theorem wsL_law_in0 : ∀ w ∈ wsL_law0, w ∈ lw_tbl := fun w h => (List.mem_append.mp h).elim (fun h => (List.mem_append.mp h).elim (fun h => (List.mem_append.mp h).elim (fun h => (List.mem_append.mp h).elim (fun h => (List.mem_append.mp h).elim (fun h => (List.mem_append.mp h).elim (fun h => (List.mem_append.mp h).elim (fun h => (List.mem_append.mp h).elim (fun h => (List.mem_append.mp h).elim (fun h => wsL_lr1 w h) (fun h => (List.mem_append.mp h).elim (fun h => wsL_lr2 w h) (fun h => (List.mem_append.mp h).elim (fun h => wsL_lr3 w h) (fun h => (List.mem_append.mp h).elim (fun h => wsL_lr4 w h) (fun h => (List.mem_append.mp h).elim (fun h => wsL_lr5 w h) (fun h => (List.mem_append.mp h).elim (fun h => wsL_lr6 w h) (fun h => (List.mem_append.mp h).elim (fun h => wsL_lr7 w h) (fun h => (List.mem_append.mp h).elim (fun h => wsL_lr8 w h) (fun h => (List.mem_append.mp h).elim (fun h => wsL_lr9 w h) (fun h => (List.mem_append.mp h).elim (fun h => wsL_lr10 w h) (fun h => (List.mem_append.mp h).elim (fun h => wsL_lr11 w h) (fun h => (List.mem_append.mp h).elim (fun h => wsL_lr12 w h) (fun h => (List.mem_append.mp h).elim (fun h => wsL_lr13 w h) (fun h => (List.mem_append.mp h).elim (fun h => wsL_lr14 w h) (fun h => (List.mem_append.mp h).elim (fun h => wsL_lr15 w h) (fun h => (List.mem_append.mp h).elim (fun h => wsL_lr16 w h) (fun h => (List.mem_append.mp h).elim (fun h => wsL_lr17 w h) (fun h => (List.mem_append.mp h).elim (fun h => wsL_lr18 w h) (fun h => (List.mem_append.mp h).elim (fun h => wsL_lr19 w h) (fun h => (List.mem_append.mp h).elim (fun h => wsL_lr20 w h) (fun h => (List.mem_append.mp h).elim (fun h => wsL_lr21 w h) (fun h => (List.mem_append.mp h).elim (fun h => wsL_lr22 w h) (fun h => (List.mem_append.mp h).elim (fun h => wsL_lr23 w h) (fun h => (List.mem_append.mp h).elim (fun h => wsL_lr24 w h) (fun h => (List.mem_append.mp h).elim (fun h => wsL_lr25 w h) (fun h => (List.mem_append.mp h).elim (fun h => wsL_lr26 w h) (fun h => (List.mem_append.mp h).elim (fun h => wsL_lr27 w h) (fun h => wsL_lr28 w h)))))))))))))))))))))))))))) (fun h => wsL_lcX4 w h)) (fun h => wsL_lcX6 w h)) (fun h => wsL_lcX0 w h)) (fun h => wsL_lcX3 w h)) (fun h => wsL_lcX2 w h)) (fun h => wsL_lcX1 w h)) (fun h => wsL_lcX5 w h)) (fun h => absurd h List.not_mem_nil)
theorem wsL_law_x0 : ∀ w ∈ (vx_atS RX4 60 "java/lang/IllegalStateException" ["java/lang/RuntimeException", "java/lang/Exception"]).filter goodWord, w ∈ lw_tbl := by decide +kernel
theorem wsL_law_x1 : ∀ w ∈ (vx_atS RX4 185 "java/lang/IllegalArgumentException" ["java/lang/RuntimeException", "java/lang/Exception"]).filter goodWord, w ∈ lw_tbl := by decide +kernel
theorem wsL_law_x2 : ∀ w ∈ (vx_atS RX4 180 "java/lang/IndexOutOfBoundsException" ["java/lang/RuntimeException", "java/lang/Exception"]).filter goodWord, w ∈ lw_tbl := by decide +kernel
theorem wsL_law_in : ∀ w ∈ wsL_law, w ∈ lw_tbl := fun w h => (List.mem_append.mp h).elim (fun h => (List.mem_append.mp h).elim (fun h => (List.mem_append.mp h).elim (fun h => wsL_law_in0 w h) (fun h => wsL_law_x0 w h)) (fun h => wsL_law_x1 w h)) (fun h => wsL_law_x2 w h)
theorem inlX0 : ∀ w ∈ wsX00, w ∈ wsL_law := fun _ h => List.mem_append_left _ (List.mem_append_left _ (List.mem_append_left _ (List.mem_append_left _ (List.mem_append_left _ (List.mem_append_left _ (List.mem_append_left _ (List.mem_append_left _ (List.mem_append_right _ h))))))))
theorem inX0 : ∀ w ∈ wsX00, w ∈ lw_tbl := fun w h => wsL_law_in w (inlX0 w h)
theorem inlX1 : ∀ w ∈ wsX10, w ∈ wsL_law := fun _ h => List.mem_append_left _ (List.mem_append_left _ (List.mem_append_left _ (List.mem_append_left _ (List.mem_append_left _ (List.mem_append_right _ h)))))
theorem inX1 : ∀ w ∈ wsX10, w ∈ lw_tbl := fun w h => wsL_law_in w (inlX1 w h)
theorem inlX2 : ∀ w ∈ wsX20, w ∈ wsL_law := fun _ h => List.mem_append_left _ (List.mem_append_left _ (List.mem_append_left _ (List.mem_append_left _ (List.mem_append_left _ (List.mem_append_left _ (List.mem_append_right _ h))))))
theorem inX2 : ∀ w ∈ wsX20, w ∈ lw_tbl := fun w h => wsL_law_in w (inlX2 w h)
theorem inlX3 : ∀ w ∈ wsX30, w ∈ wsL_law := fun _ h => List.mem_append_left _ (List.mem_append_left _ (List.mem_append_left _ (List.mem_append_left _ (List.mem_append_left _ (List.mem_append_left _ (List.mem_append_left _ (List.mem_append_right _ h)))))))
theorem inX3 : ∀ w ∈ wsX30, w ∈ lw_tbl := fun w h => wsL_law_in w (inlX3 w h)
theorem inlX4 : ∀ w ∈ wsX40, w ∈ wsL_law := fun _ h => List.mem_append_left _ (List.mem_append_left _ (List.mem_append_left _ (List.mem_append_left _ (List.mem_append_left _ (List.mem_append_left _ (List.mem_append_left _ (List.mem_append_left _ (List.mem_append_left _ (List.mem_append_left _ (List.mem_append_right _ h))))))))))
theorem inX4 : ∀ w ∈ wsX40, w ∈ lw_tbl := fun w h => wsL_law_in w (inlX4 w h)
theorem inlX5 : ∀ w ∈ wsX50, w ∈ wsL_law := fun _ h => List.mem_append_left _ (List.mem_append_left _ (List.mem_append_left _ (List.mem_append_left _ (List.mem_append_right _ h))))
theorem inX5 : ∀ w ∈ wsX50, w ∈ lw_tbl := fun w h => wsL_law_in w (inlX5 w h)
theorem inlX6 : ∀ w ∈ wsX60, w ∈ wsL_law := fun _ h => List.mem_append_left _ (List.mem_append_left _ (List.mem_append_left _ (List.mem_append_left _ (List.mem_append_left _ (List.mem_append_left _ (List.mem_append_left _ (List.mem_append_left _ (List.mem_append_left _ (List.mem_append_right _ h)))))))))
theorem inX6 : ∀ w ∈ wsX60, w ∈ lw_tbl := fun w h => wsL_law_in w (inlX6 w h)
theorem inJx145de : ∀ w ∈ wsJx145de0, w ∈ lw_tbl := by decide +kernel
theorem inJ9 : ∀ w ∈ wsJ90, w ∈ lw_tbl := by decide +kernel
theorem inJ0 : ∀ w ∈ wsJ00, w ∈ lw_tbl := by decide +kernel
theorem inJ10 : ∀ w ∈ wsJ100, w ∈ lw_tbl := by decide +kernel
theorem inJ7 : ∀ w ∈ wsJ70, w ∈ lw_tbl := by decide +kernel

