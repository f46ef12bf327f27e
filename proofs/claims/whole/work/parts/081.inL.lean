theorem wl_mem (ws : List Cond) (ps : List Nat) (hp : ws = ps.filterMap (fun i => lw_tbl[i]?)) : ∀ w ∈ ws, w ∈ lw_tbl := by
  intro w hw
  rw [hp] at hw
  obtain ⟨i, -, hi⟩ := List.mem_filterMap.mp hw
  exact List.mem_of_getElem? hi
theorem wsX20_tbl : ∀ w ∈ wsX20, w ∈ lw_tbl := by decide +kernel
theorem wsX10_tbl : ∀ w ∈ wsX10, w ∈ lw_tbl := by decide +kernel
theorem wsX30_tbl : ∀ w ∈ wsX30, w ∈ lw_tbl := by decide +kernel
theorem wsX00_tbl : ∀ w ∈ wsX00, w ∈ lw_tbl := by decide +kernel
theorem wsX50_tbl : ∀ w ∈ wsX50, w ∈ lw_tbl := by decide +kernel
theorem wsX40_tbl : ∀ w ∈ wsX40, w ∈ lw_tbl := by decide +kernel
theorem wsL_law0_r1_in : ∀ w ∈ wsL_law0_r1, w ∈ lw_tbl := wl_mem _ [56, 57, 42, 726, 727, 48, 1040, 58, 59, 60, 61, 62, 63, 64, 65, 43, 185, 116, 117, 46, 186, 161, 162, 47] (by decide +kernel)
theorem wsL_law0_r2_in : ∀ w ∈ wsL_law0_r2, w ∈ lw_tbl := wl_mem _ [187, 67, 68, 69, 70, 71, 44, 90, 91, 92, 94, 95, 96, 72, 73, 74, 75, 76, 77, 45, 78, 83, 79, 119] (by decide +kernel)
theorem wsL_law0_r3_in : ∀ w ∈ wsL_law0_r3, w ∈ lw_tbl := wl_mem _ [120, 121, 122, 128, 129, 130, 131, 132, 134, 135, 136, 137, 123, 164, 165, 166, 167, 169, 170, 171, 172, 173, 168, 728] (by decide +kernel)
theorem wsL_law0_r4_in : ∀ w ∈ wsL_law0_r4, w ∈ lw_tbl := wl_mem _ [729, 730, 731, 734, 735, 737, 738, 739, 740, 741, 743, 744, 745, 746, 748, 749, 750, 752, 753, 754, 755, 757, 758, 759] (by decide +kernel)
theorem wsL_law0_r5_in : ∀ w ∈ wsL_law0_r5, w ∈ lw_tbl := wl_mem _ [760, 761, 211, 212, 41, 213, 214, 215, 216, 217, 218, 219, 220, 221, 222, 223, 52, 291, 292, 293, 294, 53, 836, 837] (by decide +kernel)
theorem wsL_law0_r6_in : ∀ w ∈ wsL_law0_r6, w ∈ lw_tbl := wl_mem _ [838, 839, 733, 840, 841, 842, 843, 845, 19, 846, 732, 832, 833, 834, 835, 195, 196, 197, 198, 847, 848, 849, 850, 310] (by decide +kernel)
theorem wsL_law0_r7_in : ∀ w ∈ wsL_law0_r7, w ∈ lw_tbl := wl_mem _ [311, 312, 313, 314, 315, 316, 317, 318, 319, 320, 86, 321, 322, 323, 324, 851, 852, 853, 854, 736, 325, 326, 327, 328] (by decide +kernel)
theorem wsL_law0_r8_in : ∀ w ∈ wsL_law0_r8, w ∈ lw_tbl := wl_mem _ [329, 330, 331, 332, 333, 334, 335, 124, 336, 337, 338, 339, 340, 855, 856, 857, 858, 747, 859, 860, 861, 341, 342, 343] (by decide +kernel)
theorem wsL_law0_r9_in : ∀ w ∈ wsL_law0_r9, w ∈ lw_tbl := wl_mem _ [344, 345, 346, 347, 348, 349, 350, 351, 352, 54, 368, 369, 370, 371, 126, 372, 208, 209, 210, 862, 863, 864, 865, 751] (by decide +kernel)
theorem wsL_law0_r10_in : ∀ w ∈ wsL_law0_r10, w ∈ lw_tbl := wl_mem _ [866, 868, 20, 869, 373, 374, 375, 376, 377, 378, 379, 380, 381, 382, 383, 384, 385, 386, 387, 388, 389, 870, 871, 872] (by decide +kernel)
theorem wsL_law0_r11_in : ∀ w ∈ wsL_law0_r11, w ∈ lw_tbl := wl_mem _ [873, 390, 391, 392, 393, 394, 395, 396, 397, 398, 399, 400, 88, 401, 403, 1, 404, 207, 405, 406, 407, 408, 409, 411] (by decide +kernel)
theorem wsL_law0_r12_in : ∀ w ∈ wsL_law0_r12, w ∈ lw_tbl := wl_mem _ [2, 412, 413, 414, 415, 416, 417, 418, 419, 420, 422, 3, 423, 85, 874, 875, 876, 877, 742, 878, 880, 21, 881, 762] (by decide +kernel)
theorem wsL_law0_r13_in : ∀ w ∈ wsL_law0_r13, w ∈ lw_tbl := wl_mem _ [763, 882, 884, 22, 885, 764, 424, 425, 426, 427, 428, 429, 430, 431, 432, 433, 434, 435, 436, 437, 438, 439, 440, 441] (by decide +kernel)
theorem wsL_law0_r14_in : ∀ w ∈ wsL_law0_r14, w ∈ lw_tbl := wl_mem _ [442, 443, 445, 4, 446, 886, 887, 888, 889, 890, 892, 23, 893, 447, 448, 449, 450, 451, 452, 453, 454, 455, 456, 457] (by decide +kernel)
theorem wsL_law0_r15_in : ∀ w ∈ wsL_law0_r15, w ∈ lw_tbl := wl_mem _ [894, 895, 896, 897, 458, 459, 460, 461, 462, 463, 464, 465, 466, 467, 468, 898, 899, 900, 901, 199, 200, 201, 202, 203] (by decide +kernel)
theorem wsL_law0_r16_in : ∀ w ∈ wsL_law0_r16, w ∈ lw_tbl := wl_mem _ [204, 205, 206, 902, 903, 904, 905, 469, 470, 471, 472, 473, 474, 475, 476, 906, 907, 908, 909, 910, 912, 24, 913, 477] (by decide +kernel)
theorem wsL_law0_r17_in : ∀ w ∈ wsL_law0_r17, w ∈ lw_tbl := wl_mem _ [478, 479, 480, 481, 482, 483, 484, 485, 486, 487, 488, 490, 5, 491, 493, 494, 914, 915, 916, 917, 495, 496, 497, 498] (by decide +kernel)
theorem wsL_law0_r18_in : ∀ w ∈ wsL_law0_r18, w ∈ lw_tbl := wl_mem _ [499, 500, 501, 502, 503, 504, 505, 506, 507, 508, 509, 918, 919, 920, 921, 922, 924, 25, 925, 510, 511, 512, 513, 514] (by decide +kernel)
theorem wsL_law0_r19_in : ∀ w ∈ wsL_law0_r19, w ∈ lw_tbl := wl_mem _ [515, 516, 517, 519, 6, 520, 521, 523, 7, 524, 525, 526, 527, 528, 529, 530, 531, 532, 533, 534, 535, 536, 537, 554] (by decide +kernel)
theorem wsL_law0_r20_in : ∀ w ∈ wsL_law0_r20, w ∈ lw_tbl := wl_mem _ [538, 539, 540, 541, 542, 543, 544, 545, 546, 548, 8, 549, 550, 551, 552, 553, 555, 556, 55, 557, 558, 559, 560, 561] (by decide +kernel)
theorem wsL_law0_r21_in : ∀ w ∈ wsL_law0_r21, w ∈ lw_tbl := wl_mem _ [926, 927, 928, 929, 930, 932, 26, 933, 934, 936, 27, 937, 938, 940, 28, 941, 942, 944, 29, 945, 946, 948, 30, 949] (by decide +kernel)
theorem wsL_law0_r22_in : ∀ w ∈ wsL_law0_r22, w ∈ lw_tbl := wl_mem _ [950, 951, 952, 562, 563, 564, 565, 566, 567, 568, 569, 570, 571, 572, 574, 576, 9, 577, 953, 954, 955, 956, 957, 959] (by decide +kernel)
theorem wsL_law0_r23_in : ∀ w ∈ wsL_law0_r23, w ∈ lw_tbl := wl_mem _ [31, 960, 578, 579, 580, 581, 582, 583, 584, 585, 586, 587, 588, 589, 591, 10, 592, 593, 594, 595, 596, 961, 962, 963] (by decide +kernel)
theorem wsL_law0_r24_in : ∀ w ∈ wsL_law0_r24, w ∈ lw_tbl := wl_mem _ [964, 965, 967, 32, 968, 756, 969, 971, 33, 972, 597, 598, 599, 600, 601, 602, 603, 604, 605, 606, 607, 608, 609, 611] (by decide +kernel)
theorem wsL_law0_r25_in : ∀ w ∈ wsL_law0_r25, w ∈ lw_tbl := wl_mem _ [11, 612, 973, 974, 975, 976, 977, 978, 979, 980, 982, 34, 983, 613, 614, 615, 616, 617, 618, 619, 620, 621, 622, 984] (by decide +kernel)
theorem wsL_law0_r26_in : ∀ w ∈ wsL_law0_r26, w ∈ lw_tbl := wl_mem _ [985, 986, 987, 988, 990, 35, 991, 623, 624, 625, 626, 627, 628, 629, 992, 993, 994, 995, 630, 631, 632, 633, 634, 635] (by decide +kernel)
theorem wsL_law0_r27_in : ∀ w ∈ wsL_law0_r27, w ∈ lw_tbl := wl_mem _ [636, 996, 997, 998, 999, 637, 638, 639, 640, 641, 642, 643, 644, 1000, 1001, 1002, 1003, 645, 646, 647, 648, 649, 650, 651] (by decide +kernel)
theorem wsL_law0_r28_in : ∀ w ∈ wsL_law0_r28, w ∈ lw_tbl := wl_mem _ [1004, 1005, 1006, 1007, 652, 653, 654, 655, 656, 657, 658, 659, 661, 12, 662, 663, 665, 13, 666, 667, 668, 669, 670, 671] (by decide +kernel)
theorem wsL_law0_r29_in : ∀ w ∈ wsL_law0_r29, w ∈ lw_tbl := wl_mem _ [672, 673, 674, 675, 676, 677, 678, 679, 680, 681, 682, 684, 14, 685, 686, 688, 15, 689, 1008, 1009, 1010, 1011, 1012, 1014] (by decide +kernel)
theorem wsL_law0_r30_in : ∀ w ∈ wsL_law0_r30, w ∈ lw_tbl := wl_mem _ [36, 1015, 1016, 1018, 37, 1019, 1020, 1022, 38, 1023, 1024, 1026, 39, 1027, 1028, 1030, 40, 1031, 691, 692, 693, 694, 695, 696] (by decide +kernel)
theorem wsL_law0_r31_in : ∀ w ∈ wsL_law0_r31, w ∈ lw_tbl := wl_mem _ [697, 698, 699, 700, 701, 702, 704, 16, 705, 706, 708, 17, 709, 1032, 1033, 1034, 1035, 710, 711, 712, 713, 714, 715, 716] (by decide +kernel)
theorem wsL_law0_r32_in : ∀ w ∈ wsL_law0_r32, w ∈ lw_tbl := wl_mem _ [717, 718, 719, 720, 725, 721, 723, 18, 724, 1036, 1037, 1038, 1039] (by decide +kernel)
theorem wsL_law_in0 : ∀ w ∈ wsL_law0, w ∈ lw_tbl := (List.forall_mem_append.mpr ⟨(List.forall_mem_append.mpr ⟨(List.forall_mem_append.mpr ⟨(List.forall_mem_append.mpr ⟨(List.forall_mem_append.mpr ⟨(List.forall_mem_append.mpr ⟨(List.forall_mem_append.mpr ⟨(List.forall_mem_append.mpr ⟨wsL_law0_r1_in, (List.forall_mem_append.mpr ⟨wsL_law0_r2_in, (List.forall_mem_append.mpr ⟨wsL_law0_r3_in, (List.forall_mem_append.mpr ⟨wsL_law0_r4_in, (List.forall_mem_append.mpr ⟨wsL_law0_r5_in, (List.forall_mem_append.mpr ⟨wsL_law0_r6_in, (List.forall_mem_append.mpr ⟨wsL_law0_r7_in, (List.forall_mem_append.mpr ⟨wsL_law0_r8_in, (List.forall_mem_append.mpr ⟨wsL_law0_r9_in, (List.forall_mem_append.mpr ⟨wsL_law0_r10_in, (List.forall_mem_append.mpr ⟨wsL_law0_r11_in, (List.forall_mem_append.mpr ⟨wsL_law0_r12_in, (List.forall_mem_append.mpr ⟨wsL_law0_r13_in, (List.forall_mem_append.mpr ⟨wsL_law0_r14_in, (List.forall_mem_append.mpr ⟨wsL_law0_r15_in, (List.forall_mem_append.mpr ⟨wsL_law0_r16_in, (List.forall_mem_append.mpr ⟨wsL_law0_r17_in, (List.forall_mem_append.mpr ⟨wsL_law0_r18_in, (List.forall_mem_append.mpr ⟨wsL_law0_r19_in, (List.forall_mem_append.mpr ⟨wsL_law0_r20_in, (List.forall_mem_append.mpr ⟨wsL_law0_r21_in, (List.forall_mem_append.mpr ⟨wsL_law0_r22_in, (List.forall_mem_append.mpr ⟨wsL_law0_r23_in, (List.forall_mem_append.mpr ⟨wsL_law0_r24_in, (List.forall_mem_append.mpr ⟨wsL_law0_r25_in, (List.forall_mem_append.mpr ⟨wsL_law0_r26_in, (List.forall_mem_append.mpr ⟨wsL_law0_r27_in, (List.forall_mem_append.mpr ⟨wsL_law0_r28_in, (List.forall_mem_append.mpr ⟨wsL_law0_r29_in, (List.forall_mem_append.mpr ⟨wsL_law0_r30_in, (List.forall_mem_append.mpr ⟨wsL_law0_r31_in, wsL_law0_r32_in⟩)⟩)⟩)⟩)⟩)⟩)⟩)⟩)⟩)⟩)⟩)⟩)⟩)⟩)⟩)⟩)⟩)⟩)⟩)⟩)⟩)⟩)⟩)⟩)⟩)⟩)⟩)⟩)⟩)⟩)⟩), wsX40_tbl⟩), wsX50_tbl⟩), wsX00_tbl⟩), wsX30_tbl⟩), wsX10_tbl⟩), wsX20_tbl⟩), fun _ h => absurd h List.not_mem_nil⟩)
theorem wsL_law_x0 : ∀ w ∈ (vx_atS RX4 203 "java/lang/IllegalArgumentException" ["java/lang/RuntimeException", "java/lang/Exception"]).filter goodWord, w ∈ lw_tbl := by decide +kernel
theorem wsL_law_x1 : ∀ w ∈ (vx_atS RX4 208 "java/lang/IllegalStateException" ["java/lang/RuntimeException", "java/lang/Exception"]).filter goodWord, w ∈ lw_tbl := by decide +kernel
theorem wsL_law_x2 : ∀ w ∈ (vx_atS RX4 196 "java/lang/IndexOutOfBoundsException" ["java/lang/RuntimeException", "java/lang/Exception"]).filter goodWord, w ∈ lw_tbl := by decide +kernel
theorem wsL_law_in : ∀ w ∈ wsL_law, w ∈ lw_tbl := fun w h => (List.mem_append.mp h).elim (fun h => (List.mem_append.mp h).elim (fun h => (List.mem_append.mp h).elim (fun h => wsL_law_in0 w h) (fun h => wsL_law_x0 w h)) (fun h => wsL_law_x1 w h)) (fun h => wsL_law_x2 w h)
theorem inlX0 : ∀ w ∈ wsX00, w ∈ wsL_law := fun _ h => List.mem_append_left _ (List.mem_append_left _ (List.mem_append_left _ (List.mem_append_left _ (List.mem_append_left _ (List.mem_append_left _ (List.mem_append_left _ (List.mem_append_right _ h)))))))
theorem inX0 : ∀ w ∈ wsX00, w ∈ lw_tbl := fun w h => wsL_law_in w (inlX0 w h)
theorem inlX1 : ∀ w ∈ wsX10, w ∈ wsL_law := fun _ h => List.mem_append_left _ (List.mem_append_left _ (List.mem_append_left _ (List.mem_append_left _ (List.mem_append_left _ (List.mem_append_right _ h)))))
theorem inX1 : ∀ w ∈ wsX10, w ∈ lw_tbl := fun w h => wsL_law_in w (inlX1 w h)
theorem inlX2 : ∀ w ∈ wsX20, w ∈ wsL_law := fun _ h => List.mem_append_left _ (List.mem_append_left _ (List.mem_append_left _ (List.mem_append_left _ (List.mem_append_right _ h))))
theorem inX2 : ∀ w ∈ wsX20, w ∈ lw_tbl := fun w h => wsL_law_in w (inlX2 w h)
theorem inlX3 : ∀ w ∈ wsX30, w ∈ wsL_law := fun _ h => List.mem_append_left _ (List.mem_append_left _ (List.mem_append_left _ (List.mem_append_left _ (List.mem_append_left _ (List.mem_append_left _ (List.mem_append_right _ h))))))
theorem inX3 : ∀ w ∈ wsX30, w ∈ lw_tbl := fun w h => wsL_law_in w (inlX3 w h)
theorem inlX4 : ∀ w ∈ wsX40, w ∈ wsL_law := fun _ h => List.mem_append_left _ (List.mem_append_left _ (List.mem_append_left _ (List.mem_append_left _ (List.mem_append_left _ (List.mem_append_left _ (List.mem_append_left _ (List.mem_append_left _ (List.mem_append_left _ (List.mem_append_right _ h)))))))))
theorem inX4 : ∀ w ∈ wsX40, w ∈ lw_tbl := fun w h => wsL_law_in w (inlX4 w h)
theorem inlX5 : ∀ w ∈ wsX50, w ∈ wsL_law := fun _ h => List.mem_append_left _ (List.mem_append_left _ (List.mem_append_left _ (List.mem_append_left _ (List.mem_append_left _ (List.mem_append_left _ (List.mem_append_left _ (List.mem_append_left _ (List.mem_append_right _ h))))))))
theorem inX5 : ∀ w ∈ wsX50, w ∈ lw_tbl := fun w h => wsL_law_in w (inlX5 w h)
theorem inJ6 : ∀ w ∈ wsJ60, w ∈ lw_tbl := by decide +kernel
theorem inJ9 : ∀ w ∈ wsJ90, w ∈ lw_tbl := by decide +kernel
theorem inJ0 : ∀ w ∈ wsJ00, w ∈ lw_tbl := by decide +kernel
