theorem wl_mem (ws : List Cond) (ps : List Nat) (hp : ws = ps.filterMap (fun i => lw_tbl[i]?)) : ∀ w ∈ ws, w ∈ lw_tbl := by
  intro w hw
  rw [hp] at hw
  obtain ⟨i, -, hi⟩ := List.mem_filterMap.mp hw
  exact List.mem_of_getElem? hi
theorem wsX20_tbl : ∀ w ∈ wsX20, w ∈ lw_tbl := by decide +kernel
theorem wsX10_tbl : ∀ w ∈ wsX10, w ∈ lw_tbl := by decide +kernel
theorem wsX30_tbl : ∀ w ∈ wsX30, w ∈ lw_tbl := by decide +kernel
theorem wsX00_tbl : ∀ w ∈ wsX00, w ∈ lw_tbl := by decide +kernel
theorem wsX40_tbl : ∀ w ∈ wsX40, w ∈ lw_tbl := by decide +kernel
theorem wsL_law0_r1_in : ∀ w ∈ wsL_law0_r1, w ∈ lw_tbl := wl_mem _ [33, 34, 20, 60, 651, 652, 653, 35, 36, 37, 38, 39, 40, 41, 42, 21, 162, 93, 94, 24, 163, 138, 139, 25] (by decide +kernel)
theorem wsL_law0_r2_in : ∀ w ∈ wsL_law0_r2, w ∈ lw_tbl := wl_mem _ [164, 44, 45, 46, 47, 48, 22, 67, 68, 69, 71, 72, 73, 49, 50, 51, 52, 53, 54, 23, 55, 56, 96, 97] (by decide +kernel)
theorem wsL_law0_r3_in : ∀ w ∈ wsL_law0_r3, w ∈ lw_tbl := wl_mem _ [98, 99, 105, 106, 107, 108, 109, 111, 112, 113, 114, 100, 141, 142, 143, 144, 146, 147, 148, 149, 150, 145, 266, 267] (by decide +kernel)
theorem wsL_law0_r4_in : ∀ w ∈ wsL_law0_r4, w ∈ lw_tbl := wl_mem _ [268, 269, 357, 358, 359, 360, 361, 362, 363, 364, 65, 348, 323, 324, 325, 270, 271, 272, 273, 176, 177, 178, 179, 29] (by decide +kernel)
theorem wsL_law0_r5_in : ∀ w ∈ wsL_law0_r5, w ∈ lw_tbl := wl_mem _ [247, 248, 249, 250, 30, 274, 275, 276, 277, 63, 278, 279, 280, 281, 282, 283, 284, 285, 286, 287, 288, 289, 101, 290] (by decide +kernel)
theorem wsL_law0_r6_in : ∀ w ∈ wsL_law0_r6, w ∈ lw_tbl := wl_mem _ [291, 292, 293, 294, 479, 480, 481, 482, 299, 300, 301, 302, 31, 483, 484, 485, 486, 495, 334, 487, 489, 6, 490, 491] (by decide +kernel)
theorem wsL_law0_r7_in : ∀ w ∈ wsL_law0_r7, w ∈ lw_tbl := wl_mem _ [493, 7, 494, 295, 296, 297, 298, 318, 319, 320, 321, 103, 322, 465, 466, 467, 468, 469, 422, 423, 424, 470, 471, 472] (by decide +kernel)
theorem wsL_law0_r8_in : ∀ w ∈ wsL_law0_r8, w ∈ lw_tbl := wl_mem _ [473, 474, 418, 419, 420, 437, 382, 383, 421, 425, 426, 427, 428, 429, 431, 4, 432, 433, 434, 435, 436, 438, 439, 32] (by decide +kernel)
theorem wsL_law0_r9_in : ∀ w ∈ wsL_law0_r9, w ∈ lw_tbl := wl_mem _ [440, 441, 442, 443, 326, 327, 328, 329, 330, 331, 332, 333, 335, 336, 337, 338, 339, 365, 366, 367, 368, 369, 370, 371] (by decide +kernel)
theorem wsL_law0_r10_in : ∀ w ∈ wsL_law0_r10, w ∈ lw_tbl := wl_mem _ [372, 373, 375, 1, 376, 377, 378, 379, 380, 381, 496, 497, 19, 498, 499, 500, 501, 502, 503, 504, 505, 506, 507, 400] (by decide +kernel)
theorem wsL_law0_r11_in : ∀ w ∈ wsL_law0_r11, w ∈ lw_tbl := wl_mem _ [401, 402, 403, 508, 509, 510, 511, 512, 513, 514, 515, 516, 518, 8, 519, 520, 522, 9, 523, 524, 525, 527, 10, 528] (by decide +kernel)
theorem wsL_law0_r12_in : ∀ w ∈ wsL_law0_r12, w ∈ lw_tbl := wl_mem _ [62, 529, 530, 531, 532, 396, 397, 398, 399, 405, 406, 407, 408, 533, 534, 535, 536, 392, 394, 3, 395, 404, 409, 410] (by decide +kernel)
theorem wsL_law0_r13_in : ∀ w ∈ wsL_law0_r13, w ∈ lw_tbl := wl_mem _ [411, 412, 413, 414, 415, 416, 417, 537, 538, 539, 540, 541, 543, 11, 544, 545, 546, 547, 548, 549, 550, 551, 552, 464] (by decide +kernel)
theorem wsL_law0_r14_in : ∀ w ∈ wsL_law0_r14, w ∈ lw_tbl := wl_mem _ [553, 554, 555, 556, 557, 559, 12, 560, 561, 562, 563, 564, 565, 566, 567, 568, 569, 570, 571, 573, 13, 574, 575, 577] (by decide +kernel)
theorem wsL_law0_r15_in : ∀ w ∈ wsL_law0_r15, w ∈ lw_tbl := wl_mem _ [14, 578, 579, 580, 581, 582, 583, 584, 585, 586, 587, 588, 589, 590, 591, 592, 593, 594, 596, 15, 597, 454, 455, 599] (by decide +kernel)
theorem wsL_law0_r16_in : ∀ w ∈ wsL_law0_r16, w ∈ lw_tbl := wl_mem _ [600, 601, 602, 603, 604, 605, 606, 607, 609, 16, 610, 611, 613, 17, 614, 445, 446, 447, 448, 388, 390, 2, 391, 444] (by decide +kernel)
theorem wsL_law0_r17_in : ∀ w ∈ wsL_law0_r17, w ∈ lw_tbl := wl_mem _ [449, 450, 451, 452, 456, 458, 5, 459, 615, 616, 617, 618, 619, 620, 621, 622, 340, 341, 342, 343, 344, 345, 346, 347] (by decide +kernel)
theorem wsL_law0_r18_in : ∀ w ∈ wsL_law0_r18, w ∈ lw_tbl := wl_mem _ [349, 350, 351, 352, 353, 354, 355, 356, 172, 173, 174, 175, 475, 476, 477, 478, 645, 646, 647, 460, 461, 462, 463, 384] (by decide +kernel)
theorem wsL_law0_r19_in : ∀ w ∈ wsL_law0_r19, w ∈ lw_tbl := wl_mem _ [385, 386, 387, 623, 624, 625, 642, 643, 644, 626, 627, 628, 629, 630, 631, 632, 633, 634, 635, 636, 637, 639, 18, 640] (by decide +kernel)
theorem wsL_law0_r20_in : ∀ w ∈ wsL_law0_r20, w ∈ lw_tbl := wl_mem _ [648, 649, 650] (by decide +kernel)
theorem wsL_law_in0 : ∀ w ∈ wsL_law0, w ∈ lw_tbl := (List.forall_mem_append.mpr ⟨(List.forall_mem_append.mpr ⟨(List.forall_mem_append.mpr ⟨(List.forall_mem_append.mpr ⟨(List.forall_mem_append.mpr ⟨(List.forall_mem_append.mpr ⟨(List.forall_mem_append.mpr ⟨wsL_law0_r1_in, (List.forall_mem_append.mpr ⟨wsL_law0_r2_in, (List.forall_mem_append.mpr ⟨wsL_law0_r3_in, (List.forall_mem_append.mpr ⟨wsL_law0_r4_in, (List.forall_mem_append.mpr ⟨wsL_law0_r5_in, (List.forall_mem_append.mpr ⟨wsL_law0_r6_in, (List.forall_mem_append.mpr ⟨wsL_law0_r7_in, (List.forall_mem_append.mpr ⟨wsL_law0_r8_in, (List.forall_mem_append.mpr ⟨wsL_law0_r9_in, (List.forall_mem_append.mpr ⟨wsL_law0_r10_in, (List.forall_mem_append.mpr ⟨wsL_law0_r11_in, (List.forall_mem_append.mpr ⟨wsL_law0_r12_in, (List.forall_mem_append.mpr ⟨wsL_law0_r13_in, (List.forall_mem_append.mpr ⟨wsL_law0_r14_in, (List.forall_mem_append.mpr ⟨wsL_law0_r15_in, (List.forall_mem_append.mpr ⟨wsL_law0_r16_in, (List.forall_mem_append.mpr ⟨wsL_law0_r17_in, (List.forall_mem_append.mpr ⟨wsL_law0_r18_in, (List.forall_mem_append.mpr ⟨wsL_law0_r19_in, wsL_law0_r20_in⟩)⟩)⟩)⟩)⟩)⟩)⟩)⟩)⟩)⟩)⟩)⟩)⟩)⟩)⟩)⟩)⟩)⟩)⟩), wsX40_tbl⟩), wsX00_tbl⟩), wsX30_tbl⟩), wsX10_tbl⟩), wsX20_tbl⟩), fun _ h => absurd h List.not_mem_nil⟩)
theorem wsL_law_x0 : ∀ w ∈ (vx_atS RX4 203 "java/lang/IllegalArgumentException" ["java/lang/RuntimeException", "java/lang/Exception"]).filter goodWord, w ∈ lw_tbl := by decide +kernel
theorem wsL_law_x1 : ∀ w ∈ (vx_atS RX4 208 "java/lang/IllegalStateException" ["java/lang/RuntimeException", "java/lang/Exception"]).filter goodWord, w ∈ lw_tbl := by decide +kernel
theorem wsL_law_x2 : ∀ w ∈ (vx_atS RX4 196 "java/lang/IndexOutOfBoundsException" ["java/lang/RuntimeException", "java/lang/Exception"]).filter goodWord, w ∈ lw_tbl := by decide +kernel
theorem wsL_law_in : ∀ w ∈ wsL_law, w ∈ lw_tbl := fun w h => (List.mem_append.mp h).elim (fun h => (List.mem_append.mp h).elim (fun h => (List.mem_append.mp h).elim (fun h => wsL_law_in0 w h) (fun h => wsL_law_x0 w h)) (fun h => wsL_law_x1 w h)) (fun h => wsL_law_x2 w h)
theorem inlX0 : ∀ w ∈ wsX00, w ∈ wsL_law := fun _ h => List.mem_append_left _ (List.mem_append_left _ (List.mem_append_left _ (List.mem_append_left _ (List.mem_append_left _ (List.mem_append_left _ (List.mem_append_left _ (List.mem_append_right _ h)))))))
theorem inX0 : ∀ w ∈ wsX00, w ∈ lw_tbl := fun w h => wsL_law_in w (inlX0 w h)
theorem inlX1 : ∀ w ∈ wsX10, w ∈ wsL_law := fun _ h => List.mem_append_left _ (List.mem_append_left _ (List.mem_append_left _ (List.mem_append_left _ (List.mem_append_left _ (List.mem_append_right _ h)))))
theorem inX1 : ∀ w ∈ wsX10, w ∈ lw_tbl := fun w h => wsL_law_in w (inlX1 w h)
theorem inlX2 : ∀ w ∈ wsX20, w ∈ wsL_law := fun _ h => List.mem_append_left _ (List.mem_append_left _ (List.mem_append_left _ (List.mem_append_left _ (List.mem_append_right _ h))))
theorem inX2 : ∀ w ∈ wsX20, w ∈ lw_tbl := fun w h => wsL_law_in w (inlX2 w h)
theorem inlX3 : ∀ w ∈ wsX30, w ∈ wsL_law := fun _ h => List.mem_append_left _ (List.mem_append_left _ (List.mem_append_left _ (List.mem_append_left _ (List.mem_append_left _ (List.mem_append_left _ (List.mem_append_right _ h))))))
theorem inX3 : ∀ w ∈ wsX30, w ∈ lw_tbl := fun w h => wsL_law_in w (inlX3 w h)
theorem inlX4 : ∀ w ∈ wsX40, w ∈ wsL_law := fun _ h => List.mem_append_left _ (List.mem_append_left _ (List.mem_append_left _ (List.mem_append_left _ (List.mem_append_left _ (List.mem_append_left _ (List.mem_append_left _ (List.mem_append_left _ (List.mem_append_right _ h))))))))
theorem inX4 : ∀ w ∈ wsX40, w ∈ lw_tbl := fun w h => wsL_law_in w (inlX4 w h)
theorem inX5 : ∀ w ∈ wsX50, w ∈ lw_tbl := by decide +kernel
theorem inJ6 : ∀ w ∈ wsJ60, w ∈ lw_tbl := by decide +kernel
theorem inJ9 : ∀ w ∈ wsJ90, w ∈ lw_tbl := by decide +kernel
theorem inJ0 : ∀ w ∈ wsJ00, w ∈ lw_tbl := by decide +kernel
