theorem dL_areOffers_108 : decode cL_areOffers 108 = .ok (.iload 11, 2) := by decide +kernel
theorem dL_areOffers_110 : decode cL_areOffers 110 = .ok (.if_icmp .ne 16, 3) := by decide +kernel
theorem dL_areOffers_113 : decode cL_areOffers 113 = .ok (.aload_n 0, 1) := by decide +kernel
theorem dL_areOffers_114 : decode cL_areOffers 114 = .ok (.iload 14, 2) := by decide +kernel
theorem dL_areOffers_116 : decode cL_areOffers 116 = .ok (.invokevirtual 77, 3) := by decide +kernel
theorem dL_areOffers_119 : decode cL_areOffers 119 = .ok (.ifCond .lt 7, 3) := by decide +kernel
theorem dL_areOffers_122 : decode cL_areOffers 122 = .ok (.iconst 1, 1) := by decide +kernel
theorem dL_areOffers_123 : decode cL_areOffers 123 = .ok (.goto 4, 3) := by decide +kernel
theorem dL_areOffers_126 : decode cL_areOffers 126 = .ok (.iconst 0, 1) := by decide +kernel
theorem dL_areOffers_127 : decode cL_areOffers 127 = .ok (.istore 13, 2) := by decide +kernel
theorem dL_areOffers_129 : decode cL_areOffers 129 = .ok (.iinc 14 1, 3) := by decide +kernel
theorem dL_areOffers_132 : decode cL_areOffers 132 = .ok (.goto (-41), 3) := by decide +kernel
theorem dL_areOffers_135 : decode cL_areOffers 135 = .ok (.iload 13, 2) := by decide +kernel
theorem dL_areOffers_137 : decode cL_areOffers 137 = .ok (.ifCond .eq 60, 3) := by decide +kernel
theorem dL_areOffers_140 : decode cL_areOffers 140 = .ok (.iload_n 3, 1) := by decide +kernel
theorem dL_areOffers_141 : decode cL_areOffers 141 = .ok (.aload_n 1, 1) := by decide +kernel
theorem dL_areOffers_142 : decode cL_areOffers 142 = .ok (.iconst 3, 1) := by decide +kernel
theorem dL_areOffers_143 : decode cL_areOffers 143 = .ok (.iload 11, 2) := by decide +kernel
theorem dL_areOffers_145 : decode cL_areOffers 145 = .ok (.imul, 1) := by decide +kernel
theorem dL_areOffers_146 : decode cL_areOffers 146 = .ok (.iaload, 1) := by decide +kernel
theorem dL_areOffers_147 : decode cL_areOffers 147 = .ok (.if_icmp .lt 50, 3) := by decide +kernel
theorem dL_areOffers_150 : decode cL_areOffers 150 = .ok (.iload_n 3, 1) := by decide +kernel
theorem dL_areOffers_151 : decode cL_areOffers 151 = .ok (.aload_n 1, 1) := by decide +kernel
theorem dL_areOffers_152 : decode cL_areOffers 152 = .ok (.iconst 3, 1) := by decide +kernel
theorem dL_areOffers_153 : decode cL_areOffers 153 = .ok (.iload 11, 2) := by decide +kernel
theorem dL_areOffers_155 : decode cL_areOffers 155 = .ok (.imul, 1) := by decide +kernel
theorem dL_areOffers_156 : decode cL_areOffers 156 = .ok (.iconst 1, 1) := by decide +kernel
theorem dL_areOffers_157 : decode cL_areOffers 157 = .ok (.iadd, 1) := by decide +kernel
theorem dL_areOffers_158 : decode cL_areOffers 158 = .ok (.iaload, 1) := by decide +kernel
theorem dL_areOffers_159 : decode cL_areOffers 159 = .ok (.if_icmp .gt 38, 3) := by decide +kernel
theorem dL_areOffers_162 : decode cL_areOffers 162 = .ok (.iload 12, 2) := by decide +kernel
theorem dL_areOffers_164 : decode cL_areOffers 164 = .ok (.aload_n 0, 1) := by decide +kernel
theorem dL_areOffers_165 : decode cL_areOffers 165 = .ok (.iload_n 2, 1) := by decide +kernel
theorem dL_areOffers_166 : decode cL_areOffers 166 = .ok (.invokevirtual 13, 3) := by decide +kernel
theorem dL_areOffers_169 : decode cL_areOffers 169 = .ok (.if_icmp .gt 28, 3) := by decide +kernel
theorem dL_areOffers_172 : decode cL_areOffers 172 = .ok (.iload 12, 2) := by decide +kernel
theorem dL_areOffers_174 : decode cL_areOffers 174 = .ok (.iload 7, 2) := by decide +kernel
theorem dL_areOffers_176 : decode cL_areOffers 176 = .ok (.if_icmp .lt 17, 3) := by decide +kernel
theorem dL_areOffers_179 : decode cL_areOffers 179 = .ok (.iload 12, 2) := by decide +kernel
theorem dL_areOffers_181 : decode cL_areOffers 181 = .ok (.iload 7, 2) := by decide +kernel
theorem dL_areOffers_183 : decode cL_areOffers 183 = .ok (.if_icmp .ne 14, 3) := by decide +kernel
theorem dL_areOffers_186 : decode cL_areOffers 186 = .ok (.iload 11, 2) := by decide +kernel
theorem dL_areOffers_188 : decode cL_areOffers 188 = .ok (.iload 8, 2) := by decide +kernel
theorem dL_areOffers_190 : decode cL_areOffers 190 = .ok (.if_icmp .le 7, 3) := by decide +kernel
theorem dL_areOffers_193 : decode cL_areOffers 193 = .ok (.iconst 1, 1) := by decide +kernel
theorem dL_areOffers_194 : decode cL_areOffers 194 = .ok (.goto 4, 3) := by decide +kernel
theorem dL_areOffers_197 : decode cL_areOffers 197 = .ok (.iconst 0, 1) := by decide +kernel
theorem dL_areOffers_198 : decode cL_areOffers 198 = .ok (.istore 9, 2) := by decide +kernel
theorem dL_areOffers_200 : decode cL_areOffers 200 = .ok (.iload 12, 2) := by decide +kernel
theorem dL_areOffers_202 : decode cL_areOffers 202 = .ok (.istore 7, 2) := by decide +kernel
theorem dL_areOffers_204 : decode cL_areOffers 204 = .ok (.iload 11, 2) := by decide +kernel
theorem dL_areOffers_206 : decode cL_areOffers 206 = .ok (.istore 8, 2) := by decide +kernel
theorem dL_areOffers_208 : decode cL_areOffers 208 = .ok (.iinc 10 1, 3) := by decide +kernel
theorem dL_areOffers_211 : decode cL_areOffers 211 = .ok (.goto (-157), 3) := by decide +kernel
theorem dL_areOffers_214 : decode cL_areOffers 214 = .ok (.iload 9, 2) := by decide +kernel
theorem dL_areOffers_216 : decode cL_areOffers 216 = .ok (.ireturn, 1) := by decide +kernel
set_option maxRecDepth 20000 in
theorem ggL_law_X4_init : GoodIn wsL_law wsX4_init := goodIn_r _ [9, 10, 11, 12, 13, 14, 15, 16, 17, 18, 19, 20, 21, 22, 23, 24, 25, 26, 27, 28, 29, 30, 31, 32, 33, 34, 35, 36, 37, 38, 39, 40, 41, 42, 43, 44, 3, 45, 46, 47, 48, 49, 50, 51, 52, 53, 54, 55, 56, 57, 58, 59, 60, 61, 62, 63, 64, 65, 66, 67, 68, 69, 462, 463, 464, 465, 466, 467, 468, 469, 470, 459, 460, 461, 471, 472, 473, 474, 475, 476, 477, 478, 479, 480, 481, 482, 483, 484, 485, 486, 487] (by decide +kernel) (by decide +kernel)
set_option maxRecDepth 20000 in
theorem gL_law_X4_init : GoodIn wsL_law (wsX4_init) := ggL_law_X4_init
set_option maxRecDepth 20000 in
theorem ggL_law_X4_now : GoodIn wsL_law wsX4_now := goodIn_r _ [73, 16, 459, 460, 461, 462, 463, 464, 465, 466, 467, 468, 469, 470] (by decide +kernel) (by decide +kernel)
set_option maxRecDepth 20000 in
theorem gL_law_X4_now : GoodIn wsL_law (wsV RL 84 RX4 yX4_now wsX4_now) := goodIn_app (goodIn_of _ (by decide +kernel)) ggL_law_X4_now
set_option maxRecDepth 20000 in
theorem ggL_law_X4_waiting : GoodIn wsL_law wsX4_waiting := goodIn_r _ [77, 16, 78, 79, 80, 15, 81, 82, 36, 83, 84, 85, 30, 86, 45, 459, 460, 461, 462, 463, 464, 465, 466, 467, 468, 469, 470, 487] (by decide +kernel) (by decide +kernel)
set_option maxRecDepth 20000 in
theorem gL_law_X4_waiting : GoodIn wsL_law (wsV RL 64 RX4 yX4_waiting wsX4_waiting) := goodIn_app (goodIn_of _ (by decide +kernel)) ggL_law_X4_waiting
set_option maxRecDepth 20000 in
theorem ggL_law_X4_addTable : GoodIn wsL_law wsX4_addTable := goodIn_ca (goodIn_ca (goodIn_r _ [90, 16, 91, 92, 2, 93, 94, 95, 96, 97, 98, 99, 100, 101, 102, 103, 15, 104, 31, 105, 106, 107, 108, 30, 109, 45, 459, 460, 461, 462, 463, 464, 465, 466, 467, 468, 469, 470, 487] (by decide +kernel) (by decide +kernel)) (goodIn_sub (fun _ h => List.mem_append_left _ (List.mem_append_left _ (List.mem_append_right _ h))) (by decide +kernel))) (goodIn_sub (fun _ h => List.mem_append_left _ (List.mem_append_right _ h)) (by decide +kernel))
set_option maxRecDepth 20000 in
theorem gL_law_X4_addTable : GoodIn wsL_law (wsV RL 90 RX4 yX4_addTable wsX4_addTable) := goodIn_app (goodIn_of _ (by decide +kernel)) ggL_law_X4_addTable
set_option maxRecDepth 20000 in
theorem ggL_law_X4_addTitle : GoodIn wsL_law wsX4_addTitle := goodIn_ca (goodIn_ca (goodIn_r _ [113, 20, 91, 92, 2, 93, 94, 95, 96, 97, 98, 99, 100, 114, 115, 116, 19, 117, 50, 118, 51, 52, 119, 107, 108, 30, 109, 45, 120, 121, 122, 123, 53, 459, 460, 461, 471, 472, 473, 474, 475, 476, 477, 478, 479, 480, 481, 487] (by decide +kernel) (by decide +kernel)) (goodIn_sub (fun _ h => List.mem_append_left _ (List.mem_append_left _ (List.mem_append_right _ h))) (by decide +kernel))) (goodIn_sub (fun _ h => List.mem_append_left _ (List.mem_append_right _ h)) (by decide +kernel))
set_option maxRecDepth 20000 in
theorem gL_law_X4_addTitle : GoodIn wsL_law (wsV RL 93 RX4 yX4_addTitle wsX4_addTitle) := goodIn_app (goodIn_of _ (by decide +kernel)) ggL_law_X4_addTitle
set_option maxRecDepth 20000 in
theorem ggL_law_X4_depth : GoodIn wsL_law wsX4_depth := goodIn_ca (goodIn_r _ [127, 20, 24, 128, 129, 2, 130, 131, 132, 133, 134, 135, 23, 136, 64, 137, 42, 43, 44, 138, 84, 85, 30, 86, 45, 139, 140, 141, 142, 143, 144, 145, 146, 65, 459, 460, 461, 471, 472, 473, 474, 475, 476, 477, 478, 479, 480, 481, 482, 483, 484, 485, 486, 487] (by decide +kernel) (by decide +kernel)) (goodIn_sub (fun _ h => List.mem_append_right _ h) (by decide +kernel))
set_option maxRecDepth 20000 in
theorem gL_law_X4_depth : GoodIn wsL_law (wsV RL 97 RX4 yX4_depth wsX4_depth) := goodIn_app (goodIn_of _ (by decide +kernel)) ggL_law_X4_depth
set_option maxRecDepth 20000 in
theorem ggL_law_X4_addCopy : GoodIn wsL_law wsX4_addCopy := goodIn_ca (goodIn_ca (goodIn_r _ [150, 20, 128, 129, 2, 130, 131, 132, 96, 97, 98, 99, 100, 151, 152, 153, 19, 154, 155, 54, 58, 53, 119, 107, 108, 30, 109, 45, 156, 84, 85, 86, 459, 460, 461, 471, 472, 473, 474, 475, 476, 477, 478, 479, 480, 481, 487] (by decide +kernel) (by decide +kernel)) (goodIn_sub (fun _ h => List.mem_append_right _ h) (by decide +kernel))) (goodIn_sub (fun _ h => List.mem_append_left _ (List.mem_append_right _ h)) (by decide +kernel))
set_option maxRecDepth 20000 in
theorem gL_law_X4_addCopy : GoodIn wsL_law (wsV RL 100 RX4 yX4_addCopy wsX4_addCopy) := goodIn_app (goodIn_of _ (by decide +kernel)) ggL_law_X4_addCopy
set_option maxRecDepth 20000 in
theorem ggL_law_X4_stateOf : GoodIn wsL_law wsX4_stateOf := goodIn_ca (goodIn_r _ [160, 20, 128, 129, 2, 130, 131, 132, 161, 162, 163, 19, 164, 55, 56, 156, 84, 85, 30, 86, 45, 459, 460, 461, 471, 472, 473, 474, 475, 476, 477, 478, 479, 480, 481, 487] (by decide +kernel) (by decide +kernel)) (goodIn_sub (fun _ h => List.mem_append_right _ h) (by decide +kernel))
set_option maxRecDepth 20000 in
theorem gL_law_X4_stateOf : GoodIn wsL_law (wsV RL 74 RX4 yX4_stateOf wsX4_stateOf) := goodIn_app (goodIn_of _ (by decide +kernel)) ggL_law_X4_stateOf
set_option maxRecDepth 20000 in
theorem ggL_law_X4_lenders : GoodIn wsL_law wsX4_lenders := goodIn_ca (goodIn_r _ [168, 20, 128, 129, 2, 130, 131, 132, 169, 170, 171, 19, 172, 155, 173, 174, 43, 175, 176, 162, 163, 164, 55, 56, 156, 84, 85, 30, 86, 45, 177, 178, 179, 180, 53, 54, 58, 181, 182, 183, 184, 185, 186, 187, 188, 189, 190, 191, 192, 193, 194, 195, 459, 460, 461, 471, 472, 473, 474, 475, 476, 477, 478, 479, 480, 481, 487] (by decide +kernel) (by decide +kernel)) (goodIn_sub (fun _ h => List.mem_append_right _ h) (by decide +kernel))
set_option maxRecDepth 20000 in
theorem gL_law_X4_lenders : GoodIn wsL_law (wsV RL 77 RX4 yX4_lenders wsX4_lenders) := goodIn_app (goodIn_of _ (by decide +kernel)) ggL_law_X4_lenders
set_option maxRecDepth 20000 in
theorem ggL_law_X4_addRule : GoodIn wsL_law wsX4_addRule := goodIn_ca (goodIn_ca (goodIn_ca (goodIn_r _ [199, 20, 24, 128, 129, 2, 130, 131, 132, 200, 201, 202, 23, 203, 64, 138, 84, 85, 30, 86, 45, 91, 92, 93, 94, 95, 96, 97, 98, 99, 100, 204, 205, 206, 207, 65, 66, 67, 68, 208, 107, 108, 109, 459, 460, 461, 471, 472, 473, 474, 475, 476, 477, 478, 479, 480, 481, 482, 483, 484, 485, 486, 487] (by decide +kernel) (by decide +kernel)) (goodIn_sub (fun _ h => List.mem_append_right _ h) (by decide +kernel))) (goodIn_sub (fun _ h => List.mem_append_left _ (List.mem_append_left _ (List.mem_append_right _ h))) (by decide +kernel))) (goodIn_sub (fun _ h => List.mem_append_left _ (List.mem_append_right _ h)) (by decide +kernel))
set_option maxRecDepth 20000 in
theorem gL_law_X4_addRule : GoodIn wsL_law (wsV RL 103 RX4 yX4_addRule wsX4_addRule) := goodIn_app (goodIn_of _ (by decide +kernel)) ggL_law_X4_addRule
set_option maxRecDepth 20000 in
theorem ggL_law_X4_waste : GoodIn wsL_law wsX4_waste := goodIn_ca (goodIn_r _ [212, 16, 91, 92, 2, 93, 94, 95, 213, 214, 215, 15, 216, 105, 217, 218, 219, 220, 32, 31, 83, 84, 85, 30, 86, 45, 221, 222, 223, 224, 42, 43, 44, 225, 174, 175, 459, 460, 461, 462, 463, 464, 465, 466, 467, 468, 469, 470, 487] (by decide +kernel) (by decide +kernel)) (goodIn_sub (fun _ h => List.mem_append_left _ (List.mem_append_left _ (List.mem_append_right _ h))) (by decide +kernel))
set_option maxRecDepth 20000 in
theorem gL_law_X4_waste : GoodIn wsL_law (wsV RL 68 RX4 yX4_waste wsX4_waste) := goodIn_app (goodIn_of _ (by decide +kernel)) ggL_law_X4_waste
set_option maxRecDepth 20000 in
theorem ggL_law_L_on : GoodIn wsL_law wsL_on := goodIn_ca (goodIn_ca (goodIn_ca (goodIn_r _ [229, 230, 231, 232, 233, 228, 234, 235, 236, 237, 2, 238, 16, 20, 128, 129, 130, 131, 132, 239, 240, 241, 19, 242, 155, 55, 156, 84, 85, 30, 86, 45, 243, 244, 245, 15, 246, 36, 83, 96, 97, 98, 99, 100, 247, 248, 249, 250, 105, 32, 106, 107, 108, 109, 251, 252, 253, 254, 82, 255, 256, 257, 258, 33, 259, 214, 215, 216, 217, 218, 219, 220, 31, 221, 222, 223, 224, 42, 43, 44, 225, 174, 175, 260, 261, 262, 263, 35, 264, 34, 265, 266, 267, 268, 269, 270, 271, 272, 273, 274, 275, 276, 277, 278, 279, 280, 281, 282, 283, 284, 285, 286, 287, 288, 289, 50, 51, 52, 290, 291, 292, 293, 54, 294, 170, 171, 172, 173, 176, 162, 163, 164, 56, 177, 178, 179, 180, 53, 58, 181, 182, 183, 184, 185, 186, 187, 188, 189, 190, 191, 192, 193, 194, 195, 295, 296, 297, 298, 299, 300, 301, 302, 57, 119, 303, 304, 305, 306, 307, 308, 309, 310, 91, 92, 93, 94, 95, 311, 312, 313, 314, 315, 316, 317, 318, 319, 320, 321, 322, 323, 161, 324, 325, 326, 327, 328, 329, 24, 330, 331, 332, 333, 334, 335, 336, 337, 338, 339, 340, 341, 342, 343, 344, 23, 345, 64, 66, 67, 138, 346, 347, 348, 349, 350, 351, 352, 68, 353, 354, 355, 356, 143, 144, 145, 146, 65, 357, 358, 359, 360, 361, 362, 363, 364, 365, 366, 367, 368, 369, 370, 371, 372, 373, 374, 375, 376, 377, 378, 379, 380, 381, 382, 383, 384, 385, 386, 387, 118, 388, 389, 390, 391, 392, 393, 394, 395, 396, 397, 398, 399, 459, 460, 461, 462, 463, 464, 465, 466, 467, 468, 469, 470, 471, 472, 473, 474, 475, 476, 477, 478, 479, 480, 481, 487, 482, 483, 484, 485, 486] (by decide +kernel) (by decide +kernel)) (goodIn_sub (fun _ h => List.mem_append_right _ h) (by decide +kernel))) (goodIn_sub (fun _ h => List.mem_append_left _ (List.mem_append_right _ h)) (by decide +kernel))) (goodIn_sub (fun _ h => List.mem_append_left _ (List.mem_append_left _ (List.mem_append_right _ h))) (by decide +kernel))
set_option maxRecDepth 20000 in
theorem gL_law_L_on : GoodIn wsL_law (va_wsS RL 55 yL_on wsL_on) := goodIn_app (goodIn_of _ (by decide +kernel)) ggL_law_L_on
set_option maxRecDepth 20000 in
theorem ggL_law_X4_tableOf : GoodIn wsL_law wsX4_tableOf := goodIn_ca (goodIn_r _ [403, 16, 128, 129, 2, 130, 131, 132, 404, 405, 406, 15, 407, 105, 32, 83, 84, 85, 30, 86, 45, 459, 460, 461, 462, 463, 464, 465, 466, 467, 468, 469, 470, 487] (by decide +kernel) (by decide +kernel)) (goodIn_sub (fun _ h => List.mem_append_right _ h) (by decide +kernel))
set_option maxRecDepth 20000 in
theorem gL_law_X4_tableOf : GoodIn wsL_law (wsV RL 49 RX4 yX4_tableOf wsX4_tableOf) := goodIn_app (goodIn_of _ (by decide +kernel)) ggL_law_X4_tableOf
set_option maxRecDepth 20000 in
theorem ggL_law_X4_tablesOf : GoodIn wsL_law wsX4_tablesOf := goodIn_ca (goodIn_r _ [411, 16, 128, 129, 2, 130, 131, 132, 412, 413, 414, 15, 415, 105, 32, 83, 84, 85, 30, 86, 45, 459, 460, 461, 462, 463, 464, 465, 466, 467, 468, 469, 470, 487] (by decide +kernel) (by decide +kernel)) (goodIn_sub (fun _ h => List.mem_append_right _ h) (by decide +kernel))
set_option maxRecDepth 20000 in
theorem gL_law_X4_tablesOf : GoodIn wsL_law (wsV RL 52 RX4 yX4_tablesOf wsX4_tablesOf) := goodIn_app (goodIn_of _ (by decide +kernel)) ggL_law_X4_tablesOf
set_option maxRecDepth 20000 in
theorem ggL_law_X4_pass : GoodIn wsL_law wsX4_pass := goodIn_ca (goodIn_ca (goodIn_r _ [419, 16, 91, 92, 2, 93, 94, 95, 96, 97, 98, 99, 100, 459, 460, 461, 462, 463, 464, 465, 466, 467, 468, 469, 470] (by decide +kernel) (by decide +kernel)) (goodIn_sub (fun _ h => List.mem_append_left _ (List.mem_append_left _ (List.mem_append_right _ h))) (by decide +kernel))) (goodIn_sub (fun _ h => List.mem_append_left _ (List.mem_append_right _ h)) (by decide +kernel))
set_option maxRecDepth 20000 in
theorem gL_law_X4_pass : GoodIn wsL_law (wsV RL 107 RX4 yX4_pass wsX4_pass) := goodIn_app (goodIn_of _ (by decide +kernel)) ggL_law_X4_pass
set_option maxRecDepth 20000 in
theorem ggL_law_X4_copyOf : GoodIn wsL_law wsX4_copyOf := goodIn_ca (goodIn_r _ [423, 16, 20, 128, 129, 2, 130, 131, 132, 239, 240, 241, 19, 242, 155, 55, 156, 84, 85, 30, 86, 45, 459, 460, 461, 462, 463, 464, 465, 466, 467, 468, 469, 470, 471, 472, 473, 474, 475, 476, 477, 478, 479, 480, 481, 487] (by decide +kernel) (by decide +kernel)) (goodIn_sub (fun _ h => List.mem_append_right _ h) (by decide +kernel))
set_option maxRecDepth 20000 in
theorem gL_law_X4_copyOf : GoodIn wsL_law (wsV RL 58 RX4 yX4_copyOf wsX4_copyOf) := goodIn_app (goodIn_of _ (by decide +kernel)) ggL_law_X4_copyOf
set_option maxRecDepth 20000 in
theorem ggL_law_L_pieces : GoodIn wsL_law wsL_pieces := goodIn_ca (goodIn_r _ [426, 427, 428, 429, 2, 430, 20, 128, 129, 130, 131, 132, 311, 186, 187, 19, 188, 58, 156, 84, 85, 30, 86, 45, 459, 460, 461, 471, 472, 473, 474, 475, 476, 477, 478, 479, 480, 481, 487] (by decide +kernel) (by decide +kernel)) (goodIn_sub (fun _ h => List.mem_append_right _ h) (by decide +kernel))
set_option maxRecDepth 20000 in
theorem gL_law_L_pieces : GoodIn wsL_law (va_wsS RL 110 yL_pieces wsL_pieces) := goodIn_app (goodIn_of _ (by decide +kernel)) ggL_law_L_pieces
set_option maxRecDepth 20000 in
theorem ggL_law_X4_offers : GoodIn wsL_law wsX4_offers := goodIn_ca (goodIn_r _ [434, 16, 128, 129, 2, 130, 131, 132, 379, 380, 381, 382, 20, 281, 282, 283, 284, 269, 270, 271, 15, 272, 36, 83, 84, 85, 30, 86, 45, 239, 240, 241, 19, 242, 155, 55, 156, 285, 273, 274, 275, 276, 35, 264, 224, 42, 43, 44, 286, 287, 288, 289, 50, 51, 52, 290, 291, 292, 293, 54, 294, 170, 171, 172, 173, 174, 175, 176, 162, 163, 164, 56, 177, 178, 179, 180, 53, 58, 181, 182, 183, 184, 185, 186, 187, 188, 189, 190, 191, 192, 193, 194, 195, 383, 459, 460, 461, 462, 463, 464, 465, 466, 467, 468, 469, 470, 471, 472, 473, 474, 475, 476, 477, 478, 479, 480, 481, 487] (by decide +kernel) (by decide +kernel)) (goodIn_sub (fun _ h => List.mem_append_right _ h) (by decide +kernel))
set_option maxRecDepth 20000 in
theorem gL_law_X4_offers : GoodIn wsL_law (wsV RL 61 RX4 yX4_offers wsX4_offers) := goodIn_app (goodIn_of _ (by decide +kernel)) ggL_law_X4_offers
set_option maxRecDepth 20000 in
theorem ggL_law_X4_offerAt : GoodIn wsL_law wsX4_offerAt := goodIn_ca (goodIn_r _ [378, 16, 20, 128, 129, 2, 130, 131, 132, 379, 380, 381, 382, 281, 282, 283, 284, 269, 270, 271, 15, 272, 36, 83, 84, 85, 30, 86, 45, 239, 240, 241, 19, 242, 155, 55, 156, 285, 273, 274, 275, 276, 35, 264, 224, 42, 43, 44, 286, 287, 288, 289, 50, 51, 52, 290, 291, 292, 293, 54, 294, 170, 171, 172, 173, 174, 175, 176, 162, 163, 164, 56, 177, 178, 179, 180, 53, 58, 181, 182, 183, 184, 185, 186, 187, 188, 189, 190, 191, 192, 193, 194, 195, 383, 384, 385, 386, 387, 118, 357, 358, 388, 389, 390, 391, 459, 460, 461, 462, 463, 464, 465, 466, 467, 468, 469, 470, 471, 472, 473, 474, 475, 476, 477, 478, 479, 480, 481, 487] (by decide +kernel) (by decide +kernel)) (goodIn_sub (fun _ h => List.mem_append_right _ h) (by decide +kernel))
set_option maxRecDepth 20000 in
theorem gL_law_X4_offerAt : GoodIn wsL_law (wsV RL 33 RX4 yX4_offerAt wsX4_offerAt) := goodIn_app (goodIn_of _ (by decide +kernel)) ggL_law_X4_offerAt
set_option maxRecDepth 20000 in
theorem ggL_law_X4_pieces : GoodIn wsL_law wsX4_pieces := goodIn_ca (goodIn_r _ [430, 20, 128, 129, 2, 130, 131, 132, 311, 186, 187, 19, 188, 58, 156, 84, 85, 30, 86, 45, 459, 460, 461, 471, 472, 473, 474, 475, 476, 477, 478, 479, 480, 481, 487] (by decide +kernel) (by decide +kernel)) (goodIn_sub (fun _ h => List.mem_append_right _ h) (by decide +kernel))
set_option maxRecDepth 20000 in
theorem gL_law_X4_pieces : GoodIn wsL_law (wsV RL 80 RX4 yX4_pieces wsX4_pieces) := goodIn_app (goodIn_of _ (by decide +kernel)) ggL_law_X4_pieces
set_option maxRecDepth 20000 in
theorem ggL_law_L_areTables : GoodIn wsL_law wsL_areTables := goodIn_ca (goodIn_ca (goodIn_ca (goodIn_r _ [437, 400, 401, 402, 2, 403, 16, 128, 129, 130, 131, 132, 404, 405, 406, 15, 407, 105, 32, 83, 84, 85, 30, 86, 45, 408, 409, 410, 411, 412, 413, 414, 415, 226, 227, 228, 229, 230, 231, 232, 233, 234, 235, 236, 237, 238, 20, 239, 240, 241, 19, 242, 155, 55, 156, 243, 244, 245, 246, 36, 96, 97, 98, 99, 100, 247, 248, 249, 250, 106, 107, 108, 109, 251, 252, 253, 254, 82, 255, 256, 257, 258, 33, 259, 214, 215, 216, 217, 218, 219, 220, 31, 221, 222, 223, 224, 42, 43, 44, 225, 174, 175, 260, 261, 262, 263, 35, 264, 34, 265, 266, 267, 268, 269, 270, 271, 272, 273, 274, 275, 276, 277, 278, 279, 280, 281, 282, 283, 284, 285, 286, 287, 288, 289, 50, 51, 52, 290, 291, 292, 293, 54, 294, 170, 171, 172, 173, 176, 162, 163, 164, 56, 177, 178, 179, 180, 53, 58, 181, 182, 183, 184, 185, 186, 187, 188, 189, 190, 191, 192, 193, 194, 195, 295, 296, 297, 298, 299, 300, 301, 302, 57, 119, 303, 304, 305, 306, 307, 308, 309, 310, 91, 92, 93, 94, 95, 311, 312, 313, 314, 315, 316, 317, 318, 319, 320, 321, 322, 323, 161, 324, 325, 326, 327, 328, 329, 24, 330, 331, 332, 333, 334, 335, 336, 337, 338, 339, 340, 341, 342, 343, 344, 23, 345, 64, 66, 67, 138, 346, 347, 348, 349, 350, 351, 352, 68, 353, 354, 355, 356, 143, 144, 145, 146, 65, 357, 358, 359, 360, 361, 362, 363, 364, 365, 366, 367, 368, 369, 370, 371, 372, 373, 374, 375, 376, 377, 378, 379, 380, 381, 382, 383, 384, 385, 386, 387, 118, 388, 389, 390, 391, 392, 393, 394, 395, 396, 397, 398, 399, 420, 421, 422, 423, 431, 432, 433, 434, 74, 75, 76, 77, 78, 79, 80, 81, 459, 460, 461, 462, 463, 464, 465, 466, 467, 468, 469, 470, 487, 471, 472, 473, 474, 475, 476, 477, 478, 479, 480, 481, 482, 483, 484, 485, 486] (by decide +kernel) (by decide +kernel)) (goodIn_sub (fun _ h => List.mem_append_right _ h) (by decide +kernel))) (goodIn_sub (fun _ h => List.mem_append_left _ (List.mem_append_right _ h)) (by decide +kernel))) (goodIn_sub (fun _ h => List.mem_append_left _ (List.mem_append_left _ (List.mem_append_right _ h))) (by decide +kernel))
set_option maxRecDepth 20000 in
theorem gL_law_L_areTables : GoodIn wsL_law (va_wsS RL 113 yL_areTables wsL_areTables) := goodIn_app (goodIn_of _ (by decide +kernel)) ggL_law_L_areTables
set_option maxRecDepth 20000 in
theorem ggL_law_L_areCopies : GoodIn wsL_law wsL_areCopies := goodIn_ca (goodIn_r _ [440, 420, 421, 422, 2, 423, 16, 20, 128, 129, 130, 131, 132, 239, 240, 241, 19, 242, 155, 55, 156, 84, 85, 30, 86, 45, 157, 158, 159, 160, 161, 162, 163, 164, 56, 165, 166, 167, 168, 169, 170, 171, 172, 173, 174, 43, 175, 176, 177, 178, 179, 180, 53, 54, 58, 181, 182, 183, 184, 185, 186, 187, 188, 189, 190, 191, 192, 193, 194, 195, 427, 428, 429, 430, 311, 459, 460, 461, 462, 463, 464, 465, 466, 467, 468, 469, 470, 471, 472, 473, 474, 475, 476, 477, 478, 479, 480, 481, 487] (by decide +kernel) (by decide +kernel)) (goodIn_sub (fun _ h => List.mem_append_right _ h) (by decide +kernel))
set_option maxRecDepth 20000 in
theorem gL_law_L_areCopies : GoodIn wsL_law (va_wsS RL 117 yL_areCopies wsL_areCopies) := goodIn_app (goodIn_of _ (by decide +kernel)) ggL_law_L_areCopies
set_option maxRecDepth 20000 in
theorem ggL_law_L_isWaste : GoodIn wsL_law wsL_isWaste := goodIn_ca (goodIn_r _ [443, 209, 210, 211, 2, 212, 16, 91, 92, 93, 94, 95, 213, 214, 215, 15, 216, 105, 217, 218, 219, 220, 32, 31, 83, 84, 85, 30, 86, 45, 221, 222, 223, 224, 42, 43, 44, 225, 174, 175, 444, 445, 446, 447, 448, 449, 450, 451, 452, 453, 454, 455, 357, 358, 459, 460, 461, 462, 463, 464, 465, 466, 467, 468, 469, 470, 487] (by decide +kernel) (by decide +kernel)) (goodIn_sub (fun _ h => List.mem_append_left _ (List.mem_append_left _ (List.mem_append_right _ h))) (by decide +kernel))
set_option maxRecDepth 20000 in
theorem gL_law_L_isWaste : GoodIn wsL_law (va_wsS RL 121 yL_isWaste wsL_isWaste) := goodIn_app (goodIn_of _ (by decide +kernel)) ggL_law_L_isWaste
set_option maxRecDepth 20000 in
theorem ggL_law_L_areOffers : GoodIn wsL_law wsL_areOffers := goodIn_ca (goodIn_ca (goodIn_ca (goodIn_r _ [458, 431, 432, 433, 2, 434, 16, 128, 129, 130, 131, 132, 379, 380, 381, 382, 20, 281, 282, 283, 284, 269, 270, 271, 15, 272, 36, 83, 84, 85, 30, 86, 45, 239, 240, 241, 19, 242, 155, 55, 156, 285, 273, 274, 275, 276, 35, 264, 224, 42, 43, 44, 286, 287, 288, 289, 50, 51, 52, 290, 291, 292, 293, 54, 294, 170, 171, 172, 173, 174, 175, 176, 162, 163, 164, 56, 177, 178, 179, 180, 53, 58, 181, 182, 183, 184, 185, 186, 187, 188, 189, 190, 191, 192, 193, 194, 195, 383, 226, 227, 228, 229, 230, 231, 232, 233, 234, 235, 236, 237, 238, 243, 244, 245, 246, 96, 97, 98, 99, 100, 247, 248, 249, 250, 105, 32, 106, 107, 108, 109, 251, 252, 253, 254, 82, 255, 256, 257, 258, 33, 259, 214, 215, 216, 217, 218, 219, 220, 31, 221, 222, 223, 225, 260, 261, 262, 263, 34, 265, 266, 267, 268, 277, 278, 279, 280, 295, 296, 297, 298, 299, 300, 301, 302, 57, 119, 303, 304, 305, 306, 307, 308, 309, 310, 91, 92, 93, 94, 95, 311, 312, 313, 314, 315, 316, 317, 318, 319, 320, 321, 322, 323, 161, 324, 325, 326, 327, 328, 329, 24, 330, 331, 332, 333, 334, 335, 336, 337, 338, 339, 340, 341, 342, 343, 344, 23, 345, 64, 66, 67, 138, 346, 347, 348, 349, 350, 351, 352, 68, 353, 354, 355, 356, 143, 144, 145, 146, 65, 357, 358, 359, 360, 361, 362, 363, 364, 365, 366, 367, 368, 369, 370, 371, 372, 373, 374, 375, 376, 377, 378, 384, 385, 386, 387, 118, 388, 389, 390, 391, 392, 393, 394, 395, 396, 397, 398, 399, 165, 166, 167, 168, 169, 459, 460, 461, 462, 463, 464, 465, 466, 467, 468, 469, 470, 471, 472, 473, 474, 475, 476, 477, 478, 479, 480, 481, 487, 482, 483, 484, 485, 486] (by decide +kernel) (by decide +kernel)) (goodIn_sub (fun _ h => List.mem_append_right _ h) (by decide +kernel))) (goodIn_sub (fun _ h => List.mem_append_left _ (List.mem_append_right _ h)) (by decide +kernel))) (goodIn_sub (fun _ h => List.mem_append_left _ (List.mem_append_left _ (List.mem_append_right _ h))) (by decide +kernel))
set_option maxRecDepth 20000 in
theorem gL_law_L_areOffers : GoodIn wsL_law (va_wsS RL 125 yL_areOffers wsL_areOffers) := goodIn_app (goodIn_of _ (by decide +kernel)) ggL_law_L_areOffers
theorem dL_law_0 : decode cL_law 0 = .ok (.new 8, 3) := by decide +kernel
theorem dL_law_3 : decode cL_law 3 = .ok (.dup, 1) := by decide +kernel
theorem dL_law_4 : decode cL_law 4 = .ok (.invokespecial 83, 3) := by decide +kernel
theorem dL_law_7 : decode cL_law 7 = .ok (.astore_n 1, 1) := by decide +kernel
theorem dL_law_8 : decode cL_law 8 = .ok (.bipush 10, 2) := by decide +kernel
theorem dL_law_10 : decode cL_law 10 = .ok (.newarray .int, 2) := by decide +kernel
theorem dL_law_12 : decode cL_law 12 = .ok (.astore_n 2, 1) := by decide +kernel
theorem dL_law_13 : decode cL_law 13 = .ok (.bipush 30, 2) := by decide +kernel
theorem dL_law_15 : decode cL_law 15 = .ok (.newarray .int, 2) := by decide +kernel
theorem dL_law_17 : decode cL_law 17 = .ok (.astore_n 3, 1) := by decide +kernel
theorem dL_law_18 : decode cL_law 18 = .ok (.bipush 30, 2) := by decide +kernel
theorem dL_law_20 : decode cL_law 20 = .ok (.newarray .int, 2) := by decide +kernel
theorem dL_law_22 : decode cL_law 22 = .ok (.astore 4, 2) := by decide +kernel
theorem dL_law_24 : decode cL_law 24 = .ok (.bipush 16, 2) := by decide +kernel
theorem dL_law_26 : decode cL_law 26 = .ok (.newarray .int, 2) := by decide +kernel
theorem dL_law_28 : decode cL_law 28 = .ok (.astore 5, 2) := by decide +kernel
theorem dL_law_30 : decode cL_law 30 = .ok (.bipush 32, 2) := by decide +kernel
theorem dL_law_32 : decode cL_law 32 = .ok (.newarray .int, 2) := by decide +kernel
theorem dL_law_34 : decode cL_law 34 = .ok (.astore 6, 2) := by decide +kernel
theorem dL_law_36 : decode cL_law 36 = .ok (.bipush 24, 2) := by decide +kernel
theorem dL_law_38 : decode cL_law 38 = .ok (.newarray .int, 2) := by decide +kernel
theorem dL_law_40 : decode cL_law 40 = .ok (.astore 7, 2) := by decide +kernel
theorem dL_law_42 : decode cL_law 42 = .ok (.bipush 8, 2) := by decide +kernel
theorem dL_law_44 : decode cL_law 44 = .ok (.newarray .int, 2) := by decide +kernel
theorem dL_law_46 : decode cL_law 46 = .ok (.astore 8, 2) := by decide +kernel
theorem dL_law_48 : decode cL_law 48 = .ok (.iconst 0, 1) := by decide +kernel
theorem dL_law_49 : decode cL_law 49 = .ok (.istore 9, 2) := by decide +kernel
theorem dL_law_51 : decode cL_law 51 = .ok (.iconst 0, 1) := by decide +kernel
theorem dL_law_52 : decode cL_law 52 = .ok (.istore 10, 2) := by decide +kernel
theorem dL_law_54 : decode cL_law 54 = .ok (.iconst 0, 1) := by decide +kernel
theorem dL_law_55 : decode cL_law 55 = .ok (.istore 11, 2) := by decide +kernel
theorem dL_law_57 : decode cL_law 57 = .ok (.iconst 0, 1) := by decide +kernel
theorem dL_law_58 : decode cL_law 58 = .ok (.istore 12, 2) := by decide +kernel
theorem dL_law_60 : decode cL_law 60 = .ok (.aload_n 1, 1) := by decide +kernel
theorem dL_law_61 : decode cL_law 61 = .ok (.invokevirtual 84, 3) := by decide +kernel
theorem dL_law_64 : decode cL_law 64 = .ok (.ifCond .ne 14, 3) := by decide +kernel
theorem dL_law_67 : decode cL_law 67 = .ok (.aload_n 1, 1) := by decide +kernel
theorem dL_law_68 : decode cL_law 68 = .ok (.invokevirtual 64, 3) := by decide +kernel
theorem dL_law_71 : decode cL_law 71 = .ok (.ifCond .ne 7, 3) := by decide +kernel
theorem dL_law_74 : decode cL_law 74 = .ok (.iconst 1, 1) := by decide +kernel
theorem dL_law_75 : decode cL_law 75 = .ok (.goto 4, 3) := by decide +kernel
theorem dL_law_78 : decode cL_law 78 = .ok (.iconst 0, 1) := by decide +kernel
theorem dL_law_79 : decode cL_law 79 = .ok (.istore 13, 2) := by decide +kernel
theorem dL_law_81 : decode cL_law 81 = .ok (.aload_n 0, 1) := by decide +kernel
theorem dL_law_82 : decode cL_law 82 = .ok (.arraylength, 1) := by decide +kernel
theorem dL_law_83 : decode cL_law 83 = .ok (.bipush 40, 2) := by decide +kernel
theorem dL_law_85 : decode cL_law 85 = .ok (.if_icmp .ge 9, 3) := by decide +kernel
theorem dL_law_88 : decode cL_law 88 = .ok (.sipush 150, 3) := by decide +kernel
theorem dL_law_91 : decode cL_law 91 = .ok (.goto 20, 3) := by decide +kernel
theorem dL_law_94 : decode cL_law 94 = .ok (.aload_n 0, 1) := by decide +kernel
theorem dL_law_95 : decode cL_law 95 = .ok (.arraylength, 1) := by decide +kernel
theorem dL_law_96 : decode cL_law 96 = .ok (.bipush 80, 2) := by decide +kernel
theorem dL_law_98 : decode cL_law 98 = .ok (.if_icmp .ge 10, 3) := by decide +kernel
theorem dL_law_101 : decode cL_law 101 = .ok (.iconst 2, 1) := by decide +kernel
theorem dL_law_102 : decode cL_law 102 = .ok (.aload_n 0, 1) := by decide +kernel
theorem dL_law_103 : decode cL_law 103 = .ok (.arraylength, 1) := by decide +kernel
theorem dL_law_104 : decode cL_law 104 = .ok (.imul, 1) := by decide +kernel
theorem dL_law_105 : decode cL_law 105 = .ok (.goto 6, 3) := by decide +kernel
theorem dL_law_108 : decode cL_law 108 = .ok (.sipush 210, 3) := by decide +kernel
theorem dL_law_111 : decode cL_law 111 = .ok (.istore 14, 2) := by decide +kernel
theorem dL_law_113 : decode cL_law 113 = .ok (.iconst 0, 1) := by decide +kernel
theorem dL_law_114 : decode cL_law 114 = .ok (.istore 15, 2) := by decide +kernel
theorem dL_law_116 : decode cL_law 116 = .ok (.iload 15, 2) := by decide +kernel
theorem dL_law_118 : decode cL_law 118 = .ok (.iload 14, 2) := by decide +kernel
theorem dL_law_120 : decode cL_law 120 = .ok (.if_icmp .ge 1842, 3) := by decide +kernel
theorem dL_law_123 : decode cL_law 123 = .ok (.iload 13, 2) := by decide +kernel
theorem dL_law_125 : decode cL_law 125 = .ok (.ifCond .eq 1837, 3) := by decide +kernel
theorem dL_law_128 : decode cL_law 128 = .ok (.iload 15, 2) := by decide +kernel
theorem dL_law_130 : decode cL_law 130 = .ok (.aload_n 0, 1) := by decide +kernel
theorem dL_law_131 : decode cL_law 131 = .ok (.arraylength, 1) := by decide +kernel
theorem dL_law_132 : decode cL_law 132 = .ok (.if_icmp .ge 10, 3) := by decide +kernel
theorem dL_law_135 : decode cL_law 135 = .ok (.aload_n 0, 1) := by decide +kernel
theorem dL_law_136 : decode cL_law 136 = .ok (.iload 15, 2) := by decide +kernel
theorem dL_law_138 : decode cL_law 138 = .ok (.iaload, 1) := by decide +kernel
theorem dL_law_139 : decode cL_law 139 = .ok (.goto 21, 3) := by decide +kernel
theorem dL_law_142 : decode cL_law 142 = .ok (.ldc 87, 2) := by decide +kernel
theorem dL_law_144 : decode cL_law 144 = .ok (.iload 15, 2) := by decide +kernel
theorem dL_law_146 : decode cL_law 146 = .ok (.imul, 1) := by decide +kernel
theorem dL_law_147 : decode cL_law 147 = .ok (.iload 15, 2) := by decide +kernel
theorem dL_law_149 : decode cL_law 149 = .ok (.imul, 1) := by decide +kernel
theorem dL_law_150 : decode cL_law 150 = .ok (.ldc 88, 2) := by decide +kernel
theorem dL_law_152 : decode cL_law 152 = .ok (.iload 15, 2) := by decide +kernel
theorem dL_law_154 : decode cL_law 154 = .ok (.imul, 1) := by decide +kernel
theorem dL_law_155 : decode cL_law 155 = .ok (.iadd, 1) := by decide +kernel
theorem dL_law_156 : decode cL_law 156 = .ok (.sipush 179, 3) := by decide +kernel
theorem dL_law_159 : decode cL_law 159 = .ok (.iadd, 1) := by decide +kernel
theorem dL_law_160 : decode cL_law 160 = .ok (.istore 16, 2) := by decide +kernel
theorem dL_law_162 : decode cL_law 162 = .ok (.iload 16, 2) := by decide +kernel
theorem dL_law_164 : decode cL_law 164 = .ok (.iconst 4, 1) := by decide +kernel
theorem dL_law_165 : decode cL_law 165 = .ok (.ishr, 1) := by decide +kernel
theorem dL_law_166 : decode cL_law 166 = .ok (.ldc 89, 2) := by decide +kernel
theorem dL_law_168 : decode cL_law 168 = .ok (.iand, 1) := by decide +kernel
theorem dL_law_169 : decode cL_law 169 = .ok (.istore 17, 2) := by decide +kernel
theorem dL_law_171 : decode cL_law 171 = .ok (.iload 15, 2) := by decide +kernel
theorem dL_law_173 : decode cL_law 173 = .ok (.iconst 3, 1) := by decide +kernel
theorem dL_law_174 : decode cL_law 174 = .ok (.if_icmp .ge 7, 3) := by decide +kernel
theorem dL_law_177 : decode cL_law 177 = .ok (.iconst 0, 1) := by decide +kernel
theorem dL_law_178 : decode cL_law 178 = .ok (.goto 40, 3) := by decide +kernel
theorem dL_law_181 : decode cL_law 181 = .ok (.iload 15, 2) := by decide +kernel
theorem dL_law_183 : decode cL_law 183 = .ok (.iconst 5, 1) := by decide +kernel
theorem dL_law_184 : decode cL_law 184 = .ok (.if_icmp .ge 7, 3) := by decide +kernel
theorem dL_law_187 : decode cL_law 187 = .ok (.iconst 1, 1) := by decide +kernel
theorem dL_law_188 : decode cL_law 188 = .ok (.goto 30, 3) := by decide +kernel
theorem dL_law_191 : decode cL_law 191 = .ok (.iload 15, 2) := by decide +kernel
theorem dL_law_193 : decode cL_law 193 = .ok (.bipush 9, 2) := by decide +kernel
theorem dL_law_195 : decode cL_law 195 = .ok (.if_icmp .ge 7, 3) := by decide +kernel
theorem dL_law_198 : decode cL_law 198 = .ok (.iconst 2, 1) := by decide +kernel
theorem dL_law_199 : decode cL_law 199 = .ok (.goto 19, 3) := by decide +kernel
theorem dL_law_202 : decode cL_law 202 = .ok (.iload 15, 2) := by decide +kernel
theorem dL_law_204 : decode cL_law 204 = .ok (.bipush 11, 2) := by decide +kernel
theorem dL_law_206 : decode cL_law 206 = .ok (.if_icmp .ge 7, 3) := by decide +kernel
theorem dL_law_209 : decode cL_law 209 = .ok (.iconst 4, 1) := by decide +kernel
theorem dL_law_210 : decode cL_law 210 = .ok (.goto 8, 3) := by decide +kernel
theorem dL_law_213 : decode cL_law 213 = .ok (.iload 16, 2) := by decide +kernel
theorem dL_law_215 : decode cL_law 215 = .ok (.bipush 15, 2) := by decide +kernel
theorem dL_law_217 : decode cL_law 217 = .ok (.iand, 1) := by decide +kernel
theorem dL_law_218 : decode cL_law 218 = .ok (.istore 18, 2) := by decide +kernel
theorem dL_law_220 : decode cL_law 220 = .ok (.iload 10, 2) := by decide +kernel
theorem dL_law_222 : decode cL_law 222 = .ok (.ifCond .ne 7, 3) := by decide +kernel
theorem dL_law_225 : decode cL_law 225 = .ok (.iconst 0, 1) := by decide +kernel
theorem dL_law_226 : decode cL_law 226 = .ok (.goto 8, 3) := by decide +kernel
theorem dL_law_229 : decode cL_law 229 = .ok (.iload 17, 2) := by decide +kernel
theorem dL_law_231 : decode cL_law 231 = .ok (.iload 10, 2) := by decide +kernel
theorem dL_law_233 : decode cL_law 233 = .ok (.irem, 1) := by decide +kernel
theorem dL_law_234 : decode cL_law 234 = .ok (.istore 19, 2) := by decide +kernel
theorem dL_law_236 : decode cL_law 236 = .ok (.iload 11, 2) := by decide +kernel
theorem dL_law_238 : decode cL_law 238 = .ok (.ifCond .ne 7, 3) := by decide +kernel
theorem dL_law_241 : decode cL_law 241 = .ok (.iconst 0, 1) := by decide +kernel
theorem dL_law_242 : decode cL_law 242 = .ok (.goto 8, 3) := by decide +kernel
theorem dL_law_245 : decode cL_law 245 = .ok (.iload 17, 2) := by decide +kernel
theorem dL_law_247 : decode cL_law 247 = .ok (.iload 11, 2) := by decide +kernel
theorem dL_law_249 : decode cL_law 249 = .ok (.irem, 1) := by decide +kernel
theorem dL_law_250 : decode cL_law 250 = .ok (.istore 20, 2) := by decide +kernel
theorem dL_law_252 : decode cL_law 252 = .ok (.iload 12, 2) := by decide +kernel
theorem dL_law_254 : decode cL_law 254 = .ok (.ifCond .ne 7, 3) := by decide +kernel
theorem dL_law_257 : decode cL_law 257 = .ok (.iconst 0, 1) := by decide +kernel
theorem dL_law_258 : decode cL_law 258 = .ok (.goto 8, 3) := by decide +kernel
theorem dL_law_261 : decode cL_law 261 = .ok (.iload 17, 2) := by decide +kernel
theorem dL_law_263 : decode cL_law 263 = .ok (.iload 12, 2) := by decide +kernel
theorem dL_law_265 : decode cL_law 265 = .ok (.irem, 1) := by decide +kernel
theorem dL_law_266 : decode cL_law 266 = .ok (.istore 21, 2) := by decide +kernel
theorem dL_law_268 : decode cL_law 268 = .ok (.iload 17, 2) := by decide +kernel
theorem dL_law_270 : decode cL_law 270 = .ok (.iconst 5, 1) := by decide +kernel
theorem dL_law_271 : decode cL_law 271 = .ok (.ishr, 1) := by decide +kernel
theorem dL_law_272 : decode cL_law 272 = .ok (.iconst 4, 1) := by decide +kernel
theorem dL_law_273 : decode cL_law 273 = .ok (.irem, 1) := by decide +kernel
theorem dL_law_274 : decode cL_law 274 = .ok (.istore 22, 2) := by decide +kernel
theorem dL_law_276 : decode cL_law 276 = .ok (.iload 18, 2) := by decide +kernel
