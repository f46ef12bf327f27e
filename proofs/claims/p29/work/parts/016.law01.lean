set_option maxRecDepth 20000 in
theorem ggL_asks_X4_leave : GoodIn wsL_asks wsX4_leave := goodIn_ca (goodIn_ca (goodIn_r _ [5, 6, 7, 8, 9, 4, 10, 11, 12, 13, 14, 15, 16, 17, 18, 19, 20, 21, 22, 23, 24, 25, 26, 27, 28, 29, 30, 31, 32, 33, 34, 35, 36, 37, 38, 39, 40, 41, 42, 43, 44, 45, 46, 47, 48, 49, 50, 51, 52, 53, 54, 55, 56, 57, 58, 59, 60, 61, 62, 63, 64, 65, 66, 67, 68, 69, 70, 71, 72, 73, 74, 75, 76, 77, 78, 79, 80, 81, 82, 83, 274, 275, 276, 277, 278, 279, 280, 281, 282, 283, 284, 285, 286, 287, 288, 289, 290, 291, 292, 293, 294, 295, 296, 297] (by decide +kernel) (by decide +kernel)) (goodIn_sub (fun _ h => List.mem_cons_of_mem _ (List.mem_append_left _ (List.mem_append_left _ (List.mem_append_right _ h)))) (by decide +kernel))) (goodIn_sub (fun _ h => List.mem_cons_of_mem _ (List.mem_append_left _ (List.mem_append_right _ h))) (by decide +kernel))
set_option maxRecDepth 20000 in
theorem gL_asks_X4_leave : GoodIn wsL_asks (wsV RL 7 RX4 yX4_leave wsX4_leave) := goodIn_app (goodIn_of _ (by decide +kernel)) ggL_asks_X4_leave
set_option maxRecDepth 20000 in
theorem ggL_asks_X4_left : GoodIn wsL_asks wsX4_left := goodIn_ca (goodIn_ca (goodIn_r _ [87, 6, 8, 9, 4, 10, 11, 12, 88, 89, 90, 29, 91, 31, 32, 21, 22, 23, 24, 25, 33, 34, 35, 36, 37, 92, 93, 94, 95, 81, 82, 70, 71, 72, 73, 274, 275, 276, 277, 278, 279, 280, 281, 282, 283, 284, 285, 297] (by decide +kernel) (by decide +kernel)) (goodIn_sub (fun _ h => List.mem_cons_of_mem _ (List.mem_append_left _ (List.mem_append_left _ (List.mem_append_right _ h)))) (by decide +kernel))) (goodIn_sub (fun _ h => List.mem_cons_of_mem _ (List.mem_append_left _ (List.mem_append_right _ h))) (by decide +kernel))
set_option maxRecDepth 20000 in
theorem gL_asks_X4_left : GoodIn wsL_asks (wsV RL 13 RX4 yX4_left wsX4_left) := goodIn_app (goodIn_of _ (by decide +kernel)) ggL_asks_X4_left
set_option maxRecDepth 20000 in
theorem ggL_asks_X4_serve : GoodIn wsL_asks wsX4_serve := goodIn_ca (goodIn_ca (goodIn_r _ [99, 6, 7, 8, 9, 4, 10, 11, 12, 100, 101, 102, 103, 88, 89, 90, 29, 91, 31, 32, 21, 22, 23, 24, 25, 13, 14, 15, 16, 17, 18, 19, 20, 104, 92, 93, 94, 95, 81, 82, 70, 71, 72, 73, 105, 106, 107, 108, 109, 110, 111, 112, 113, 114, 115, 116, 117, 118, 119, 120, 121, 75, 76, 122, 123, 124, 125, 126, 127, 128, 129, 130, 131, 132, 133, 134, 135, 136, 137, 138, 139, 140, 141, 142, 143, 144, 145, 146, 147, 33, 34, 35, 36, 37, 148, 149, 150, 151, 152, 153, 154, 155, 156, 157, 45, 46, 47, 158, 159, 160, 161, 274, 275, 276, 277, 278, 279, 280, 281, 282, 283, 284, 285, 286, 287, 288, 289, 290, 291, 292, 293, 294, 295, 296, 297] (by decide +kernel) (by decide +kernel)) (goodIn_sub (fun _ h => List.mem_cons_of_mem _ (List.mem_append_left _ (List.mem_append_left _ (List.mem_append_right _ h)))) (by decide +kernel))) (goodIn_sub (fun _ h => List.mem_cons_of_mem _ (List.mem_append_left _ (List.mem_append_right _ h))) (by decide +kernel))
set_option maxRecDepth 20000 in
theorem gL_asks_X4_serve : GoodIn wsL_asks (wsV RL 16 RX4 yX4_serve wsX4_serve) := goodIn_app (goodIn_of _ (by decide +kernel)) ggL_asks_X4_serve
set_option maxRecDepth 20000 in
theorem ggL_asks_X4_giveBack : GoodIn wsL_asks wsX4_giveBack := goodIn_ca (goodIn_ca (goodIn_ca (goodIn_r _ [165, 6, 7, 8, 9, 4, 10, 11, 12, 166, 167, 168, 169, 170, 13, 14, 15, 16, 17, 18, 19, 20, 21, 22, 23, 24, 25, 171, 138, 139, 140, 132, 33, 34, 35, 36, 37, 172, 173, 174, 175, 126, 158, 159, 160, 161, 137, 157, 45, 46, 47, 176, 177, 178, 179, 156, 121, 75, 72, 76, 274, 275, 276, 277, 278, 279, 280, 281, 282, 283, 284, 285, 286, 287, 288, 289, 290, 291, 292, 293, 294, 295, 296, 297] (by decide +kernel) (by decide +kernel)) (goodIn_sub (fun _ h => List.mem_cons_of_mem _ (List.mem_append_left _ (List.mem_append_left _ (List.mem_append_right _ h)))) (by decide +kernel))) (goodIn_sub (fun _ h => List.mem_cons_of_mem _ (List.mem_append_right _ h)) (by decide +kernel))) (goodIn_sub (fun _ h => List.mem_cons_of_mem _ (List.mem_append_left _ (List.mem_append_right _ h))) (by decide +kernel))
set_option maxRecDepth 20000 in
theorem gL_asks_X4_giveBack : GoodIn wsL_asks (wsV RL 20 RX4 yX4_giveBack wsX4_giveBack) := goodIn_app (goodIn_of _ (by decide +kernel)) ggL_asks_X4_giveBack
set_option maxRecDepth 20000 in
theorem ggL_asks_X4_found : GoodIn wsL_asks wsX4_found := goodIn_ca (goodIn_ca (goodIn_ca (goodIn_r _ [183, 7, 8, 9, 4, 10, 11, 12, 166, 167, 168, 169, 170, 184, 123, 124, 16, 125, 19, 126, 20, 21, 22, 23, 24, 25, 185, 128, 129, 130, 131, 116, 132, 33, 34, 35, 36, 37, 186, 159, 160, 161, 137, 138, 139, 140, 157, 45, 46, 47, 171, 274, 275, 276, 286, 287, 288, 289, 290, 291, 292, 293, 294, 295, 296, 297] (by decide +kernel) (by decide +kernel)) (goodIn_sub (fun _ h => List.mem_cons_of_mem _ (List.mem_append_left _ (List.mem_append_left _ (List.mem_append_right _ h)))) (by decide +kernel))) (goodIn_sub (fun _ h => List.mem_cons_of_mem _ (List.mem_append_right _ h)) (by decide +kernel))) (goodIn_sub (fun _ h => List.mem_cons_of_mem _ (List.mem_append_left _ (List.mem_append_right _ h))) (by decide +kernel))
set_option maxRecDepth 20000 in
theorem gL_asks_X4_found : GoodIn wsL_asks (wsV RL 24 RX4 yX4_found wsX4_found) := goodIn_app (goodIn_of _ (by decide +kernel)) ggL_asks_X4_found
set_option maxRecDepth 20000 in
theorem ggL_asks_X4_ruling : GoodIn wsL_asks wsX4_ruling := goodIn_ca (goodIn_ca (goodIn_r _ [190, 6, 7, 191, 8, 9, 4, 10, 11, 12, 13, 14, 15, 16, 17, 18, 19, 20, 21, 22, 23, 24, 25, 33, 34, 35, 36, 37, 192, 193, 194, 195, 104, 196, 197, 198, 199, 200, 201, 202, 203, 126, 156, 92, 93, 94, 29, 95, 81, 82, 70, 71, 72, 73, 32, 204, 205, 206, 207, 208, 209, 210, 211, 212, 213, 214, 215, 216, 217, 218, 219, 220, 221, 222, 223, 224, 225, 226, 227, 228, 229, 230, 231, 274, 275, 276, 277, 278, 279, 280, 281, 282, 283, 284, 285, 286, 287, 288, 289, 290, 291, 292, 293, 294, 295, 296, 297, 298, 299, 300, 301, 302] (by decide +kernel) (by decide +kernel)) (goodIn_sub (fun _ h => List.mem_cons_of_mem _ (List.mem_append_left _ (List.mem_append_left _ (List.mem_append_right _ h)))) (by decide +kernel))) (goodIn_sub (fun _ h => List.mem_cons_of_mem _ (List.mem_append_left _ (List.mem_append_right _ h))) (by decide +kernel))
set_option maxRecDepth 20000 in
theorem gL_asks_X4_ruling : GoodIn wsL_asks (wsV RL 27 RX4 yX4_ruling wsX4_ruling) := goodIn_app (goodIn_of _ (by decide +kernel)) ggL_asks_X4_ruling
set_option maxRecDepth 20000 in
theorem ggL_asks_X4_rulingFromBelow : GoodIn wsL_asks wsX4_rulingFromBelow := goodIn_ca (goodIn_ca (goodIn_r _ [235, 6, 7, 191, 8, 9, 4, 10, 11, 12, 13, 14, 15, 16, 17, 18, 19, 20, 21, 22, 23, 24, 25, 33, 34, 35, 36, 37, 192, 193, 194, 195, 104, 196, 197, 198, 199, 200, 201, 202, 203, 126, 156, 92, 93, 94, 29, 95, 81, 82, 70, 71, 72, 73, 32, 204, 205, 206, 207, 208, 209, 210, 211, 212, 213, 214, 215, 236, 237, 238, 239, 220, 240, 241, 242, 243, 244, 245, 246, 247, 225, 226, 227, 228, 229, 230, 231, 274, 275, 276, 277, 278, 279, 280, 281, 282, 283, 284, 285, 286, 287, 288, 289, 290, 291, 292, 293, 294, 295, 296, 297, 298, 299, 300, 301, 302] (by decide +kernel) (by decide +kernel)) (goodIn_sub (fun _ h => List.mem_cons_of_mem _ (List.mem_append_left _ (List.mem_append_left _ (List.mem_append_right _ h)))) (by decide +kernel))) (goodIn_sub (fun _ h => List.mem_cons_of_mem _ (List.mem_append_left _ (List.mem_append_right _ h))) (by decide +kernel))
set_option maxRecDepth 20000 in
theorem gL_asks_X4_rulingFromBelow : GoodIn wsL_asks (wsV RL 30 RX4 yX4_rulingFromBelow wsX4_rulingFromBelow) := goodIn_app (goodIn_of _ (by decide +kernel)) ggL_asks_X4_rulingFromBelow
set_option maxRecDepth 20000 in
theorem ggL_asks_X4_offerAt : GoodIn wsL_asks wsX4_offerAt := goodIn_ca (goodIn_r _ [251, 6, 7, 8, 9, 4, 10, 11, 12, 252, 253, 254, 255, 100, 101, 102, 103, 88, 89, 90, 29, 91, 31, 32, 21, 22, 23, 24, 25, 13, 14, 15, 16, 17, 18, 19, 20, 104, 92, 93, 94, 95, 81, 82, 70, 71, 72, 73, 105, 106, 107, 108, 109, 110, 111, 112, 113, 114, 115, 116, 117, 118, 119, 120, 121, 75, 76, 122, 123, 124, 125, 126, 127, 128, 129, 130, 131, 132, 133, 134, 135, 136, 137, 138, 139, 140, 141, 142, 143, 144, 145, 146, 147, 256, 257, 258, 259, 260, 261, 230, 231, 262, 263, 264, 265, 274, 275, 276, 277, 278, 279, 280, 281, 282, 283, 284, 285, 286, 287, 288, 289, 290, 291, 292, 293, 294, 295, 296, 297] (by decide +kernel) (by decide +kernel)) (goodIn_sub (fun _ h => List.mem_cons_of_mem _ (List.mem_append_left _ (List.mem_append_left _ (List.mem_append_right _ h)))) (by decide +kernel))
set_option maxRecDepth 20000 in
theorem gL_asks_X4_offerAt : GoodIn wsL_asks (wsV RL 33 RX4 yX4_offerAt wsX4_offerAt) := goodIn_app (goodIn_of _ (by decide +kernel)) ggL_asks_X4_offerAt
set_option maxRecDepth 20000 in
theorem ggL_asks_X4_arrive : GoodIn wsL_asks wsX4_arrive := goodIn_ca (goodIn_ca (goodIn_r _ [269, 6, 166, 167, 4, 168, 169, 170, 33, 34, 35, 36, 37, 270, 271, 272, 29, 273, 52, 57, 83, 44, 45, 46, 23, 47, 25, 53, 54, 55, 56, 42, 32, 21, 22, 24, 58, 59, 60, 61, 62, 63, 64, 65, 43, 66, 67, 68, 69, 70, 71, 72, 73, 74, 75, 76, 77, 78, 79, 80, 31, 81, 82, 274, 275, 276, 277, 278, 279, 280, 281, 282, 283, 284, 285, 297] (by decide +kernel) (by decide +kernel)) (goodIn_sub (fun _ h => List.mem_cons_of_mem _ (List.mem_append_right _ h)) (by decide +kernel))) (goodIn_sub (fun _ h => List.mem_cons_of_mem _ (List.mem_append_left _ (List.mem_append_right _ h))) (by decide +kernel))
set_option maxRecDepth 20000 in
theorem gL_asks_X4_arrive : GoodIn wsL_asks (wsV RL 36 RX4 yX4_arrive wsX4_arrive) := goodIn_app (goodIn_of _ (by decide +kernel)) ggL_asks_X4_arrive
theorem dL_asks_0 : decode cL_asks 0 = .ok (.iload_n 1, 1) := by decide +kernel
theorem dL_asks_1 : decode cL_asks 1 = .ok (.ifCond .ne 11, 3) := by decide +kernel
theorem dL_asks_4 : decode cL_asks 4 = .ok (.aload_n 0, 1) := by decide +kernel
theorem dL_asks_5 : decode cL_asks 5 = .ok (.iload_n 2, 1) := by decide +kernel
theorem dL_asks_6 : decode cL_asks 6 = .ok (.invokevirtual 7, 3) := by decide +kernel
theorem dL_asks_9 : decode cL_asks 9 = .ok (.goto 110, 3) := by decide +kernel
theorem dL_asks_12 : decode cL_asks 12 = .ok (.iload_n 1, 1) := by decide +kernel
theorem dL_asks_13 : decode cL_asks 13 = .ok (.iconst 1, 1) := by decide +kernel
theorem dL_asks_14 : decode cL_asks 14 = .ok (.if_icmp .ne 11, 3) := by decide +kernel
theorem dL_asks_17 : decode cL_asks 17 = .ok (.aload_n 0, 1) := by decide +kernel
theorem dL_asks_18 : decode cL_asks 18 = .ok (.iload_n 2, 1) := by decide +kernel
theorem dL_asks_19 : decode cL_asks 19 = .ok (.invokevirtual 13, 3) := by decide +kernel
theorem dL_asks_22 : decode cL_asks 22 = .ok (.goto 97, 3) := by decide +kernel
theorem dL_asks_25 : decode cL_asks 25 = .ok (.iload_n 1, 1) := by decide +kernel
theorem dL_asks_26 : decode cL_asks 26 = .ok (.iconst 2, 1) := by decide +kernel
theorem dL_asks_27 : decode cL_asks 27 = .ok (.if_icmp .ne 12, 3) := by decide +kernel
theorem dL_asks_30 : decode cL_asks 30 = .ok (.aload_n 0, 1) := by decide +kernel
theorem dL_asks_31 : decode cL_asks 31 = .ok (.iload_n 2, 1) := by decide +kernel
theorem dL_asks_32 : decode cL_asks 32 = .ok (.iload_n 3, 1) := by decide +kernel
theorem dL_asks_33 : decode cL_asks 33 = .ok (.invokevirtual 16, 3) := by decide +kernel
theorem dL_asks_36 : decode cL_asks 36 = .ok (.goto 83, 3) := by decide +kernel
theorem dL_asks_39 : decode cL_asks 39 = .ok (.iload_n 1, 1) := by decide +kernel
theorem dL_asks_40 : decode cL_asks 40 = .ok (.iconst 3, 1) := by decide +kernel
theorem dL_asks_41 : decode cL_asks 41 = .ok (.if_icmp .ne 14, 3) := by decide +kernel
theorem dL_asks_44 : decode cL_asks 44 = .ok (.aload_n 0, 1) := by decide +kernel
theorem dL_asks_45 : decode cL_asks 45 = .ok (.iload_n 2, 1) := by decide +kernel
theorem dL_asks_46 : decode cL_asks 46 = .ok (.iload_n 3, 1) := by decide +kernel
theorem dL_asks_47 : decode cL_asks 47 = .ok (.iload 4, 2) := by decide +kernel
theorem dL_asks_49 : decode cL_asks 49 = .ok (.invokevirtual 20, 3) := by decide +kernel
theorem dL_asks_52 : decode cL_asks 52 = .ok (.goto 67, 3) := by decide +kernel
theorem dL_asks_55 : decode cL_asks 55 = .ok (.iload_n 1, 1) := by decide +kernel
theorem dL_asks_56 : decode cL_asks 56 = .ok (.iconst 4, 1) := by decide +kernel
theorem dL_asks_57 : decode cL_asks 57 = .ok (.if_icmp .ne 14, 3) := by decide +kernel
theorem dL_asks_60 : decode cL_asks 60 = .ok (.aload_n 0, 1) := by decide +kernel
theorem dL_asks_61 : decode cL_asks 61 = .ok (.iload_n 2, 1) := by decide +kernel
theorem dL_asks_62 : decode cL_asks 62 = .ok (.iload_n 3, 1) := by decide +kernel
theorem dL_asks_63 : decode cL_asks 63 = .ok (.iload 4, 2) := by decide +kernel
theorem dL_asks_65 : decode cL_asks 65 = .ok (.invokevirtual 24, 3) := by decide +kernel
theorem dL_asks_68 : decode cL_asks 68 = .ok (.goto 51, 3) := by decide +kernel
theorem dL_asks_71 : decode cL_asks 71 = .ok (.iload_n 1, 1) := by decide +kernel
theorem dL_asks_72 : decode cL_asks 72 = .ok (.iconst 5, 1) := by decide +kernel
theorem dL_asks_73 : decode cL_asks 73 = .ok (.if_icmp .ne 11, 3) := by decide +kernel
theorem dL_asks_76 : decode cL_asks 76 = .ok (.aload_n 0, 1) := by decide +kernel
theorem dL_asks_77 : decode cL_asks 77 = .ok (.iload_n 2, 1) := by decide +kernel
theorem dL_asks_78 : decode cL_asks 78 = .ok (.invokevirtual 27, 3) := by decide +kernel
theorem dL_asks_81 : decode cL_asks 81 = .ok (.goto 38, 3) := by decide +kernel
theorem dL_asks_84 : decode cL_asks 84 = .ok (.iload_n 1, 1) := by decide +kernel
theorem dL_asks_85 : decode cL_asks 85 = .ok (.bipush 6, 2) := by decide +kernel
theorem dL_asks_87 : decode cL_asks 87 = .ok (.if_icmp .ne 11, 3) := by decide +kernel
theorem dL_asks_90 : decode cL_asks 90 = .ok (.aload_n 0, 1) := by decide +kernel
theorem dL_asks_91 : decode cL_asks 91 = .ok (.iload_n 2, 1) := by decide +kernel
theorem dL_asks_92 : decode cL_asks 92 = .ok (.invokevirtual 30, 3) := by decide +kernel
theorem dL_asks_95 : decode cL_asks 95 = .ok (.goto 24, 3) := by decide +kernel
theorem dL_asks_98 : decode cL_asks 98 = .ok (.iload_n 1, 1) := by decide +kernel
theorem dL_asks_99 : decode cL_asks 99 = .ok (.bipush 7, 2) := by decide +kernel
theorem dL_asks_101 : decode cL_asks 101 = .ok (.if_icmp .ne 12, 3) := by decide +kernel
theorem dL_asks_104 : decode cL_asks 104 = .ok (.aload_n 0, 1) := by decide +kernel
theorem dL_asks_105 : decode cL_asks 105 = .ok (.iload_n 2, 1) := by decide +kernel
theorem dL_asks_106 : decode cL_asks 106 = .ok (.iload_n 3, 1) := by decide +kernel
theorem dL_asks_107 : decode cL_asks 107 = .ok (.invokevirtual 33, 3) := by decide +kernel
theorem dL_asks_110 : decode cL_asks 110 = .ok (.goto 9, 3) := by decide +kernel
theorem dL_asks_113 : decode cL_asks 113 = .ok (.aload_n 0, 1) := by decide +kernel
theorem dL_asks_114 : decode cL_asks 114 = .ok (.iload_n 2, 1) := by decide +kernel
theorem dL_asks_115 : decode cL_asks 115 = .ok (.iload_n 3, 1) := by decide +kernel
theorem dL_asks_116 : decode cL_asks 116 = .ok (.invokevirtual 36, 3) := by decide +kernel
theorem dL_asks_119 : decode cL_asks 119 = .ok (.ireturn, 1) := by decide +kernel
set_option maxRecDepth 20000 in
theorem ggL_on_L_asks : GoodIn wsL_on wsL_asks := goodIn_ca (goodIn_ca (goodIn_ca (goodIn_r _ [6, 7, 8, 9, 10, 11, 12, 13, 14, 15, 16, 17, 18, 19, 20, 21, 22, 23, 24, 25, 26, 27, 28, 29, 30, 31, 32, 33, 34, 35, 36, 37, 38, 39, 40, 41, 42, 43, 44, 45, 46, 47, 48, 49, 50, 51, 52, 53, 54, 55, 56, 57, 58, 59, 60, 61, 62, 63, 64, 65, 66, 67, 68, 69, 70, 71, 72, 73, 74, 75, 76, 77, 78, 79, 80, 81, 82, 83, 84, 85, 86, 87, 88, 89, 90, 91, 92, 93, 94, 95, 96, 97, 98, 99, 100, 101, 102, 103, 104, 105, 106, 107, 108, 109, 110, 111, 112, 113, 114, 115, 116, 117, 118, 119, 120, 121, 122, 123, 124, 125, 126, 127, 128, 129, 130, 131, 132, 133, 134, 135, 136, 137, 138, 139, 140, 141, 142, 143, 144, 145, 146, 147, 148, 149, 150, 151, 152, 153, 154, 155, 156, 157, 158, 159, 160, 161, 162, 163, 164, 165, 166, 167, 168, 169, 170, 171, 172, 173, 174, 175, 176, 177, 178, 179, 180, 181, 182, 183, 184, 185, 186, 187, 188, 189, 190, 191, 192, 193, 194, 195, 196, 197, 198, 199, 200, 201, 202, 203, 204, 205, 206, 207, 208, 209, 210, 211, 212, 213, 214, 215, 216, 217, 218, 219, 220, 221, 222, 223, 224, 225, 226, 227, 228, 229, 230, 231, 232, 233, 234, 235, 236, 237, 238, 239, 240, 241, 242, 243, 244, 245, 246, 247, 248, 249, 250, 251, 252, 253, 254, 255, 256, 257, 258, 259, 260, 261, 262, 263, 264, 265, 266, 267, 268, 269, 270, 271, 272, 273, 274, 275, 276, 277, 278, 279, 280, 281, 282, 283, 284, 285, 286, 287, 288, 289, 290, 291, 292, 293, 294, 295, 296, 297, 298, 299, 300, 301, 302, 303, 304, 305, 306, 307, 308] (by decide +kernel) (by decide +kernel)) (goodIn_sub (fun _ h => List.mem_cons_of_mem _ (List.mem_append_left _ (List.mem_append_left _ (List.mem_append_right _ h)))) (by decide +kernel))) (goodIn_sub (fun _ h => List.mem_cons_of_mem _ (List.mem_append_left _ (List.mem_append_right _ h))) (by decide +kernel))) (goodIn_sub (fun _ h => List.mem_cons_of_mem _ (List.mem_append_right _ h)) (by decide +kernel))
set_option maxRecDepth 20000 in
theorem gL_on_L_asks : GoodIn wsL_on (va_wsS RL 39 yL_asks wsL_asks) := goodIn_app (goodIn_of _ (by decide +kernel)) ggL_on_L_asks
theorem dL_on_0 : decode cL_on 0 = .ok (.aload_n 0, 1) := by decide +kernel
theorem dL_on_1 : decode cL_on 1 = .ok (.iload_n 1, 1) := by decide +kernel
theorem dL_on_2 : decode cL_on 2 = .ok (.iload_n 2, 1) := by decide +kernel
theorem dL_on_3 : decode cL_on 3 = .ok (.iload_n 3, 1) := by decide +kernel
theorem dL_on_4 : decode cL_on 4 = .ok (.iload 4, 2) := by decide +kernel
theorem dL_on_6 : decode cL_on 6 = .ok (.invokestatic 39, 3) := by decide +kernel
theorem dL_on_9 : decode cL_on 9 = .ok (.ireturn, 1) := by decide +kernel
theorem dL_on_10 : decode cL_on 10 = .ok (.astore 5, 2) := by decide +kernel
theorem dL_on_12 : decode cL_on 12 = .ok (.bipush (-11), 2) := by decide +kernel
theorem dL_on_14 : decode cL_on 14 = .ok (.ireturn, 1) := by decide +kernel
theorem dL_on_15 : decode cL_on 15 = .ok (.astore 5, 2) := by decide +kernel
theorem dL_on_17 : decode cL_on 17 = .ok (.bipush (-13), 2) := by decide +kernel
theorem dL_on_19 : decode cL_on 19 = .ok (.ireturn, 1) := by decide +kernel
set_option maxRecDepth 20000 in
theorem ggL_areTables_X4_tableOf : GoodIn wsL_areTables wsX4_tableOf := goodIn_ca (goodIn_r _ [5, 6, 7, 8, 4, 9, 10, 11, 12, 13, 14, 15, 16, 17, 18, 19, 20, 21, 22, 23, 24, 315, 316, 317, 318, 319, 320, 321, 322, 323, 324, 325, 326, 327] (by decide +kernel) (by decide +kernel)) (goodIn_sub (fun _ h => List.mem_cons_of_mem _ (List.mem_append_left _ (List.mem_append_left _ (List.mem_append_right _ h)))) (by decide +kernel))
set_option maxRecDepth 20000 in
theorem gL_areTables_X4_tableOf : GoodIn wsL_areTables (wsV RL 49 RX4 yX4_tableOf wsX4_tableOf) := goodIn_app (goodIn_of _ (by decide +kernel)) ggL_areTables_X4_tableOf
set_option maxRecDepth 20000 in
theorem ggL_areTables_X4_tablesOf : GoodIn wsL_areTables wsX4_tablesOf := goodIn_ca (goodIn_r _ [28, 6, 7, 8, 4, 9, 10, 11, 29, 30, 31, 15, 32, 17, 18, 19, 20, 21, 22, 23, 24, 315, 316, 317, 318, 319, 320, 321, 322, 323, 324, 325, 326, 327] (by decide +kernel) (by decide +kernel)) (goodIn_sub (fun _ h => List.mem_cons_of_mem _ (List.mem_append_left _ (List.mem_append_left _ (List.mem_append_right _ h)))) (by decide +kernel))
set_option maxRecDepth 20000 in
theorem gL_areTables_X4_tablesOf : GoodIn wsL_areTables (wsV RL 52 RX4 yX4_tablesOf wsX4_tablesOf) := goodIn_app (goodIn_of _ (by decide +kernel)) ggL_areTables_X4_tablesOf
set_option maxRecDepth 20000 in
theorem ggL_areTables_L_on : GoodIn wsL_areTables wsL_on := goodIn_ca (goodIn_ca (goodIn_ca (goodIn_r _ [36, 37, 38, 39, 40, 35, 41, 42, 43, 44, 4, 45, 6, 46, 7, 8, 9, 10, 11, 47, 48, 49, 50, 51, 52, 53, 54, 20, 21, 22, 23, 24, 55, 56, 57, 15, 58, 59, 19, 60, 61, 62, 63, 64, 65, 66, 67, 68, 17, 18, 69, 70, 71, 72, 73, 74, 75, 76, 77, 78, 79, 80, 81, 82, 83, 84, 85, 86, 87, 88, 89, 90, 91, 92, 93, 94, 95, 96, 97, 98, 99, 100, 101, 102, 103, 104, 105, 106, 107, 108, 109, 110, 111, 112, 113, 114, 115, 116, 117, 118, 119, 120, 121, 122, 123, 124, 125, 126, 127, 128, 129, 130, 131, 132, 133, 134, 135, 136, 137, 138, 139, 140, 141, 142, 143, 144, 145, 146, 147, 148, 149, 150, 151, 152, 153, 154, 155, 156, 157, 158, 159, 160, 161, 162, 163, 164, 165, 166, 167, 168, 169, 170, 171, 172, 173, 174, 175, 176, 177, 178, 179, 180, 181, 182, 183, 184, 185, 186, 187, 188, 189, 190, 191, 192, 193, 194, 195, 196, 197, 198, 199, 200, 201, 202, 203, 204, 205, 206, 207, 208, 209, 210, 211, 212, 213, 214, 215, 216, 217, 218, 219, 220, 221, 222, 223, 224, 225, 226, 227, 228, 229, 230, 231, 232, 233, 234, 235, 236, 237, 238, 239, 240, 241, 242, 243, 244, 245, 246, 247, 248, 249, 250, 251, 252, 253, 254, 255, 256, 257, 258, 259, 260, 261, 262, 263, 264, 265, 266, 267, 268, 269, 270, 271, 272, 273, 274, 275, 276, 277, 278, 279, 280, 281, 282, 283, 284, 285, 286, 287, 288, 289, 290, 291, 292, 293, 294, 295, 296, 297, 298, 315, 316, 317, 318, 319, 320, 321, 322, 323, 324, 325, 326, 328, 329, 330, 331, 332, 333, 334, 335, 336, 337, 338, 327, 339, 340, 341, 342, 343] (by decide +kernel) (by decide +kernel)) (goodIn_sub (fun _ h => List.mem_cons_of_mem _ (List.mem_append_left _ (List.mem_append_left _ (List.mem_append_right _ h)))) (by decide +kernel))) (goodIn_sub (fun _ h => List.mem_cons_of_mem _ (List.mem_append_left _ (List.mem_append_right _ h))) (by decide +kernel))) (goodIn_sub (fun _ h => List.mem_cons_of_mem _ (List.mem_append_right _ h)) (by decide +kernel))
set_option maxRecDepth 20000 in
theorem gL_areTables_L_on : GoodIn wsL_areTables (va_wsS RL 55 yL_on wsL_on) := goodIn_app (goodIn_of _ (by decide +kernel)) ggL_areTables_L_on
set_option maxRecDepth 20000 in
theorem ggL_areTables_X4_copyOf : GoodIn wsL_areTables wsX4_copyOf := goodIn_ca (goodIn_r _ [302, 6, 46, 7, 8, 4, 9, 10, 11, 47, 48, 49, 50, 51, 52, 53, 54, 20, 21, 22, 23, 24, 315, 316, 317, 318, 319, 320, 321, 322, 323, 324, 325, 326, 328, 329, 330, 331, 332, 333, 334, 335, 336, 337, 338, 327] (by decide +kernel) (by decide +kernel)) (goodIn_sub (fun _ h => List.mem_cons_of_mem _ (List.mem_append_left _ (List.mem_append_left _ (List.mem_append_right _ h)))) (by decide +kernel))
set_option maxRecDepth 20000 in
theorem gL_areTables_X4_copyOf : GoodIn wsL_areTables (wsV RL 58 RX4 yX4_copyOf wsX4_copyOf) := goodIn_app (goodIn_of _ (by decide +kernel)) ggL_areTables_X4_copyOf
set_option maxRecDepth 20000 in
theorem ggL_areTables_X4_offers : GoodIn wsL_areTables wsX4_offers := goodIn_ca (goodIn_r _ [306, 6, 7, 8, 4, 9, 10, 11, 277, 278, 279, 280, 46, 125, 126, 127, 128, 113, 114, 115, 15, 116, 59, 19, 20, 21, 22, 23, 24, 47, 48, 49, 50, 51, 52, 53, 54, 129, 117, 118, 119, 120, 106, 107, 95, 96, 97, 98, 130, 131, 132, 133, 134, 135, 136, 137, 138, 139, 140, 141, 142, 143, 144, 145, 146, 100, 101, 147, 148, 149, 150, 151, 152, 153, 154, 155, 156, 157, 158, 159, 160, 161, 162, 163, 164, 165, 166, 167, 168, 169, 170, 171, 172, 281, 315, 316, 317, 318, 319, 320, 321, 322, 323, 324, 325, 326, 328, 329, 330, 331, 332, 333, 334, 335, 336, 337, 338, 327] (by decide +kernel) (by decide +kernel)) (goodIn_sub (fun _ h => List.mem_cons_of_mem _ (List.mem_append_left _ (List.mem_append_left _ (List.mem_append_right _ h)))) (by decide +kernel))
set_option maxRecDepth 20000 in
theorem gL_areTables_X4_offers : GoodIn wsL_areTables (wsV RL 61 RX4 yX4_offers wsX4_offers) := goodIn_app (goodIn_of _ (by decide +kernel)) ggL_areTables_X4_offers
set_option maxRecDepth 20000 in
theorem ggL_areTables_X4_waiting : GoodIn wsL_areTables wsX4_waiting := goodIn_r _ [310, 6, 311, 312, 313, 15, 314, 77, 59, 19, 20, 21, 22, 23, 24, 315, 316, 317, 318, 319, 320, 321, 322, 323, 324, 325, 326, 327] (by decide +kernel) (by decide +kernel)
set_option maxRecDepth 20000 in
theorem gL_areTables_X4_waiting : GoodIn wsL_areTables (wsV RL 64 RX4 yX4_waiting wsX4_waiting) := goodIn_app (goodIn_of _ (by decide +kernel)) ggL_areTables_X4_waiting
theorem dL_areTables_0 : decode cL_areTables 0 = .ok (.iconst 0, 1) := by decide +kernel
theorem dL_areTables_1 : decode cL_areTables 1 = .ok (.istore 5, 2) := by decide +kernel
theorem dL_areTables_3 : decode cL_areTables 3 = .ok (.iconst 0, 1) := by decide +kernel
theorem dL_areTables_4 : decode cL_areTables 4 = .ok (.istore 6, 2) := by decide +kernel
theorem dL_areTables_6 : decode cL_areTables 6 = .ok (.iconst 1, 1) := by decide +kernel
theorem dL_areTables_7 : decode cL_areTables 7 = .ok (.istore 7, 2) := by decide +kernel
theorem dL_areTables_9 : decode cL_areTables 9 = .ok (.iconst 0, 1) := by decide +kernel
theorem dL_areTables_10 : decode cL_areTables 10 = .ok (.istore 8, 2) := by decide +kernel
theorem dL_areTables_12 : decode cL_areTables 12 = .ok (.iload 8, 2) := by decide +kernel
theorem dL_areTables_14 : decode cL_areTables 14 = .ok (.iload 4, 2) := by decide +kernel
theorem dL_areTables_16 : decode cL_areTables 16 = .ok (.if_icmp .ge 228, 3) := by decide +kernel
theorem dL_areTables_19 : decode cL_areTables 19 = .ok (.iload 7, 2) := by decide +kernel
theorem dL_areTables_21 : decode cL_areTables 21 = .ok (.ifCond .eq 223, 3) := by decide +kernel
theorem dL_areTables_24 : decode cL_areTables 24 = .ok (.aload_n 0, 1) := by decide +kernel
theorem dL_areTables_25 : decode cL_areTables 25 = .ok (.iload 8, 2) := by decide +kernel
theorem dL_areTables_27 : decode cL_areTables 27 = .ok (.invokevirtual 49, 3) := by decide +kernel
theorem dL_areTables_30 : decode cL_areTables 30 = .ok (.istore 9, 2) := by decide +kernel
theorem dL_areTables_32 : decode cL_areTables 32 = .ok (.aload_n 0, 1) := by decide +kernel
theorem dL_areTables_33 : decode cL_areTables 33 = .ok (.iload 8, 2) := by decide +kernel
theorem dL_areTables_35 : decode cL_areTables 35 = .ok (.invokevirtual 52, 3) := by decide +kernel
theorem dL_areTables_38 : decode cL_areTables 38 = .ok (.istore 10, 2) := by decide +kernel
theorem dL_areTables_40 : decode cL_areTables 40 = .ok (.iconst 1, 1) := by decide +kernel
theorem dL_areTables_41 : decode cL_areTables 41 = .ok (.iload 10, 2) := by decide +kernel
theorem dL_areTables_43 : decode cL_areTables 43 = .ok (.isub, 1) := by decide +kernel
theorem dL_areTables_44 : decode cL_areTables 44 = .ok (.istore 11, 2) := by decide +kernel
theorem dL_areTables_46 : decode cL_areTables 46 = .ok (.iload 9, 2) := by decide +kernel
theorem dL_areTables_48 : decode cL_areTables 48 = .ok (.istore 12, 2) := by decide +kernel
theorem dL_areTables_50 : decode cL_areTables 50 = .ok (.iload 12, 2) := by decide +kernel
theorem dL_areTables_52 : decode cL_areTables 52 = .ok (.iload 9, 2) := by decide +kernel
theorem dL_areTables_54 : decode cL_areTables 54 = .ok (.iload 10, 2) := by decide +kernel
theorem dL_areTables_56 : decode cL_areTables 56 = .ok (.iadd, 1) := by decide +kernel
theorem dL_areTables_57 : decode cL_areTables 57 = .ok (.if_icmp .ge 49, 3) := by decide +kernel
theorem dL_areTables_60 : decode cL_areTables 60 = .ok (.iload 7, 2) := by decide +kernel
theorem dL_areTables_62 : decode cL_areTables 62 = .ok (.ifCond .eq 17, 3) := by decide +kernel
theorem dL_areTables_65 : decode cL_areTables 65 = .ok (.iload 5, 2) := by decide +kernel
theorem dL_areTables_67 : decode cL_areTables 67 = .ok (.iload 12, 2) := by decide +kernel
theorem dL_areTables_69 : decode cL_areTables 69 = .ok (.ishr, 1) := by decide +kernel
theorem dL_areTables_70 : decode cL_areTables 70 = .ok (.iconst 1, 1) := by decide +kernel
theorem dL_areTables_71 : decode cL_areTables 71 = .ok (.iand, 1) := by decide +kernel
theorem dL_areTables_72 : decode cL_areTables 72 = .ok (.ifCond .ne 7, 3) := by decide +kernel
theorem dL_areTables_75 : decode cL_areTables 75 = .ok (.iconst 1, 1) := by decide +kernel
theorem dL_areTables_76 : decode cL_areTables 76 = .ok (.goto 4, 3) := by decide +kernel
theorem dL_areTables_79 : decode cL_areTables 79 = .ok (.iconst 0, 1) := by decide +kernel
theorem dL_areTables_80 : decode cL_areTables 80 = .ok (.istore 7, 2) := by decide +kernel
theorem dL_areTables_82 : decode cL_areTables 82 = .ok (.iload 5, 2) := by decide +kernel
theorem dL_areTables_84 : decode cL_areTables 84 = .ok (.iconst 1, 1) := by decide +kernel
theorem dL_areTables_85 : decode cL_areTables 85 = .ok (.iload 12, 2) := by decide +kernel
theorem dL_areTables_87 : decode cL_areTables 87 = .ok (.ishl, 1) := by decide +kernel
theorem dL_areTables_88 : decode cL_areTables 88 = .ok (.ior, 1) := by decide +kernel
theorem dL_areTables_89 : decode cL_areTables 89 = .ok (.istore 5, 2) := by decide +kernel
theorem dL_areTables_91 : decode cL_areTables 91 = .ok (.iload 11, 2) := by decide +kernel
theorem dL_areTables_93 : decode cL_areTables 93 = .ok (.aload_n 1, 1) := by decide +kernel
theorem dL_areTables_94 : decode cL_areTables 94 = .ok (.iload 12, 2) := by decide +kernel
theorem dL_areTables_96 : decode cL_areTables 96 = .ok (.iaload, 1) := by decide +kernel
theorem dL_areTables_97 : decode cL_areTables 97 = .ok (.iadd, 1) := by decide +kernel
theorem dL_areTables_98 : decode cL_areTables 98 = .ok (.istore 11, 2) := by decide +kernel
theorem dL_areTables_100 : decode cL_areTables 100 = .ok (.iinc 12 1, 3) := by decide +kernel
theorem dL_areTables_103 : decode cL_areTables 103 = .ok (.goto (-53), 3) := by decide +kernel
theorem dL_areTables_106 : decode cL_areTables 106 = .ok (.iload 6, 2) := by decide +kernel
theorem dL_areTables_108 : decode cL_areTables 108 = .ok (.iload 9, 2) := by decide +kernel
theorem dL_areTables_110 : decode cL_areTables 110 = .ok (.ifCond .ge 14, 3) := by decide +kernel
theorem dL_areTables_113 : decode cL_areTables 113 = .ok (.aload_n 3, 1) := by decide +kernel
theorem dL_areTables_114 : decode cL_areTables 114 = .ok (.iload 8, 2) := by decide +kernel
theorem dL_areTables_116 : decode cL_areTables 116 = .ok (.iaload, 1) := by decide +kernel
theorem dL_areTables_117 : decode cL_areTables 117 = .ok (.ifCond .ne 7, 3) := by decide +kernel
theorem dL_areTables_120 : decode cL_areTables 120 = .ok (.iconst 1, 1) := by decide +kernel
theorem dL_areTables_121 : decode cL_areTables 121 = .ok (.goto 4, 3) := by decide +kernel
theorem dL_areTables_124 : decode cL_areTables 124 = .ok (.iconst 0, 1) := by decide +kernel
theorem dL_areTables_125 : decode cL_areTables 125 = .ok (.iadd, 1) := by decide +kernel
theorem dL_areTables_126 : decode cL_areTables 126 = .ok (.istore 6, 2) := by decide +kernel
theorem dL_areTables_128 : decode cL_areTables 128 = .ok (.iload 7, 2) := by decide +kernel
theorem dL_areTables_130 : decode cL_areTables 130 = .ok (.ifCond .eq 105, 3) := by decide +kernel
theorem dL_areTables_133 : decode cL_areTables 133 = .ok (.iload 9, 2) := by decide +kernel
theorem dL_areTables_135 : decode cL_areTables 135 = .ok (.ifCond .ge 7, 3) := by decide +kernel
theorem dL_areTables_138 : decode cL_areTables 138 = .ok (.iconst 1, 1) := by decide +kernel
theorem dL_areTables_139 : decode cL_areTables 139 = .ok (.goto 4, 3) := by decide +kernel
theorem dL_areTables_142 : decode cL_areTables 142 = .ok (.iconst 0, 1) := by decide +kernel
theorem dL_areTables_143 : decode cL_areTables 143 = .ok (.iload 10, 2) := by decide +kernel
theorem dL_areTables_145 : decode cL_areTables 145 = .ok (.ifCond .ne 7, 3) := by decide +kernel
theorem dL_areTables_148 : decode cL_areTables 148 = .ok (.iconst 1, 1) := by decide +kernel
theorem dL_areTables_149 : decode cL_areTables 149 = .ok (.goto 4, 3) := by decide +kernel
theorem dL_areTables_152 : decode cL_areTables 152 = .ok (.iconst 0, 1) := by decide +kernel
theorem dL_areTables_153 : decode cL_areTables 153 = .ok (.if_icmp .ne 82, 3) := by decide +kernel
theorem dL_areTables_156 : decode cL_areTables 156 = .ok (.iload 9, 2) := by decide +kernel
theorem dL_areTables_158 : decode cL_areTables 158 = .ok (.ifCond .lt 19, 3) := by decide +kernel
theorem dL_areTables_161 : decode cL_areTables 161 = .ok (.iload 11, 2) := by decide +kernel
theorem dL_areTables_163 : decode cL_areTables 163 = .ok (.aload_n 2, 1) := by decide +kernel
theorem dL_areTables_164 : decode cL_areTables 164 = .ok (.iload 8, 2) := by decide +kernel
theorem dL_areTables_166 : decode cL_areTables 166 = .ok (.iaload, 1) := by decide +kernel
theorem dL_areTables_167 : decode cL_areTables 167 = .ok (.if_icmp .lt 68, 3) := by decide +kernel
theorem dL_areTables_170 : decode cL_areTables 170 = .ok (.aload_n 3, 1) := by decide +kernel
theorem dL_areTables_171 : decode cL_areTables 171 = .ok (.iload 8, 2) := by decide +kernel
theorem dL_areTables_173 : decode cL_areTables 173 = .ok (.iaload, 1) := by decide +kernel
theorem dL_areTables_174 : decode cL_areTables 174 = .ok (.ifCond .ne 61, 3) := by decide +kernel
theorem dL_areTables_177 : decode cL_areTables 177 = .ok (.iload 9, 2) := by decide +kernel
theorem dL_areTables_179 : decode cL_areTables 179 = .ok (.ifCond .lt 7, 3) := by decide +kernel
theorem dL_areTables_182 : decode cL_areTables 182 = .ok (.iconst 1, 1) := by decide +kernel
theorem dL_areTables_183 : decode cL_areTables 183 = .ok (.goto 4, 3) := by decide +kernel
theorem dL_areTables_186 : decode cL_areTables 186 = .ok (.iconst 0, 1) := by decide +kernel
theorem dL_areTables_187 : decode cL_areTables 187 = .ok (.aload_n 0, 1) := by decide +kernel
theorem dL_areTables_188 : decode cL_areTables 188 = .ok (.iconst 1, 1) := by decide +kernel
theorem dL_areTables_189 : decode cL_areTables 189 = .ok (.iload 8, 2) := by decide +kernel
theorem dL_areTables_191 : decode cL_areTables 191 = .ok (.iconst 0, 1) := by decide +kernel
theorem dL_areTables_192 : decode cL_areTables 192 = .ok (.iconst 0, 1) := by decide +kernel
theorem dL_areTables_193 : decode cL_areTables 193 = .ok (.invokestatic 55, 3) := by decide +kernel
theorem dL_areTables_196 : decode cL_areTables 196 = .ok (.ifCond .lt 7, 3) := by decide +kernel
theorem dL_areTables_199 : decode cL_areTables 199 = .ok (.iconst 1, 1) := by decide +kernel
theorem dL_areTables_200 : decode cL_areTables 200 = .ok (.goto 4, 3) := by decide +kernel
theorem dL_areTables_203 : decode cL_areTables 203 = .ok (.iconst 0, 1) := by decide +kernel
theorem dL_areTables_204 : decode cL_areTables 204 = .ok (.if_icmp .ne 31, 3) := by decide +kernel
theorem dL_areTables_207 : decode cL_areTables 207 = .ok (.iload 9, 2) := by decide +kernel
theorem dL_areTables_209 : decode cL_areTables 209 = .ok (.ifCond .ge 22, 3) := by decide +kernel
theorem dL_areTables_212 : decode cL_areTables 212 = .ok (.aload_n 0, 1) := by decide +kernel
theorem dL_areTables_213 : decode cL_areTables 213 = .ok (.iload 8, 2) := by decide +kernel
theorem dL_areTables_215 : decode cL_areTables 215 = .ok (.invokevirtual 58, 3) := by decide +kernel
theorem dL_areTables_218 : decode cL_areTables 218 = .ok (.iconst (-1), 1) := by decide +kernel
theorem dL_areTables_219 : decode cL_areTables 219 = .ok (.if_icmp .ne 16, 3) := by decide +kernel
theorem dL_areTables_222 : decode cL_areTables 222 = .ok (.aload_n 0, 1) := by decide +kernel
theorem dL_areTables_223 : decode cL_areTables 223 = .ok (.iload 8, 2) := by decide +kernel
theorem dL_areTables_225 : decode cL_areTables 225 = .ok (.invokevirtual 61, 3) := by decide +kernel
theorem dL_areTables_228 : decode cL_areTables 228 = .ok (.ifCond .ne 7, 3) := by decide +kernel
theorem dL_areTables_231 : decode cL_areTables 231 = .ok (.iconst 1, 1) := by decide +kernel
theorem dL_areTables_232 : decode cL_areTables 232 = .ok (.goto 4, 3) := by decide +kernel
theorem dL_areTables_235 : decode cL_areTables 235 = .ok (.iconst 0, 1) := by decide +kernel
theorem dL_areTables_236 : decode cL_areTables 236 = .ok (.istore 7, 2) := by decide +kernel
theorem dL_areTables_238 : decode cL_areTables 238 = .ok (.iinc 8 1, 3) := by decide +kernel
theorem dL_areTables_241 : decode cL_areTables 241 = .ok (.goto (-229), 3) := by decide +kernel
theorem dL_areTables_244 : decode cL_areTables 244 = .ok (.iload 7, 2) := by decide +kernel
theorem dL_areTables_246 : decode cL_areTables 246 = .ok (.ifCond .eq 16, 3) := by decide +kernel
theorem dL_areTables_249 : decode cL_areTables 249 = .ok (.aload_n 0, 1) := by decide +kernel
theorem dL_areTables_250 : decode cL_areTables 250 = .ok (.invokevirtual 64, 3) := by decide +kernel
theorem dL_areTables_253 : decode cL_areTables 253 = .ok (.iload 6, 2) := by decide +kernel
theorem dL_areTables_255 : decode cL_areTables 255 = .ok (.if_icmp .ne 7, 3) := by decide +kernel
theorem dL_areTables_258 : decode cL_areTables 258 = .ok (.iconst 1, 1) := by decide +kernel
theorem dL_areTables_259 : decode cL_areTables 259 = .ok (.goto 4, 3) := by decide +kernel
theorem dL_areTables_262 : decode cL_areTables 262 = .ok (.iconst 0, 1) := by decide +kernel
theorem dL_areTables_263 : decode cL_areTables 263 = .ok (.ireturn, 1) := by decide +kernel
set_option maxRecDepth 20000 in
theorem ggL_isWaste_X4_waste : GoodIn wsL_isWaste wsX4_waste := goodIn_ca (goodIn_r _ [5, 6, 7, 8, 4, 9, 10, 11, 12, 13, 14, 15, 16, 17, 18, 19, 20, 21, 22, 23, 24, 25, 26, 27, 28, 29, 30, 31, 32, 33, 34, 35, 36, 37, 38, 39, 54, 55, 56, 57, 58, 59, 60, 61, 62, 63, 64, 65, 66] (by decide +kernel) (by decide +kernel)) (goodIn_sub (fun _ h => List.mem_cons_of_mem _ (List.mem_append_right _ h)) (by decide +kernel))
set_option maxRecDepth 20000 in
theorem gL_isWaste_X4_waste : GoodIn wsL_isWaste (wsV RL 68 RX4 yX4_waste wsX4_waste) := goodIn_app (goodIn_of _ (by decide +kernel)) ggL_isWaste_X4_waste
set_option maxRecDepth 20000 in
theorem ggL_isWaste_X4_wasteByAll : GoodIn wsL_isWaste wsX4_wasteByAll := goodIn_ca (goodIn_r _ [43, 6, 7, 8, 4, 9, 10, 11, 44, 45, 46, 15, 47, 17, 48, 49, 50, 51, 22, 23, 52, 53, 24, 25, 26, 27, 28, 29, 30, 31, 32, 33, 34, 35, 36, 37, 38, 39, 54, 55, 56, 57, 58, 59, 60, 61, 62, 63, 64, 65, 66] (by decide +kernel) (by decide +kernel)) (goodIn_sub (fun _ h => List.mem_cons_of_mem _ (List.mem_append_right _ h)) (by decide +kernel))
set_option maxRecDepth 20000 in
theorem gL_isWaste_X4_wasteByAll : GoodIn wsL_isWaste (wsV RL 71 RX4 yX4_wasteByAll wsX4_wasteByAll) := goodIn_app (goodIn_of _ (by decide +kernel)) ggL_isWaste_X4_wasteByAll
theorem dL_isWaste_0 : decode cL_isWaste 0 = .ok (.aload_n 0, 1) := by decide +kernel
theorem dL_isWaste_1 : decode cL_isWaste 1 = .ok (.iload_n 1, 1) := by decide +kernel
theorem dL_isWaste_2 : decode cL_isWaste 2 = .ok (.invokevirtual 68, 3) := by decide +kernel
theorem dL_isWaste_5 : decode cL_isWaste 5 = .ok (.istore_n 2, 1) := by decide +kernel
theorem dL_isWaste_6 : decode cL_isWaste 6 = .ok (.iload_n 1, 1) := by decide +kernel
theorem dL_isWaste_7 : decode cL_isWaste 7 = .ok (.bipush 12, 2) := by decide +kernel
theorem dL_isWaste_9 : decode cL_isWaste 9 = .ok (.if_icmp .ne 7, 3) := by decide +kernel
theorem dL_isWaste_12 : decode cL_isWaste 12 = .ok (.iconst (-1), 1) := by decide +kernel
theorem dL_isWaste_13 : decode cL_isWaste 13 = .ok (.goto 10, 3) := by decide +kernel
theorem dL_isWaste_16 : decode cL_isWaste 16 = .ok (.aload_n 0, 1) := by decide +kernel
theorem dL_isWaste_17 : decode cL_isWaste 17 = .ok (.iload_n 1, 1) := by decide +kernel
theorem dL_isWaste_18 : decode cL_isWaste 18 = .ok (.iconst 1, 1) := by decide +kernel
