set_option maxRecDepth 20000 in
theorem gL_giveBack_X4_giveBack : GoodIn wsL_giveBack (wsV RL 64 RX4 yX4_giveBack wsX4_giveBack) := goodIn_app (goodIn_of _ (by decide +kernel)) ggL_giveBack_X4_giveBack
theorem dL_giveBack_0 : decode cL_giveBack 0 = .ok (.aload 4, 2) := by decide +kernel
theorem dL_giveBack_2 : decode cL_giveBack 2 = .ok (.iconst 0, 1) := by decide +kernel
theorem dL_giveBack_3 : decode cL_giveBack 3 = .ok (.aload_n 0, 1) := by decide +kernel
theorem dL_giveBack_4 : decode cL_giveBack 4 = .ok (.iload_n 1, 1) := by decide +kernel
theorem dL_giveBack_5 : decode cL_giveBack 5 = .ok (.iload_n 2, 1) := by decide +kernel
theorem dL_giveBack_6 : decode cL_giveBack 6 = .ok (.iload_n 3, 1) := by decide +kernel
theorem dL_giveBack_7 : decode cL_giveBack 7 = .ok (.invokevirtual 64, 3) := by decide +kernel
theorem dL_giveBack_10 : decode cL_giveBack 10 = .ok (.i2l, 1) := by decide +kernel
theorem dL_giveBack_11 : decode cL_giveBack 11 = .ok (.lastore, 1) := by decide +kernel
theorem dL_giveBack_12 : decode cL_giveBack 12 = .ok (.goto 15, 3) := by decide +kernel
theorem dL_giveBack_15 : decode cL_giveBack 15 = .ok (.astore 5, 2) := by decide +kernel
theorem dL_giveBack_17 : decode cL_giveBack 17 = .ok (.iconst 1, 1) := by decide +kernel
theorem dL_giveBack_18 : decode cL_giveBack 18 = .ok (.ireturn, 1) := by decide +kernel
theorem dL_giveBack_19 : decode cL_giveBack 19 = .ok (.astore 5, 2) := by decide +kernel
theorem dL_giveBack_21 : decode cL_giveBack 21 = .ok (.iconst 2, 1) := by decide +kernel
theorem dL_giveBack_22 : decode cL_giveBack 22 = .ok (.ireturn, 1) := by decide +kernel
theorem dL_giveBack_23 : decode cL_giveBack 23 = .ok (.astore 5, 2) := by decide +kernel
theorem dL_giveBack_25 : decode cL_giveBack 25 = .ok (.iconst 3, 1) := by decide +kernel
theorem dL_giveBack_26 : decode cL_giveBack 26 = .ok (.ireturn, 1) := by decide +kernel
theorem dL_giveBack_27 : decode cL_giveBack 27 = .ok (.iconst 0, 1) := by decide +kernel
theorem dL_giveBack_28 : decode cL_giveBack 28 = .ok (.ireturn, 1) := by decide +kernel
set_option maxRecDepth 20000 in
theorem ggL_found_X4_found : GoodIn wsL_found wsX4_found := goodIn_ca (goodIn_ca (goodIn_ca (goodIn_r _ [8, 9, 10, 11, 7, 12, 13, 14, 15, 16, 17, 18, 19, 20, 21, 22, 23, 24, 25, 26, 27, 28, 29, 30, 31, 32, 33, 34, 35, 36, 37, 38, 39, 40, 41, 42, 43, 44, 45, 46, 47, 48, 49, 50, 51, 52, 53, 54, 55, 56, 57, 58, 59, 60, 61, 62, 63, 64, 65, 66, 67, 68, 69, 70, 71, 72] (by decide +kernel) (by decide +kernel)) (goodIn_sub (fun _ h => List.mem_cons_of_mem _ (List.mem_append_left _ (List.mem_append_left _ (List.mem_append_right _ h)))) (by decide +kernel))) (goodIn_sub (fun _ h => List.mem_cons_of_mem _ (List.mem_append_left _ (List.mem_append_right _ h))) (by decide +kernel))) (goodIn_sub (fun _ h => List.mem_cons_of_mem _ (List.mem_append_right _ h)) (by decide +kernel))
set_option maxRecDepth 20000 in
theorem gL_found_X4_found : GoodIn wsL_found (wsV RL 68 RX4 yX4_found wsX4_found) := goodIn_app (goodIn_of _ (by decide +kernel)) ggL_found_X4_found
theorem dL_found_0 : decode cL_found 0 = .ok (.aload 4, 2) := by decide +kernel
theorem dL_found_2 : decode cL_found 2 = .ok (.iconst 0, 1) := by decide +kernel
theorem dL_found_3 : decode cL_found 3 = .ok (.aload_n 0, 1) := by decide +kernel
theorem dL_found_4 : decode cL_found 4 = .ok (.iload_n 1, 1) := by decide +kernel
theorem dL_found_5 : decode cL_found 5 = .ok (.iload_n 2, 1) := by decide +kernel
theorem dL_found_6 : decode cL_found 6 = .ok (.iload_n 3, 1) := by decide +kernel
theorem dL_found_7 : decode cL_found 7 = .ok (.invokevirtual 68, 3) := by decide +kernel
theorem dL_found_10 : decode cL_found 10 = .ok (.i2l, 1) := by decide +kernel
theorem dL_found_11 : decode cL_found 11 = .ok (.lastore, 1) := by decide +kernel
theorem dL_found_12 : decode cL_found 12 = .ok (.goto 15, 3) := by decide +kernel
theorem dL_found_15 : decode cL_found 15 = .ok (.astore 5, 2) := by decide +kernel
theorem dL_found_17 : decode cL_found 17 = .ok (.iconst 1, 1) := by decide +kernel
theorem dL_found_18 : decode cL_found 18 = .ok (.ireturn, 1) := by decide +kernel
theorem dL_found_19 : decode cL_found 19 = .ok (.astore 5, 2) := by decide +kernel
theorem dL_found_21 : decode cL_found 21 = .ok (.iconst 2, 1) := by decide +kernel
theorem dL_found_22 : decode cL_found 22 = .ok (.ireturn, 1) := by decide +kernel
theorem dL_found_23 : decode cL_found 23 = .ok (.astore 5, 2) := by decide +kernel
theorem dL_found_25 : decode cL_found 25 = .ok (.iconst 3, 1) := by decide +kernel
theorem dL_found_26 : decode cL_found 26 = .ok (.ireturn, 1) := by decide +kernel
theorem dL_found_27 : decode cL_found 27 = .ok (.iconst 0, 1) := by decide +kernel
theorem dL_found_28 : decode cL_found 28 = .ok (.ireturn, 1) := by decide +kernel
set_option maxRecDepth 20000 in
theorem ggL_pieces_X4_pieces : GoodIn wsL_pieces wsX4_pieces := goodIn_ca (goodIn_r _ [6, 7, 8, 9, 5, 10, 11, 12, 13, 14, 15, 16, 17, 18, 19, 20, 21, 22, 23, 24, 25, 26, 27, 28, 29, 30, 31, 32, 33, 34, 35, 36, 37, 38, 39] (by decide +kernel) (by decide +kernel)) (goodIn_sub (fun _ h => List.mem_cons_of_mem _ (List.mem_append_right _ h)) (by decide +kernel))
set_option maxRecDepth 20000 in
theorem gL_pieces_X4_pieces : GoodIn wsL_pieces (wsV RL 71 RX4 yX4_pieces wsX4_pieces) := goodIn_app (goodIn_of _ (by decide +kernel)) ggL_pieces_X4_pieces
theorem dL_pieces_0 : decode cL_pieces 0 = .ok (.aload_n 3, 1) := by decide +kernel
theorem dL_pieces_1 : decode cL_pieces 1 = .ok (.iconst 0, 1) := by decide +kernel
theorem dL_pieces_2 : decode cL_pieces 2 = .ok (.aload_n 0, 1) := by decide +kernel
theorem dL_pieces_3 : decode cL_pieces 3 = .ok (.iload_n 1, 1) := by decide +kernel
theorem dL_pieces_4 : decode cL_pieces 4 = .ok (.iload_n 2, 1) := by decide +kernel
theorem dL_pieces_5 : decode cL_pieces 5 = .ok (.invokevirtual 71, 3) := by decide +kernel
theorem dL_pieces_8 : decode cL_pieces 8 = .ok (.i2l, 1) := by decide +kernel
theorem dL_pieces_9 : decode cL_pieces 9 = .ok (.lastore, 1) := by decide +kernel
theorem dL_pieces_10 : decode cL_pieces 10 = .ok (.goto 7, 3) := by decide +kernel
theorem dL_pieces_13 : decode cL_pieces 13 = .ok (.astore 4, 2) := by decide +kernel
theorem dL_pieces_15 : decode cL_pieces 15 = .ok (.iconst 1, 1) := by decide +kernel
theorem dL_pieces_16 : decode cL_pieces 16 = .ok (.ireturn, 1) := by decide +kernel
theorem dL_pieces_17 : decode cL_pieces 17 = .ok (.iconst 0, 1) := by decide +kernel
theorem dL_pieces_18 : decode cL_pieces 18 = .ok (.ireturn, 1) := by decide +kernel
set_option maxRecDepth 20000 in
theorem ggL_stateOf_X4_stateOf : GoodIn wsL_stateOf wsX4_stateOf := goodIn_ca (goodIn_r _ [6, 7, 8, 9, 5, 10, 11, 12, 13, 14, 15, 16, 17, 18, 19, 20, 21, 22, 23, 24, 25, 26, 27, 28, 29, 30, 31, 32, 33, 34, 35, 36, 37, 38, 39, 40] (by decide +kernel) (by decide +kernel)) (goodIn_sub (fun _ h => List.mem_cons_of_mem _ (List.mem_append_right _ h)) (by decide +kernel))
set_option maxRecDepth 20000 in
theorem gL_stateOf_X4_stateOf : GoodIn wsL_stateOf (wsV RL 74 RX4 yX4_stateOf wsX4_stateOf) := goodIn_app (goodIn_of _ (by decide +kernel)) ggL_stateOf_X4_stateOf
theorem dL_stateOf_0 : decode cL_stateOf 0 = .ok (.aload_n 2, 1) := by decide +kernel
theorem dL_stateOf_1 : decode cL_stateOf 1 = .ok (.iconst 0, 1) := by decide +kernel
theorem dL_stateOf_2 : decode cL_stateOf 2 = .ok (.aload_n 0, 1) := by decide +kernel
theorem dL_stateOf_3 : decode cL_stateOf 3 = .ok (.iload_n 1, 1) := by decide +kernel
theorem dL_stateOf_4 : decode cL_stateOf 4 = .ok (.invokevirtual 74, 3) := by decide +kernel
theorem dL_stateOf_7 : decode cL_stateOf 7 = .ok (.i2l, 1) := by decide +kernel
theorem dL_stateOf_8 : decode cL_stateOf 8 = .ok (.lastore, 1) := by decide +kernel
theorem dL_stateOf_9 : decode cL_stateOf 9 = .ok (.goto 6, 3) := by decide +kernel
theorem dL_stateOf_12 : decode cL_stateOf 12 = .ok (.astore_n 3, 1) := by decide +kernel
theorem dL_stateOf_13 : decode cL_stateOf 13 = .ok (.iconst 1, 1) := by decide +kernel
theorem dL_stateOf_14 : decode cL_stateOf 14 = .ok (.ireturn, 1) := by decide +kernel
theorem dL_stateOf_15 : decode cL_stateOf 15 = .ok (.iconst 0, 1) := by decide +kernel
theorem dL_stateOf_16 : decode cL_stateOf 16 = .ok (.ireturn, 1) := by decide +kernel
set_option maxRecDepth 20000 in
theorem ggL_lenders_X4_lenders : GoodIn wsL_lenders wsX4_lenders := goodIn_ca (goodIn_r _ [6, 7, 8, 9, 5, 10, 11, 12, 13, 14, 15, 16, 17, 18, 19, 20, 21, 22, 23, 24, 25, 26, 27, 28, 29, 30, 31, 32, 33, 34, 35, 36, 37, 38, 39, 40, 41, 42, 43, 44, 45, 46, 47, 48, 49, 50, 51, 52, 53, 54, 55, 56, 57, 58, 59, 60, 61, 62, 63, 64, 65, 66, 67, 68, 69, 70, 71] (by decide +kernel) (by decide +kernel)) (goodIn_sub (fun _ h => List.mem_cons_of_mem _ (List.mem_append_right _ h)) (by decide +kernel))
set_option maxRecDepth 20000 in
theorem gL_lenders_X4_lenders : GoodIn wsL_lenders (wsV RL 77 RX4 yX4_lenders wsX4_lenders) := goodIn_app (goodIn_of _ (by decide +kernel)) ggL_lenders_X4_lenders
theorem dL_lenders_0 : decode cL_lenders 0 = .ok (.aload_n 2, 1) := by decide +kernel
theorem dL_lenders_1 : decode cL_lenders 1 = .ok (.iconst 0, 1) := by decide +kernel
theorem dL_lenders_2 : decode cL_lenders 2 = .ok (.aload_n 0, 1) := by decide +kernel
theorem dL_lenders_3 : decode cL_lenders 3 = .ok (.iload_n 1, 1) := by decide +kernel
theorem dL_lenders_4 : decode cL_lenders 4 = .ok (.invokevirtual 77, 3) := by decide +kernel
theorem dL_lenders_7 : decode cL_lenders 7 = .ok (.i2l, 1) := by decide +kernel
theorem dL_lenders_8 : decode cL_lenders 8 = .ok (.lastore, 1) := by decide +kernel
theorem dL_lenders_9 : decode cL_lenders 9 = .ok (.goto 6, 3) := by decide +kernel
theorem dL_lenders_12 : decode cL_lenders 12 = .ok (.astore_n 3, 1) := by decide +kernel
theorem dL_lenders_13 : decode cL_lenders 13 = .ok (.iconst 1, 1) := by decide +kernel
theorem dL_lenders_14 : decode cL_lenders 14 = .ok (.ireturn, 1) := by decide +kernel
theorem dL_lenders_15 : decode cL_lenders 15 = .ok (.iconst 0, 1) := by decide +kernel
theorem dL_lenders_16 : decode cL_lenders 16 = .ok (.ireturn, 1) := by decide +kernel
set_option maxRecDepth 20000 in
theorem ggL_copyOf_X4_copyOf : GoodIn wsL_copyOf wsX4_copyOf := goodIn_ca (goodIn_r _ [6, 7, 8, 9, 10, 5, 11, 12, 13, 14, 15, 16, 17, 18, 19, 20, 21, 22, 23, 24, 25, 26, 27, 28, 29, 30, 31, 32, 33, 34, 35, 36, 37, 38, 39, 40, 41, 42, 43, 44, 45, 46, 47, 48, 49, 50] (by decide +kernel) (by decide +kernel)) (goodIn_sub (fun _ h => List.mem_cons_of_mem _ (List.mem_append_right _ h)) (by decide +kernel))
set_option maxRecDepth 20000 in
theorem gL_copyOf_X4_copyOf : GoodIn wsL_copyOf (wsV RL 80 RX4 yX4_copyOf wsX4_copyOf) := goodIn_app (goodIn_of _ (by decide +kernel)) ggL_copyOf_X4_copyOf
theorem dL_copyOf_0 : decode cL_copyOf 0 = .ok (.aload_n 2, 1) := by decide +kernel
theorem dL_copyOf_1 : decode cL_copyOf 1 = .ok (.iconst 0, 1) := by decide +kernel
theorem dL_copyOf_2 : decode cL_copyOf 2 = .ok (.aload_n 0, 1) := by decide +kernel
theorem dL_copyOf_3 : decode cL_copyOf 3 = .ok (.iload_n 1, 1) := by decide +kernel
theorem dL_copyOf_4 : decode cL_copyOf 4 = .ok (.invokevirtual 80, 3) := by decide +kernel
theorem dL_copyOf_7 : decode cL_copyOf 7 = .ok (.i2l, 1) := by decide +kernel
theorem dL_copyOf_8 : decode cL_copyOf 8 = .ok (.lastore, 1) := by decide +kernel
theorem dL_copyOf_9 : decode cL_copyOf 9 = .ok (.goto 6, 3) := by decide +kernel
theorem dL_copyOf_12 : decode cL_copyOf 12 = .ok (.astore_n 3, 1) := by decide +kernel
theorem dL_copyOf_13 : decode cL_copyOf 13 = .ok (.iconst 1, 1) := by decide +kernel
theorem dL_copyOf_14 : decode cL_copyOf 14 = .ok (.ireturn, 1) := by decide +kernel
theorem dL_copyOf_15 : decode cL_copyOf 15 = .ok (.iconst 0, 1) := by decide +kernel
theorem dL_copyOf_16 : decode cL_copyOf 16 = .ok (.ireturn, 1) := by decide +kernel
set_option maxRecDepth 20000 in
theorem ggL_ruling_X4_ruling : GoodIn wsL_ruling wsX4_ruling := goodIn_ca (goodIn_ca (goodIn_r _ [7, 8, 9, 10, 11, 12, 6, 13, 14, 15, 16, 17, 18, 19, 20, 21, 22, 23, 24, 25, 26, 27, 28, 29, 30, 31, 32, 33, 34, 35, 36, 37, 38, 39, 40, 41, 42, 43, 44, 45, 46, 47, 48, 49, 50, 51, 52, 53, 54, 55, 56, 57, 58, 59, 60, 61, 62, 63, 64, 65, 66, 67, 68, 69, 70, 71, 72, 73, 74, 75, 76, 77, 78, 79, 80, 81, 82, 83, 84, 85, 86, 87, 88, 89, 90, 91, 92, 93, 94, 95, 96, 97, 98, 99, 100, 101, 102, 103, 104, 105, 106, 107, 108, 109, 110, 111, 112, 113, 114, 115, 116, 117] (by decide +kernel) (by decide +kernel)) (goodIn_sub (fun _ h => List.mem_cons_of_mem _ (List.mem_append_left _ (List.mem_append_right _ h))) (by decide +kernel))) (goodIn_sub (fun _ h => List.mem_cons_of_mem _ (List.mem_append_right _ h)) (by decide +kernel))
set_option maxRecDepth 20000 in
theorem gL_ruling_X4_ruling : GoodIn wsL_ruling (wsV RL 83 RX4 yX4_ruling wsX4_ruling) := goodIn_app (goodIn_of _ (by decide +kernel)) ggL_ruling_X4_ruling
theorem dL_ruling_0 : decode cL_ruling 0 = .ok (.aload_n 2, 1) := by decide +kernel
theorem dL_ruling_1 : decode cL_ruling 1 = .ok (.iconst 0, 1) := by decide +kernel
theorem dL_ruling_2 : decode cL_ruling 2 = .ok (.aload_n 0, 1) := by decide +kernel
theorem dL_ruling_3 : decode cL_ruling 3 = .ok (.iload_n 1, 1) := by decide +kernel
theorem dL_ruling_4 : decode cL_ruling 4 = .ok (.invokevirtual 83, 3) := by decide +kernel
theorem dL_ruling_7 : decode cL_ruling 7 = .ok (.i2l, 1) := by decide +kernel
theorem dL_ruling_8 : decode cL_ruling 8 = .ok (.lastore, 1) := by decide +kernel
theorem dL_ruling_9 : decode cL_ruling 9 = .ok (.goto 9, 3) := by decide +kernel
theorem dL_ruling_12 : decode cL_ruling 12 = .ok (.astore_n 3, 1) := by decide +kernel
theorem dL_ruling_13 : decode cL_ruling 13 = .ok (.iconst 1, 1) := by decide +kernel
theorem dL_ruling_14 : decode cL_ruling 14 = .ok (.ireturn, 1) := by decide +kernel
theorem dL_ruling_15 : decode cL_ruling 15 = .ok (.astore_n 3, 1) := by decide +kernel
theorem dL_ruling_16 : decode cL_ruling 16 = .ok (.iconst 2, 1) := by decide +kernel
theorem dL_ruling_17 : decode cL_ruling 17 = .ok (.ireturn, 1) := by decide +kernel
theorem dL_ruling_18 : decode cL_ruling 18 = .ok (.iconst 0, 1) := by decide +kernel
theorem dL_ruling_19 : decode cL_ruling 19 = .ok (.ireturn, 1) := by decide +kernel
set_option maxRecDepth 20000 in
theorem ggL_rulingFromBelow_X4_rulingFromBelow : GoodIn wsL_rulingFromBelow wsX4_rulingFromBelow := goodIn_ca (goodIn_ca (goodIn_r _ [7, 8, 9, 10, 11, 12, 6, 13, 14, 15, 16, 17, 18, 19, 20, 21, 22, 23, 24, 25, 26, 27, 28, 29, 30, 31, 32, 33, 34, 35, 36, 37, 38, 39, 40, 41, 42, 43, 44, 45, 46, 47, 48, 49, 50, 51, 52, 53, 54, 55, 56, 57, 58, 59, 60, 61, 62, 63, 64, 65, 66, 67, 68, 69, 70, 71, 72, 73, 74, 75, 76, 77, 78, 79, 80, 81, 82, 83, 84, 85, 86, 87, 88, 89, 90, 91, 92, 93, 94, 95, 96, 97, 98, 99, 100, 101, 102, 103, 104, 105, 106, 107, 108, 109, 110, 111, 112, 113, 114, 115, 116, 117, 118, 119, 120, 121] (by decide +kernel) (by decide +kernel)) (goodIn_sub (fun _ h => List.mem_cons_of_mem _ (List.mem_append_left _ (List.mem_append_right _ h))) (by decide +kernel))) (goodIn_sub (fun _ h => List.mem_cons_of_mem _ (List.mem_append_right _ h)) (by decide +kernel))
set_option maxRecDepth 20000 in
theorem gL_rulingFromBelow_X4_rulingFromBelow : GoodIn wsL_rulingFromBelow (wsV RL 86 RX4 yX4_rulingFromBelow wsX4_rulingFromBelow) := goodIn_app (goodIn_of _ (by decide +kernel)) ggL_rulingFromBelow_X4_rulingFromBelow
theorem dL_rulingFromBelow_0 : decode cL_rulingFromBelow 0 = .ok (.aload_n 2, 1) := by decide +kernel
theorem dL_rulingFromBelow_1 : decode cL_rulingFromBelow 1 = .ok (.iconst 0, 1) := by decide +kernel
theorem dL_rulingFromBelow_2 : decode cL_rulingFromBelow 2 = .ok (.aload_n 0, 1) := by decide +kernel
theorem dL_rulingFromBelow_3 : decode cL_rulingFromBelow 3 = .ok (.iload_n 1, 1) := by decide +kernel
theorem dL_rulingFromBelow_4 : decode cL_rulingFromBelow 4 = .ok (.invokevirtual 86, 3) := by decide +kernel
theorem dL_rulingFromBelow_7 : decode cL_rulingFromBelow 7 = .ok (.i2l, 1) := by decide +kernel
theorem dL_rulingFromBelow_8 : decode cL_rulingFromBelow 8 = .ok (.lastore, 1) := by decide +kernel
theorem dL_rulingFromBelow_9 : decode cL_rulingFromBelow 9 = .ok (.goto 9, 3) := by decide +kernel
theorem dL_rulingFromBelow_12 : decode cL_rulingFromBelow 12 = .ok (.astore_n 3, 1) := by decide +kernel
theorem dL_rulingFromBelow_13 : decode cL_rulingFromBelow 13 = .ok (.iconst 1, 1) := by decide +kernel
theorem dL_rulingFromBelow_14 : decode cL_rulingFromBelow 14 = .ok (.ireturn, 1) := by decide +kernel
theorem dL_rulingFromBelow_15 : decode cL_rulingFromBelow 15 = .ok (.astore_n 3, 1) := by decide +kernel
theorem dL_rulingFromBelow_16 : decode cL_rulingFromBelow 16 = .ok (.iconst 2, 1) := by decide +kernel
theorem dL_rulingFromBelow_17 : decode cL_rulingFromBelow 17 = .ok (.ireturn, 1) := by decide +kernel
theorem dL_rulingFromBelow_18 : decode cL_rulingFromBelow 18 = .ok (.iconst 0, 1) := by decide +kernel
theorem dL_rulingFromBelow_19 : decode cL_rulingFromBelow 19 = .ok (.ireturn, 1) := by decide +kernel
set_option maxRecDepth 20000 in
theorem ggL_depth_X4_depth : GoodIn wsL_depth wsX4_depth := goodIn_ca (goodIn_r _ [6, 7, 8, 9, 10, 5, 11, 12, 13, 14, 15, 16, 17, 18, 19, 20, 21, 22, 23, 24, 25, 26, 27, 28, 29, 30, 31, 32, 33, 34, 35, 36, 37, 38, 39, 40, 41, 42, 43, 44, 45, 46, 47, 48, 49, 50, 51, 52, 53, 54, 55, 56, 57, 58] (by decide +kernel) (by decide +kernel)) (goodIn_sub (fun _ h => List.mem_cons_of_mem _ (List.mem_append_right _ h)) (by decide +kernel))
set_option maxRecDepth 20000 in
theorem gL_depth_X4_depth : GoodIn wsL_depth (wsV RL 89 RX4 yX4_depth wsX4_depth) := goodIn_app (goodIn_of _ (by decide +kernel)) ggL_depth_X4_depth
theorem dL_depth_0 : decode cL_depth 0 = .ok (.aload_n 2, 1) := by decide +kernel
theorem dL_depth_1 : decode cL_depth 1 = .ok (.iconst 0, 1) := by decide +kernel
theorem dL_depth_2 : decode cL_depth 2 = .ok (.aload_n 0, 1) := by decide +kernel
theorem dL_depth_3 : decode cL_depth 3 = .ok (.iload_n 1, 1) := by decide +kernel
theorem dL_depth_4 : decode cL_depth 4 = .ok (.invokevirtual 89, 3) := by decide +kernel
theorem dL_depth_7 : decode cL_depth 7 = .ok (.i2l, 1) := by decide +kernel
theorem dL_depth_8 : decode cL_depth 8 = .ok (.lastore, 1) := by decide +kernel
theorem dL_depth_9 : decode cL_depth 9 = .ok (.goto 6, 3) := by decide +kernel
theorem dL_depth_12 : decode cL_depth 12 = .ok (.astore_n 3, 1) := by decide +kernel
theorem dL_depth_13 : decode cL_depth 13 = .ok (.iconst 1, 1) := by decide +kernel
theorem dL_depth_14 : decode cL_depth 14 = .ok (.ireturn, 1) := by decide +kernel
theorem dL_depth_15 : decode cL_depth 15 = .ok (.iconst 0, 1) := by decide +kernel
theorem dL_depth_16 : decode cL_depth 16 = .ok (.ireturn, 1) := by decide +kernel
set_option maxRecDepth 20000 in
theorem ggL_law_X4_init : GoodIn wsL_law wsX4_init := goodIn_r _ [9, 10, 11, 12, 13, 14, 15, 16, 17, 18, 19, 20, 21, 22, 23, 24, 25, 26, 27, 28, 29, 30, 31, 32, 33, 34, 35, 36, 37, 38, 39, 40, 41, 42, 43, 44, 45, 46, 47, 48, 49, 50, 51, 52, 53, 54, 55, 56, 57, 58, 59, 60, 61, 62, 63, 64, 65, 66, 67, 68, 69, 70, 793, 794, 795, 796, 797, 798, 799, 800, 801, 757, 758, 759, 802, 803, 804, 805, 806, 807, 808, 809, 810, 811, 812, 813, 814, 815, 816, 817, 818] (by decide +kernel) (by decide +kernel)
set_option maxRecDepth 20000 in
theorem gL_law_X4_init : GoodIn wsL_law (wsX4_init) := ggL_law_X4_init
set_option maxRecDepth 20000 in
theorem ggL_law_X5_init : GoodIn wsL_law wsX5_init := goodIn_r _ [73, 74, 11, 12, 45, 75, 76, 77, 78, 79, 80, 81, 82, 83, 84, 85, 86, 87, 88, 89, 90, 91, 92, 93, 94, 95, 96, 97, 760, 761, 762, 763, 764, 765, 766, 767, 768, 769, 770, 771, 772, 773, 774, 775, 776, 777, 778, 779, 780, 781, 782, 783, 784, 785, 786, 787, 788, 789, 790, 791, 792] (by decide +kernel) (by decide +kernel)
set_option maxRecDepth 20000 in
theorem gL_law_X5_init : GoodIn wsL_law (wsX5_init) := ggL_law_X5_init
set_option maxRecDepth 20000 in
theorem ggL_law_L_pass : GoodIn wsL_law wsL_pass := goodIn_ca (goodIn_ca (goodIn_r _ [101, 102, 103, 104, 105, 106, 2, 107, 16, 108, 109, 110, 111, 112, 113, 114, 115, 116, 117, 757, 758, 759, 793, 794, 795, 796, 797, 798, 799, 800, 801] (by decide +kernel) (by decide +kernel)) (goodIn_sub (fun _ h => List.mem_append_left _ (List.mem_append_left _ (List.mem_append_right _ h))) (by decide +kernel))) (goodIn_sub (fun _ h => List.mem_append_left _ (List.mem_append_right _ h)) (by decide +kernel))
set_option maxRecDepth 20000 in
theorem gL_law_L_pass : GoodIn wsL_law (va_wsS RL 96 yL_pass wsL_pass) := goodIn_app (goodIn_of _ (by decide +kernel)) ggL_law_L_pass
set_option maxRecDepth 20000 in
theorem ggL_law_X5_pass : GoodIn wsL_law wsX5_pass := goodIn_r _ [121, 122, 123, 124, 5, 125, 126, 127, 128, 129, 130, 760, 761, 762, 763, 764, 765, 766, 767, 768, 769, 770, 771, 772, 773, 774, 775, 776, 777, 778, 779, 780, 781, 782, 783, 784, 785, 786, 787, 788, 789, 790, 791, 792] (by decide +kernel) (by decide +kernel)
set_option maxRecDepth 20000 in
theorem gL_law_X5_pass : GoodIn wsL_law (wsV RL 101 RX5 yX5_pass wsX5_pass) := goodIn_app (goodIn_of _ (by decide +kernel)) ggL_law_X5_pass
set_option maxRecDepth 20000 in
theorem ggL_law_X5_thrown : GoodIn wsL_law wsX5_thrown := goodIn_r _ [134, 130, 760, 761, 762, 763, 764, 765, 766, 767, 768, 769, 770, 771, 772, 773, 774, 775, 776, 777, 778, 779, 780, 781, 782, 783, 784, 785, 786, 787, 788, 789, 790, 791, 792] (by decide +kernel) (by decide +kernel)
set_option maxRecDepth 20000 in
theorem gL_law_X5_thrown : GoodIn wsL_law (wsV RL 102 RX5 yX5_thrown wsX5_thrown) := goodIn_app (goodIn_of _ (by decide +kernel)) ggL_law_X5_thrown
set_option maxRecDepth 20000 in
theorem ggL_law_X4_now : GoodIn wsL_law wsX4_now := goodIn_r _ [138, 16, 757, 758, 759, 793, 794, 795, 796, 797, 798, 799, 800, 801] (by decide +kernel) (by decide +kernel)
set_option maxRecDepth 20000 in
theorem gL_law_X4_now : GoodIn wsL_law (wsV RL 106 RX4 yX4_now wsX4_now) := goodIn_app (goodIn_of _ (by decide +kernel)) ggL_law_X4_now
set_option maxRecDepth 20000 in
theorem ggL_law_X5_now : GoodIn wsL_law wsX5_now := goodIn_r _ [142, 130, 122, 760, 761, 762, 763, 764, 765, 766, 767, 768, 769, 770, 771, 772, 773, 774, 775, 776, 777, 778, 779, 780, 781, 782, 783, 784, 785, 786, 787, 788, 789, 790, 791, 792] (by decide +kernel) (by decide +kernel)
set_option maxRecDepth 20000 in
theorem gL_law_X5_now : GoodIn wsL_law (wsV RL 109 RX5 yX5_now wsX5_now) := goodIn_app (goodIn_of _ (by decide +kernel)) ggL_law_X5_now
set_option maxRecDepth 20000 in
theorem ggL_law_L_addTable : GoodIn wsL_law wsL_addTable := goodIn_ca (goodIn_ca (goodIn_r _ [145, 102, 103, 146, 147, 148, 2, 149, 16, 108, 109, 110, 111, 112, 113, 114, 115, 116, 117, 150, 151, 152, 15, 153, 31, 154, 155, 156, 157, 30, 158, 46, 757, 758, 759, 793, 794, 795, 796, 797, 798, 799, 800, 801, 818] (by decide +kernel) (by decide +kernel)) (goodIn_sub (fun _ h => List.mem_append_left _ (List.mem_append_left _ (List.mem_append_right _ h))) (by decide +kernel))) (goodIn_sub (fun _ h => List.mem_append_left _ (List.mem_append_right _ h)) (by decide +kernel))
set_option maxRecDepth 20000 in
theorem gL_law_L_addTable : GoodIn wsL_law (va_wsS RL 110 yL_addTable wsL_addTable) := goodIn_app (goodIn_of _ (by decide +kernel)) ggL_law_L_addTable
set_option maxRecDepth 20000 in
theorem ggL_law_X5_addTable : GoodIn wsL_law wsX5_addTable := goodIn_r _ [162, 163, 75, 76, 123, 124, 5, 125, 126, 127, 128, 129, 130, 760, 761, 762, 763, 764, 765, 766, 767, 768, 769, 770, 771, 772, 773, 774, 775, 776, 777, 778, 779, 780, 781, 782, 783, 784, 785, 786, 787, 788, 789, 790, 791, 792] (by decide +kernel) (by decide +kernel)
set_option maxRecDepth 20000 in
theorem gL_law_X5_addTable : GoodIn wsL_law (wsV RL 112 RX5 yX5_addTable wsX5_addTable) := goodIn_app (goodIn_of _ (by decide +kernel)) ggL_law_X5_addTable
set_option maxRecDepth 20000 in
theorem ggL_law_L_addTitle : GoodIn wsL_law wsL_addTitle := goodIn_ca (goodIn_ca (goodIn_r _ [166, 102, 103, 167, 168, 169, 2, 170, 20, 108, 109, 110, 111, 112, 113, 114, 115, 116, 117, 171, 172, 173, 19, 174, 51, 175, 52, 53, 176, 156, 157, 30, 158, 46, 177, 178, 179, 180, 54, 757, 758, 759, 802, 803, 804, 805, 806, 807, 808, 809, 810, 811, 812, 818] (by decide +kernel) (by decide +kernel)) (goodIn_sub (fun _ h => List.mem_append_left _ (List.mem_append_left _ (List.mem_append_right _ h))) (by decide +kernel))) (goodIn_sub (fun _ h => List.mem_append_left _ (List.mem_append_right _ h)) (by decide +kernel))
set_option maxRecDepth 20000 in
theorem gL_law_L_addTitle : GoodIn wsL_law (va_wsS RL 113 yL_addTitle wsL_addTitle) := goodIn_app (goodIn_of _ (by decide +kernel)) ggL_law_L_addTitle
set_option maxRecDepth 20000 in
theorem ggL_law_X5_addTitle : GoodIn wsL_law wsX5_addTitle := goodIn_r _ [184, 185, 82, 83, 84, 85, 123, 124, 5, 125, 186, 187, 188, 126, 127, 128, 129, 130, 760, 761, 762, 763, 764, 765, 766, 767, 768, 769, 770, 771, 772, 773, 774, 775, 776, 777, 778, 779, 780, 781, 782, 783, 784, 785, 786, 787, 788, 789, 790, 791, 792] (by decide +kernel) (by decide +kernel)
set_option maxRecDepth 20000 in
theorem gL_law_X5_addTitle : GoodIn wsL_law (wsV RL 116 RX5 yX5_addTitle wsX5_addTitle) := goodIn_app (goodIn_of _ (by decide +kernel)) ggL_law_X5_addTitle
set_option maxRecDepth 20000 in
theorem ggL_law_L_addCopy : GoodIn wsL_law wsL_addCopy := goodIn_ca (goodIn_ca (goodIn_r _ [191, 192, 103, 193, 194, 195, 2, 196, 20, 197, 198, 199, 200, 201, 113, 114, 115, 116, 117, 202, 203, 204, 19, 205, 206, 55, 59, 54, 176, 156, 157, 30, 158, 46, 207, 208, 209, 210, 757, 758, 759, 802, 803, 804, 805, 806, 807, 808, 809, 810, 811, 812, 818] (by decide +kernel) (by decide +kernel)) (goodIn_sub (fun _ h => List.mem_append_right _ h) (by decide +kernel))) (goodIn_sub (fun _ h => List.mem_append_left _ (List.mem_append_right _ h)) (by decide +kernel))
set_option maxRecDepth 20000 in
theorem gL_law_L_addCopy : GoodIn wsL_law (va_wsS RL 117 yL_addCopy wsL_addCopy) := goodIn_app (goodIn_of _ (by decide +kernel)) ggL_law_L_addCopy
set_option maxRecDepth 20000 in
theorem ggL_law_X5_addCopy : GoodIn wsL_law wsX5_addCopy := goodIn_r _ [214, 215, 86, 87, 88, 85, 216, 217, 218, 5, 219, 185, 123, 124, 125, 126, 127, 128, 129, 130, 760, 761, 762, 763, 764, 765, 766, 767, 768, 769, 770, 771, 772, 773, 774, 775, 776, 777, 778, 779, 780, 781, 782, 783, 784, 785, 786, 787, 788, 789, 790, 791, 792] (by decide +kernel) (by decide +kernel)
set_option maxRecDepth 20000 in
theorem gL_law_X5_addCopy : GoodIn wsL_law (wsV RL 119 RX5 yX5_addCopy wsX5_addCopy) := goodIn_app (goodIn_of _ (by decide +kernel)) ggL_law_X5_addCopy
set_option maxRecDepth 20000 in
theorem ggL_law_L_addRule : GoodIn wsL_law wsL_addRule := goodIn_ca (goodIn_ca (goodIn_ca (goodIn_r _ [222, 192, 102, 103, 223, 224, 225, 2, 226, 20, 24, 197, 198, 199, 200, 201, 227, 228, 229, 23, 230, 65, 231, 208, 209, 30, 210, 46, 108, 109, 110, 111, 112, 113, 114, 115, 116, 117, 232, 233, 234, 235, 66, 67, 68, 69, 236, 156, 157, 158, 757, 758, 759, 802, 803, 804, 805, 806, 807, 808, 809, 810, 811, 812, 813, 814, 815, 816, 817, 818] (by decide +kernel) (by decide +kernel)) (goodIn_sub (fun _ h => List.mem_append_right _ h) (by decide +kernel))) (goodIn_sub (fun _ h => List.mem_append_left _ (List.mem_append_left _ (List.mem_append_right _ h))) (by decide +kernel))) (goodIn_sub (fun _ h => List.mem_append_left _ (List.mem_append_right _ h)) (by decide +kernel))
set_option maxRecDepth 20000 in
theorem gL_law_L_addRule : GoodIn wsL_law (va_wsS RL 120 yL_addRule wsL_addRule) := goodIn_app (goodIn_of _ (by decide +kernel)) ggL_law_L_addRule
set_option maxRecDepth 20000 in
theorem ggL_law_X5_addRule : GoodIn wsL_law wsX5_addRule := goodIn_r _ [240, 97, 93, 94, 95, 96, 216, 217, 218, 5, 219, 185, 123, 124, 125, 126, 127, 128, 129, 130, 760, 761, 762, 763, 764, 765, 766, 767, 768, 769, 770, 771, 772, 773, 774, 775, 776, 777, 778, 779, 780, 781, 782, 783, 784, 785, 786, 787, 788, 789, 790, 791, 792] (by decide +kernel) (by decide +kernel)
set_option maxRecDepth 20000 in
theorem gL_law_X5_addRule : GoodIn wsL_law (wsV RL 123 RX5 yX5_addRule wsX5_addRule) := goodIn_app (goodIn_of _ (by decide +kernel)) ggL_law_X5_addRule
set_option maxRecDepth 20000 in
theorem ggL_law_L_arrive : GoodIn wsL_law wsL_arrive := goodIn_ca (goodIn_ca (goodIn_r _ [243, 102, 103, 244, 245, 246, 2, 247, 16, 108, 109, 110, 111, 112, 113, 114, 115, 116, 117, 248, 249, 250, 15, 251, 252, 33, 34, 155, 156, 157, 30, 158, 46, 253, 254, 255, 256, 154, 257, 208, 209, 210, 258, 259, 260, 261, 262, 263, 264, 265, 32, 31, 266, 267, 268, 269, 42, 43, 44, 270, 271, 272, 273, 274, 275, 276, 36, 35, 277, 757, 758, 759, 793, 794, 795, 796, 797, 798, 799, 800, 801, 818] (by decide +kernel) (by decide +kernel)) (goodIn_sub (fun _ h => List.mem_append_left _ (List.mem_append_left _ (List.mem_append_right _ h))) (by decide +kernel))) (goodIn_sub (fun _ h => List.mem_append_left _ (List.mem_append_right _ h)) (by decide +kernel))
set_option maxRecDepth 20000 in
theorem gL_law_L_arrive : GoodIn wsL_law (va_wsS RL 124 yL_arrive wsL_arrive) := goodIn_app (goodIn_of _ (by decide +kernel)) ggL_law_L_arrive
set_option maxRecDepth 20000 in
theorem ggL_law_X5_arrive : GoodIn wsL_law wsX5_arrive := goodIn_r _ [281, 282, 77, 78, 81, 79, 123, 124, 5, 125, 126, 127, 128, 129, 130, 283, 284, 285, 286, 287, 288, 76, 80, 122, 289, 290, 291, 292, 293, 163, 75, 760, 761, 762, 763, 764, 765, 766, 767, 768, 769, 770, 771, 772, 773, 774, 775, 776, 777, 778, 779, 780, 781, 782, 783, 784, 785, 786, 787, 788, 789, 790, 791, 792] (by decide +kernel) (by decide +kernel)
set_option maxRecDepth 20000 in
theorem gL_law_X5_arrive : GoodIn wsL_law (wsV RL 127 RX5 yX5_arrive wsX5_arrive) := goodIn_app (goodIn_of _ (by decide +kernel)) ggL_law_X5_arrive
set_option maxRecDepth 20000 in
theorem ggL_law_L_leave : GoodIn wsL_law wsL_leave := goodIn_ca (goodIn_ca (goodIn_r _ [296, 192, 103, 297, 298, 299, 2, 300, 16, 20, 197, 198, 199, 200, 201, 301, 302, 303, 19, 304, 206, 56, 207, 208, 209, 30, 210, 46, 305, 306, 307, 15, 308, 36, 257, 113, 114, 115, 116, 117, 309, 310, 311, 312, 154, 32, 155, 156, 157, 158, 313, 314, 315, 316, 252, 253, 254, 255, 256, 33, 258, 259, 260, 261, 262, 263, 264, 265, 31, 266, 267, 268, 269, 42, 43, 44, 270, 271, 272, 273, 274, 275, 276, 35, 277, 34, 757, 758, 759, 793, 794, 795, 796, 797, 798, 799, 800, 801, 802, 803, 804, 805, 806, 807, 808, 809, 810, 811, 812, 818] (by decide +kernel) (by decide +kernel)) (goodIn_sub (fun _ h => List.mem_append_right _ h) (by decide +kernel))) (goodIn_sub (fun _ h => List.mem_append_left _ (List.mem_append_right _ h)) (by decide +kernel))
set_option maxRecDepth 20000 in
theorem gL_law_L_leave : GoodIn wsL_law (va_wsS RL 128 yL_leave wsL_leave) := goodIn_app (goodIn_of _ (by decide +kernel)) ggL_law_L_leave
set_option maxRecDepth 20000 in
theorem ggL_law_X5_leave : GoodIn wsL_law wsX5_leave := goodIn_r _ [320, 81, 79, 163, 76, 282, 321, 322, 323, 5, 324, 123, 124, 125, 126, 127, 128, 129, 130, 283, 284, 285, 286, 77, 287, 288, 80, 122, 289, 290, 291, 292, 293, 75, 760, 761, 762, 763, 764, 765, 766, 767, 768, 769, 770, 771, 772, 773, 774, 775, 776, 777, 778, 779, 780, 781, 782, 783, 784, 785, 786, 787, 788, 789, 790, 791, 792] (by decide +kernel) (by decide +kernel)
set_option maxRecDepth 20000 in
theorem gL_law_X5_leave : GoodIn wsL_law (wsV RL 130 RX5 yX5_leave wsX5_leave) := goodIn_app (goodIn_of _ (by decide +kernel)) ggL_law_X5_leave
set_option maxRecDepth 20000 in
theorem ggL_law_L_tableOf : GoodIn wsL_law wsL_tableOf := goodIn_ca (goodIn_r _ [327, 192, 328, 329, 330, 2, 331, 16, 197, 198, 199, 200, 201, 332, 333, 334, 15, 335, 154, 32, 257, 208, 209, 30, 210, 46, 757, 758, 759, 793, 794, 795, 796, 797, 798, 799, 800, 801, 818] (by decide +kernel) (by decide +kernel)) (goodIn_sub (fun _ h => List.mem_append_right _ h) (by decide +kernel))
set_option maxRecDepth 20000 in
theorem gL_law_L_tableOf : GoodIn wsL_law (va_wsS RL 131 yL_tableOf wsL_tableOf) := goodIn_app (goodIn_of _ (by decide +kernel)) ggL_law_L_tableOf
set_option maxRecDepth 20000 in
theorem ggL_law_X5_tableOf : GoodIn wsL_law wsX5_tableOf := goodIn_r _ [339, 163, 76, 321, 322, 323, 5, 324, 282, 123, 124, 125, 126, 127, 128, 129, 130, 760, 761, 762, 763, 764, 765, 766, 767, 768, 769, 770, 771, 772, 773, 774, 775, 776, 777, 778, 779, 780, 781, 782, 783, 784, 785, 786, 787, 788, 789, 790, 791, 792] (by decide +kernel) (by decide +kernel)
set_option maxRecDepth 20000 in
theorem gL_law_X5_tableOf : GoodIn wsL_law (wsV RL 133 RX5 yX5_tableOf wsX5_tableOf) := goodIn_app (goodIn_of _ (by decide +kernel)) ggL_law_X5_tableOf
set_option maxRecDepth 20000 in
theorem ggL_law_L_tablesOf : GoodIn wsL_law wsL_tablesOf := goodIn_ca (goodIn_r _ [342, 192, 343, 344, 345, 2, 346, 16, 197, 198, 199, 200, 201, 347, 348, 349, 15, 350, 154, 32, 257, 208, 209, 30, 210, 46, 757, 758, 759, 793, 794, 795, 796, 797, 798, 799, 800, 801, 818] (by decide +kernel) (by decide +kernel)) (goodIn_sub (fun _ h => List.mem_append_right _ h) (by decide +kernel))
set_option maxRecDepth 20000 in
theorem gL_law_L_tablesOf : GoodIn wsL_law (va_wsS RL 134 yL_tablesOf wsL_tablesOf) := goodIn_app (goodIn_of _ (by decide +kernel)) ggL_law_L_tablesOf
set_option maxRecDepth 20000 in
theorem ggL_law_X5_tablesOf : GoodIn wsL_law wsX5_tablesOf := goodIn_r _ [354, 163, 76, 321, 322, 323, 5, 324, 282, 123, 124, 125, 126, 127, 128, 129, 130, 760, 761, 762, 763, 764, 765, 766, 767, 768, 769, 770, 771, 772, 773, 774, 775, 776, 777, 778, 779, 780, 781, 782, 783, 784, 785, 786, 787, 788, 789, 790, 791, 792] (by decide +kernel) (by decide +kernel)
set_option maxRecDepth 20000 in
theorem gL_law_X5_tablesOf : GoodIn wsL_law (wsV RL 136 RX5 yX5_tablesOf wsX5_tablesOf) := goodIn_app (goodIn_of _ (by decide +kernel)) ggL_law_X5_tablesOf
set_option maxRecDepth 20000 in
theorem ggL_law_X4_waiting : GoodIn wsL_law wsX4_waiting := goodIn_r _ [358, 16, 359, 360, 361, 15, 362, 252, 36, 257, 208, 209, 30, 210, 46, 757, 758, 759, 793, 794, 795, 796, 797, 798, 799, 800, 801, 818] (by decide +kernel) (by decide +kernel)
set_option maxRecDepth 20000 in
theorem gL_law_X4_waiting : GoodIn wsL_law (wsV RL 137 RX4 yX4_waiting wsX4_waiting) := goodIn_app (goodIn_of _ (by decide +kernel)) ggL_law_X4_waiting
set_option maxRecDepth 20000 in
theorem ggL_law_X5_waiting : GoodIn wsL_law wsX5_waiting := goodIn_r _ [366, 130, 282, 79, 760, 761, 762, 763, 764, 765, 766, 767, 768, 769, 770, 771, 772, 773, 774, 775, 776, 777, 778, 779, 780, 781, 782, 783, 784, 785, 786, 787, 788, 789, 790, 791, 792] (by decide +kernel) (by decide +kernel)
set_option maxRecDepth 20000 in
theorem gL_law_X5_waiting : GoodIn wsL_law (wsV RL 140 RX5 yX5_waiting wsX5_waiting) := goodIn_app (goodIn_of _ (by decide +kernel)) ggL_law_X5_waiting
set_option maxRecDepth 20000 in
theorem ggL_law_L_waste : GoodIn wsL_law wsL_waste := goodIn_ca (goodIn_r _ [369, 102, 370, 371, 372, 2, 373, 16, 108, 109, 110, 111, 112, 374, 259, 260, 15, 261, 154, 262, 263, 264, 265, 32, 31, 257, 208, 209, 30, 210, 46, 266, 267, 268, 269, 42, 43, 44, 270, 271, 272, 757, 758, 759, 793, 794, 795, 796, 797, 798, 799, 800, 801, 818] (by decide +kernel) (by decide +kernel)) (goodIn_sub (fun _ h => List.mem_append_left _ (List.mem_append_left _ (List.mem_append_right _ h))) (by decide +kernel))
set_option maxRecDepth 20000 in
theorem gL_law_L_waste : GoodIn wsL_law (va_wsS RL 141 yL_waste wsL_waste) := goodIn_app (goodIn_of _ (by decide +kernel)) ggL_law_L_waste
set_option maxRecDepth 20000 in
theorem ggL_law_X5_waste : GoodIn wsL_law wsX5_waste := goodIn_r _ [378, 379, 380, 381, 5, 382, 293, 130, 123, 124, 125, 126, 127, 128, 129, 289, 290, 291, 292, 163, 76, 75, 288, 287, 760, 761, 762, 763, 764, 765, 766, 767, 768, 769, 770, 771, 772, 773, 774, 775, 776, 777, 778, 779, 780, 781, 782, 783, 784, 785, 786, 787, 788, 789, 790, 791, 792] (by decide +kernel) (by decide +kernel)
set_option maxRecDepth 20000 in
theorem gL_law_X5_waste : GoodIn wsL_law (wsV RL 143 RX5 yX5_waste wsX5_waste) := goodIn_app (goodIn_of _ (by decide +kernel)) ggL_law_X5_waste
set_option maxRecDepth 20000 in
theorem ggL_law_L_wasteByAll : GoodIn wsL_law wsL_wasteByAll := goodIn_ca (goodIn_r _ [385, 102, 386, 387, 388, 2, 389, 16, 108, 109, 110, 111, 112, 390, 391, 392, 15, 393, 154, 394, 395, 396, 397, 32, 31, 398, 399, 257, 208, 209, 30, 210, 46, 266, 267, 268, 269, 42, 43, 44, 270, 271, 272, 757, 758, 759, 793, 794, 795, 796, 797, 798, 799, 800, 801, 818] (by decide +kernel) (by decide +kernel)) (goodIn_sub (fun _ h => List.mem_append_left _ (List.mem_append_left _ (List.mem_append_right _ h))) (by decide +kernel))
set_option maxRecDepth 20000 in
theorem gL_law_L_wasteByAll : GoodIn wsL_law (va_wsS RL 144 yL_wasteByAll wsL_wasteByAll) := goodIn_app (goodIn_of _ (by decide +kernel)) ggL_law_L_wasteByAll
set_option maxRecDepth 20000 in
theorem ggL_law_X5_wasteByAll : GoodIn wsL_law wsX5_wasteByAll := goodIn_r _ [403, 379, 380, 381, 5, 382, 293, 130, 123, 124, 125, 126, 127, 128, 129, 289, 290, 291, 292, 163, 76, 75, 288, 287, 760, 761, 762, 763, 764, 765, 766, 767, 768, 769, 770, 771, 772, 773, 774, 775, 776, 777, 778, 779, 780, 781, 782, 783, 784, 785, 786, 787, 788, 789, 790, 791, 792] (by decide +kernel) (by decide +kernel)
set_option maxRecDepth 20000 in
theorem gL_law_X5_wasteByAll : GoodIn wsL_law (wsV RL 146 RX5 yX5_wasteByAll wsX5_wasteByAll) := goodIn_app (goodIn_of _ (by decide +kernel)) ggL_law_X5_wasteByAll
set_option maxRecDepth 20000 in
theorem ggL_law_L_left : GoodIn wsL_law wsL_left := goodIn_ca (goodIn_ca (goodIn_r _ [406, 192, 103, 407, 408, 409, 2, 410, 16, 197, 198, 199, 200, 201, 411, 412, 413, 15, 414, 36, 257, 208, 209, 30, 210, 46, 113, 114, 115, 116, 117, 415, 416, 417, 418, 35, 277, 269, 42, 43, 44, 757, 758, 759, 793, 794, 795, 796, 797, 798, 799, 800, 801, 818] (by decide +kernel) (by decide +kernel)) (goodIn_sub (fun _ h => List.mem_append_right _ h) (by decide +kernel))) (goodIn_sub (fun _ h => List.mem_append_left _ (List.mem_append_right _ h)) (by decide +kernel))
set_option maxRecDepth 20000 in
theorem gL_law_L_left : GoodIn wsL_law (va_wsS RL 147 yL_left wsL_left) := goodIn_app (goodIn_of _ (by decide +kernel)) ggL_law_L_left
set_option maxRecDepth 20000 in
theorem ggL_law_X5_left : GoodIn wsL_law wsX5_left := goodIn_r _ [422, 79, 321, 322, 323, 5, 324, 282, 123, 124, 125, 126, 127, 128, 129, 130, 423, 424, 425, 426, 80, 78, 122, 760, 761, 762, 763, 764, 765, 766, 767, 768, 769, 770, 771, 772, 773, 774, 775, 776, 777, 778, 779, 780, 781, 782, 783, 784, 785, 786, 787, 788, 789, 790, 791, 792] (by decide +kernel) (by decide +kernel)
set_option maxRecDepth 20000 in
theorem gL_law_X5_left : GoodIn wsL_law (wsV RL 149 RX5 yX5_left wsX5_left) := goodIn_app (goodIn_of _ (by decide +kernel)) ggL_law_X5_left
set_option maxRecDepth 20000 in
theorem ggL_law_L_offers : GoodIn wsL_law wsL_offers := goodIn_ca (goodIn_r _ [429, 192, 430, 431, 432, 2, 433, 16, 197, 198, 199, 200, 201, 434, 435, 436, 437, 20, 438, 439, 440, 441, 411, 412, 413, 15, 414, 36, 257, 208, 209, 30, 210, 46, 301, 302, 303, 19, 304, 206, 56, 207, 442, 415, 416, 417, 418, 35, 277, 269, 42, 43, 44, 443, 444, 445, 446, 51, 52, 53, 447, 448, 449, 450, 55, 451, 452, 453, 454, 455, 271, 272, 456, 457, 458, 459, 57, 460, 461, 462, 463, 54, 59, 464, 465, 466, 467, 468, 469, 470, 471, 472, 473, 474, 475, 476, 477, 478, 479, 757, 758, 759, 793, 794, 795, 796, 797, 798, 799, 800, 801, 802, 803, 804, 805, 806, 807, 808, 809, 810, 811, 812, 818] (by decide +kernel) (by decide +kernel)) (goodIn_sub (fun _ h => List.mem_append_right _ h) (by decide +kernel))
