set_option maxRecDepth 20000 in
theorem ggL_pass_X4_pass : GoodIn wsL_pass wsX4_pass := goodIn_ca (goodIn_ca (goodIn_r _ [7, 8, 9, 10, 6, 11, 12, 13, 14, 15, 16, 17, 18, 19, 20, 21, 22, 23, 24, 25, 26, 27, 28, 29, 30] (by decide +kernel) (by decide +kernel)) (goodIn_sub (fun _ h => List.mem_cons_of_mem _ (List.mem_append_left _ (List.mem_append_right _ h))) (by decide +kernel))) (goodIn_sub (fun _ h => List.mem_cons_of_mem _ (List.mem_append_right _ h)) (by decide +kernel))
set_option maxRecDepth 20000 in
theorem gL_pass_X4_pass : GoodIn wsL_pass (wsV RL 7 RX4 yX4_pass wsX4_pass) := goodIn_app (goodIn_of _ (by decide +kernel)) ggL_pass_X4_pass
theorem dL_pass_0 : decode cL_pass 0 = .ok (.aload_n 2, 1) := by decide +kernel
theorem dL_pass_1 : decode cL_pass 1 = .ok (.iconst 0, 1) := by decide +kernel
theorem dL_pass_2 : decode cL_pass 2 = .ok (.aload_n 0, 1) := by decide +kernel
theorem dL_pass_3 : decode cL_pass 3 = .ok (.iload_n 1, 1) := by decide +kernel
theorem dL_pass_4 : decode cL_pass 4 = .ok (.invokevirtual 7, 3) := by decide +kernel
theorem dL_pass_7 : decode cL_pass 7 = .ok (.i2l, 1) := by decide +kernel
theorem dL_pass_8 : decode cL_pass 8 = .ok (.lastore, 1) := by decide +kernel
theorem dL_pass_9 : decode cL_pass 9 = .ok (.goto 9, 3) := by decide +kernel
theorem dL_pass_12 : decode cL_pass 12 = .ok (.astore_n 3, 1) := by decide +kernel
theorem dL_pass_13 : decode cL_pass 13 = .ok (.iconst 1, 1) := by decide +kernel
theorem dL_pass_14 : decode cL_pass 14 = .ok (.ireturn, 1) := by decide +kernel
theorem dL_pass_15 : decode cL_pass 15 = .ok (.astore_n 3, 1) := by decide +kernel
theorem dL_pass_16 : decode cL_pass 16 = .ok (.iconst 2, 1) := by decide +kernel
theorem dL_pass_17 : decode cL_pass 17 = .ok (.ireturn, 1) := by decide +kernel
theorem dL_pass_18 : decode cL_pass 18 = .ok (.iconst 0, 1) := by decide +kernel
theorem dL_pass_19 : decode cL_pass 19 = .ok (.ireturn, 1) := by decide +kernel
set_option maxRecDepth 20000 in
theorem ggL_addTable_X4_addTable : GoodIn wsL_addTable wsX4_addTable := goodIn_ca (goodIn_ca (goodIn_r _ [7, 8, 9, 10, 6, 11, 12, 13, 14, 15, 16, 17, 18, 19, 20, 21, 22, 23, 24, 25, 26, 27, 28, 29, 30, 31, 32, 33, 34, 35, 36, 37, 38, 39, 40, 41, 42, 43, 44] (by decide +kernel) (by decide +kernel)) (goodIn_sub (fun _ h => List.mem_cons_of_mem _ (List.mem_append_left _ (List.mem_append_right _ h))) (by decide +kernel))) (goodIn_sub (fun _ h => List.mem_cons_of_mem _ (List.mem_append_right _ h)) (by decide +kernel))
set_option maxRecDepth 20000 in
theorem gL_addTable_X4_addTable : GoodIn wsL_addTable (wsV RL 17 RX4 yX4_addTable wsX4_addTable) := goodIn_app (goodIn_of _ (by decide +kernel)) ggL_addTable_X4_addTable
theorem dL_addTable_0 : decode cL_addTable 0 = .ok (.aload_n 2, 1) := by decide +kernel
theorem dL_addTable_1 : decode cL_addTable 1 = .ok (.iconst 0, 1) := by decide +kernel
theorem dL_addTable_2 : decode cL_addTable 2 = .ok (.aload_n 0, 1) := by decide +kernel
theorem dL_addTable_3 : decode cL_addTable 3 = .ok (.iload_n 1, 1) := by decide +kernel
theorem dL_addTable_4 : decode cL_addTable 4 = .ok (.invokevirtual 17, 3) := by decide +kernel
theorem dL_addTable_7 : decode cL_addTable 7 = .ok (.i2l, 1) := by decide +kernel
theorem dL_addTable_8 : decode cL_addTable 8 = .ok (.lastore, 1) := by decide +kernel
theorem dL_addTable_9 : decode cL_addTable 9 = .ok (.goto 9, 3) := by decide +kernel
theorem dL_addTable_12 : decode cL_addTable 12 = .ok (.astore_n 3, 1) := by decide +kernel
theorem dL_addTable_13 : decode cL_addTable 13 = .ok (.iconst 1, 1) := by decide +kernel
theorem dL_addTable_14 : decode cL_addTable 14 = .ok (.ireturn, 1) := by decide +kernel
theorem dL_addTable_15 : decode cL_addTable 15 = .ok (.astore_n 3, 1) := by decide +kernel
theorem dL_addTable_16 : decode cL_addTable 16 = .ok (.iconst 2, 1) := by decide +kernel
theorem dL_addTable_17 : decode cL_addTable 17 = .ok (.ireturn, 1) := by decide +kernel
theorem dL_addTable_18 : decode cL_addTable 18 = .ok (.iconst 0, 1) := by decide +kernel
theorem dL_addTable_19 : decode cL_addTable 19 = .ok (.ireturn, 1) := by decide +kernel
set_option maxRecDepth 20000 in
theorem ggL_addTitle_X4_addTitle : GoodIn wsL_addTitle wsX4_addTitle := goodIn_ca (goodIn_ca (goodIn_r _ [7, 8, 9, 10, 6, 11, 12, 13, 14, 15, 16, 17, 18, 19, 20, 21, 22, 23, 24, 25, 26, 27, 28, 29, 30, 31, 32, 33, 34, 35, 36, 37, 38, 39, 40, 41, 42, 43, 44, 45, 46, 47, 48, 49, 50, 51, 52, 53] (by decide +kernel) (by decide +kernel)) (goodIn_sub (fun _ h => List.mem_cons_of_mem _ (List.mem_append_left _ (List.mem_append_right _ h))) (by decide +kernel))) (goodIn_sub (fun _ h => List.mem_cons_of_mem _ (List.mem_append_right _ h)) (by decide +kernel))
set_option maxRecDepth 20000 in
theorem gL_addTitle_X4_addTitle : GoodIn wsL_addTitle (wsV RL 20 RX4 yX4_addTitle wsX4_addTitle) := goodIn_app (goodIn_of _ (by decide +kernel)) ggL_addTitle_X4_addTitle
theorem dL_addTitle_0 : decode cL_addTitle 0 = .ok (.aload 8, 2) := by decide +kernel
theorem dL_addTitle_2 : decode cL_addTitle 2 = .ok (.iconst 0, 1) := by decide +kernel
theorem dL_addTitle_3 : decode cL_addTitle 3 = .ok (.aload_n 0, 1) := by decide +kernel
theorem dL_addTitle_4 : decode cL_addTitle 4 = .ok (.iload_n 1, 1) := by decide +kernel
theorem dL_addTitle_5 : decode cL_addTitle 5 = .ok (.iload_n 2, 1) := by decide +kernel
theorem dL_addTitle_6 : decode cL_addTitle 6 = .ok (.iload_n 3, 1) := by decide +kernel
theorem dL_addTitle_7 : decode cL_addTitle 7 = .ok (.iload 4, 2) := by decide +kernel
theorem dL_addTitle_9 : decode cL_addTitle 9 = .ok (.iload 5, 2) := by decide +kernel
theorem dL_addTitle_11 : decode cL_addTitle 11 = .ok (.iload 6, 2) := by decide +kernel
theorem dL_addTitle_13 : decode cL_addTitle 13 = .ok (.iload 7, 2) := by decide +kernel
theorem dL_addTitle_15 : decode cL_addTitle 15 = .ok (.invokevirtual 20, 3) := by decide +kernel
theorem dL_addTitle_18 : decode cL_addTitle 18 = .ok (.i2l, 1) := by decide +kernel
theorem dL_addTitle_19 : decode cL_addTitle 19 = .ok (.lastore, 1) := by decide +kernel
theorem dL_addTitle_20 : decode cL_addTitle 20 = .ok (.goto 11, 3) := by decide +kernel
theorem dL_addTitle_23 : decode cL_addTitle 23 = .ok (.astore 9, 2) := by decide +kernel
theorem dL_addTitle_25 : decode cL_addTitle 25 = .ok (.iconst 1, 1) := by decide +kernel
theorem dL_addTitle_26 : decode cL_addTitle 26 = .ok (.ireturn, 1) := by decide +kernel
theorem dL_addTitle_27 : decode cL_addTitle 27 = .ok (.astore 9, 2) := by decide +kernel
theorem dL_addTitle_29 : decode cL_addTitle 29 = .ok (.iconst 2, 1) := by decide +kernel
theorem dL_addTitle_30 : decode cL_addTitle 30 = .ok (.ireturn, 1) := by decide +kernel
theorem dL_addTitle_31 : decode cL_addTitle 31 = .ok (.iconst 0, 1) := by decide +kernel
theorem dL_addTitle_32 : decode cL_addTitle 32 = .ok (.ireturn, 1) := by decide +kernel
set_option maxRecDepth 20000 in
theorem ggL_addCopy_X4_addCopy : GoodIn wsL_addCopy wsX4_addCopy := goodIn_ca (goodIn_ca (goodIn_r _ [7, 8, 9, 10, 6, 11, 12, 13, 14, 15, 16, 17, 18, 19, 20, 21, 22, 23, 24, 25, 26, 27, 28, 29, 30, 31, 32, 33, 34, 35, 36, 37, 38, 39, 40, 41, 42, 43, 44, 45, 46, 47, 48, 49, 50, 51, 52] (by decide +kernel) (by decide +kernel)) (goodIn_sub (fun _ h => List.mem_cons_of_mem _ (List.mem_append_left _ (List.mem_append_right _ h))) (by decide +kernel))) (goodIn_sub (fun _ h => List.mem_cons_of_mem _ (List.mem_append_right _ h)) (by decide +kernel))
set_option maxRecDepth 20000 in
theorem gL_addCopy_X4_addCopy : GoodIn wsL_addCopy (wsV RL 24 RX4 yX4_addCopy wsX4_addCopy) := goodIn_app (goodIn_of _ (by decide +kernel)) ggL_addCopy_X4_addCopy
theorem dL_addCopy_0 : decode cL_addCopy 0 = .ok (.aload_n 2, 1) := by decide +kernel
theorem dL_addCopy_1 : decode cL_addCopy 1 = .ok (.iconst 0, 1) := by decide +kernel
theorem dL_addCopy_2 : decode cL_addCopy 2 = .ok (.aload_n 0, 1) := by decide +kernel
theorem dL_addCopy_3 : decode cL_addCopy 3 = .ok (.iload_n 1, 1) := by decide +kernel
theorem dL_addCopy_4 : decode cL_addCopy 4 = .ok (.invokevirtual 24, 3) := by decide +kernel
theorem dL_addCopy_7 : decode cL_addCopy 7 = .ok (.i2l, 1) := by decide +kernel
theorem dL_addCopy_8 : decode cL_addCopy 8 = .ok (.lastore, 1) := by decide +kernel
theorem dL_addCopy_9 : decode cL_addCopy 9 = .ok (.goto 9, 3) := by decide +kernel
theorem dL_addCopy_12 : decode cL_addCopy 12 = .ok (.astore_n 3, 1) := by decide +kernel
theorem dL_addCopy_13 : decode cL_addCopy 13 = .ok (.iconst 1, 1) := by decide +kernel
theorem dL_addCopy_14 : decode cL_addCopy 14 = .ok (.ireturn, 1) := by decide +kernel
theorem dL_addCopy_15 : decode cL_addCopy 15 = .ok (.astore_n 3, 1) := by decide +kernel
theorem dL_addCopy_16 : decode cL_addCopy 16 = .ok (.iconst 2, 1) := by decide +kernel
theorem dL_addCopy_17 : decode cL_addCopy 17 = .ok (.ireturn, 1) := by decide +kernel
theorem dL_addCopy_18 : decode cL_addCopy 18 = .ok (.iconst 0, 1) := by decide +kernel
theorem dL_addCopy_19 : decode cL_addCopy 19 = .ok (.ireturn, 1) := by decide +kernel
set_option maxRecDepth 20000 in
theorem ggL_addRule_X4_addRule : GoodIn wsL_addRule wsX4_addRule := goodIn_ca (goodIn_ca (goodIn_ca (goodIn_r _ [8, 9, 10, 11, 12, 7, 13, 14, 15, 16, 17, 18, 19, 20, 21, 22, 23, 24, 25, 26, 27, 28, 29, 30, 31, 32, 33, 34, 35, 36, 37, 38, 39, 40, 41, 42, 43, 44, 45, 46, 47, 48, 49, 50, 51, 52, 53, 54, 55, 56, 57, 58, 59, 60, 61, 62, 63, 64, 65, 66, 67, 68, 69] (by decide +kernel) (by decide +kernel)) (goodIn_sub (fun _ h => List.mem_cons_of_mem _ (List.mem_append_left _ (List.mem_append_left _ (List.mem_append_right _ h)))) (by decide +kernel))) (goodIn_sub (fun _ h => List.mem_cons_of_mem _ (List.mem_append_left _ (List.mem_append_right _ h))) (by decide +kernel))) (goodIn_sub (fun _ h => List.mem_cons_of_mem _ (List.mem_append_right _ h)) (by decide +kernel))
set_option maxRecDepth 20000 in
theorem gL_addRule_X4_addRule : GoodIn wsL_addRule (wsV RL 29 RX4 yX4_addRule wsX4_addRule) := goodIn_app (goodIn_of _ (by decide +kernel)) ggL_addRule_X4_addRule
theorem dL_addRule_0 : decode cL_addRule 0 = .ok (.aload 6, 2) := by decide +kernel
theorem dL_addRule_2 : decode cL_addRule 2 = .ok (.iconst 0, 1) := by decide +kernel
theorem dL_addRule_3 : decode cL_addRule 3 = .ok (.aload_n 0, 1) := by decide +kernel
theorem dL_addRule_4 : decode cL_addRule 4 = .ok (.iload_n 1, 1) := by decide +kernel
theorem dL_addRule_5 : decode cL_addRule 5 = .ok (.iload_n 2, 1) := by decide +kernel
theorem dL_addRule_6 : decode cL_addRule 6 = .ok (.iload_n 3, 1) := by decide +kernel
theorem dL_addRule_7 : decode cL_addRule 7 = .ok (.iload 4, 2) := by decide +kernel
theorem dL_addRule_9 : decode cL_addRule 9 = .ok (.iload 5, 2) := by decide +kernel
theorem dL_addRule_11 : decode cL_addRule 11 = .ok (.invokevirtual 29, 3) := by decide +kernel
theorem dL_addRule_14 : decode cL_addRule 14 = .ok (.i2l, 1) := by decide +kernel
theorem dL_addRule_15 : decode cL_addRule 15 = .ok (.lastore, 1) := by decide +kernel
theorem dL_addRule_16 : decode cL_addRule 16 = .ok (.goto 15, 3) := by decide +kernel
theorem dL_addRule_19 : decode cL_addRule 19 = .ok (.astore 7, 2) := by decide +kernel
theorem dL_addRule_21 : decode cL_addRule 21 = .ok (.iconst 1, 1) := by decide +kernel
theorem dL_addRule_22 : decode cL_addRule 22 = .ok (.ireturn, 1) := by decide +kernel
theorem dL_addRule_23 : decode cL_addRule 23 = .ok (.astore 7, 2) := by decide +kernel
theorem dL_addRule_25 : decode cL_addRule 25 = .ok (.iconst 2, 1) := by decide +kernel
theorem dL_addRule_26 : decode cL_addRule 26 = .ok (.ireturn, 1) := by decide +kernel
theorem dL_addRule_27 : decode cL_addRule 27 = .ok (.astore 7, 2) := by decide +kernel
theorem dL_addRule_29 : decode cL_addRule 29 = .ok (.iconst 3, 1) := by decide +kernel
theorem dL_addRule_30 : decode cL_addRule 30 = .ok (.ireturn, 1) := by decide +kernel
theorem dL_addRule_31 : decode cL_addRule 31 = .ok (.iconst 0, 1) := by decide +kernel
theorem dL_addRule_32 : decode cL_addRule 32 = .ok (.ireturn, 1) := by decide +kernel
set_option maxRecDepth 20000 in
theorem ggL_arrive_X4_arrive : GoodIn wsL_arrive wsX4_arrive := goodIn_ca (goodIn_ca (goodIn_r _ [7, 8, 9, 10, 6, 11, 12, 13, 14, 15, 16, 17, 18, 19, 20, 21, 22, 23, 24, 25, 26, 27, 28, 29, 30, 31, 32, 33, 34, 35, 36, 37, 38, 39, 40, 41, 42, 43, 44, 45, 46, 47, 48, 49, 50, 51, 52, 53, 54, 55, 56, 57, 58, 59, 60, 61, 62, 63, 64, 65, 66, 67, 68, 69, 70, 71, 72, 73, 74, 75, 76, 77, 78, 79, 80, 81] (by decide +kernel) (by decide +kernel)) (goodIn_sub (fun _ h => List.mem_cons_of_mem _ (List.mem_append_left _ (List.mem_append_right _ h))) (by decide +kernel))) (goodIn_sub (fun _ h => List.mem_cons_of_mem _ (List.mem_append_right _ h)) (by decide +kernel))
set_option maxRecDepth 20000 in
theorem gL_arrive_X4_arrive : GoodIn wsL_arrive (wsV RL 33 RX4 yX4_arrive wsX4_arrive) := goodIn_app (goodIn_of _ (by decide +kernel)) ggL_arrive_X4_arrive
theorem dL_arrive_0 : decode cL_arrive 0 = .ok (.aload_n 3, 1) := by decide +kernel
theorem dL_arrive_1 : decode cL_arrive 1 = .ok (.iconst 0, 1) := by decide +kernel
theorem dL_arrive_2 : decode cL_arrive 2 = .ok (.aload_n 0, 1) := by decide +kernel
theorem dL_arrive_3 : decode cL_arrive 3 = .ok (.iload_n 1, 1) := by decide +kernel
theorem dL_arrive_4 : decode cL_arrive 4 = .ok (.iload_n 2, 1) := by decide +kernel
theorem dL_arrive_5 : decode cL_arrive 5 = .ok (.invokevirtual 33, 3) := by decide +kernel
theorem dL_arrive_8 : decode cL_arrive 8 = .ok (.i2l, 1) := by decide +kernel
theorem dL_arrive_9 : decode cL_arrive 9 = .ok (.lastore, 1) := by decide +kernel
theorem dL_arrive_10 : decode cL_arrive 10 = .ok (.goto 11, 3) := by decide +kernel
theorem dL_arrive_13 : decode cL_arrive 13 = .ok (.astore 4, 2) := by decide +kernel
theorem dL_arrive_15 : decode cL_arrive 15 = .ok (.iconst 1, 1) := by decide +kernel
theorem dL_arrive_16 : decode cL_arrive 16 = .ok (.ireturn, 1) := by decide +kernel
theorem dL_arrive_17 : decode cL_arrive 17 = .ok (.astore 4, 2) := by decide +kernel
theorem dL_arrive_19 : decode cL_arrive 19 = .ok (.iconst 2, 1) := by decide +kernel
theorem dL_arrive_20 : decode cL_arrive 20 = .ok (.ireturn, 1) := by decide +kernel
theorem dL_arrive_21 : decode cL_arrive 21 = .ok (.iconst 0, 1) := by decide +kernel
theorem dL_arrive_22 : decode cL_arrive 22 = .ok (.ireturn, 1) := by decide +kernel
set_option maxRecDepth 20000 in
theorem ggL_leave_X4_leave : GoodIn wsL_leave wsX4_leave := goodIn_ca (goodIn_ca (goodIn_r _ [7, 8, 9, 10, 11, 6, 12, 13, 14, 15, 16, 17, 18, 19, 20, 21, 22, 23, 24, 25, 26, 27, 28, 29, 30, 31, 32, 33, 34, 35, 36, 37, 38, 39, 40, 41, 42, 43, 44, 45, 46, 47, 48, 49, 50, 51, 52, 53, 54, 55, 56, 57, 58, 59, 60, 61, 62, 63, 64, 65, 66, 67, 68, 69, 70, 71, 72, 73, 74, 75, 76, 77, 78, 79, 80, 81, 82, 83, 84, 85, 86, 87, 88, 89, 90, 91, 92, 93, 94, 95, 96, 97, 98, 99, 100, 101, 102, 103, 104, 105, 106, 107, 108, 109] (by decide +kernel) (by decide +kernel)) (goodIn_sub (fun _ h => List.mem_cons_of_mem _ (List.mem_append_left _ (List.mem_append_right _ h))) (by decide +kernel))) (goodIn_sub (fun _ h => List.mem_cons_of_mem _ (List.mem_append_right _ h)) (by decide +kernel))
set_option maxRecDepth 20000 in
theorem gL_leave_X4_leave : GoodIn wsL_leave (wsV RL 37 RX4 yX4_leave wsX4_leave) := goodIn_app (goodIn_of _ (by decide +kernel)) ggL_leave_X4_leave
theorem dL_leave_0 : decode cL_leave 0 = .ok (.aload_n 2, 1) := by decide +kernel
theorem dL_leave_1 : decode cL_leave 1 = .ok (.iconst 0, 1) := by decide +kernel
theorem dL_leave_2 : decode cL_leave 2 = .ok (.aload_n 0, 1) := by decide +kernel
theorem dL_leave_3 : decode cL_leave 3 = .ok (.iload_n 1, 1) := by decide +kernel
theorem dL_leave_4 : decode cL_leave 4 = .ok (.invokevirtual 37, 3) := by decide +kernel
theorem dL_leave_7 : decode cL_leave 7 = .ok (.i2l, 1) := by decide +kernel
theorem dL_leave_8 : decode cL_leave 8 = .ok (.lastore, 1) := by decide +kernel
theorem dL_leave_9 : decode cL_leave 9 = .ok (.goto 9, 3) := by decide +kernel
theorem dL_leave_12 : decode cL_leave 12 = .ok (.astore_n 3, 1) := by decide +kernel
theorem dL_leave_13 : decode cL_leave 13 = .ok (.iconst 1, 1) := by decide +kernel
theorem dL_leave_14 : decode cL_leave 14 = .ok (.ireturn, 1) := by decide +kernel
theorem dL_leave_15 : decode cL_leave 15 = .ok (.astore_n 3, 1) := by decide +kernel
theorem dL_leave_16 : decode cL_leave 16 = .ok (.iconst 2, 1) := by decide +kernel
theorem dL_leave_17 : decode cL_leave 17 = .ok (.ireturn, 1) := by decide +kernel
theorem dL_leave_18 : decode cL_leave 18 = .ok (.iconst 0, 1) := by decide +kernel
theorem dL_leave_19 : decode cL_leave 19 = .ok (.ireturn, 1) := by decide +kernel
set_option maxRecDepth 20000 in
theorem ggL_tableOf_X4_tableOf : GoodIn wsL_tableOf wsX4_tableOf := goodIn_ca (goodIn_r _ [6, 7, 8, 9, 5, 10, 11, 12, 13, 14, 15, 16, 17, 18, 19, 20, 21, 22, 23, 24, 25, 26, 27, 28, 29, 30, 31, 32, 33, 34, 35, 36, 37, 38] (by decide +kernel) (by decide +kernel)) (goodIn_sub (fun _ h => List.mem_cons_of_mem _ (List.mem_append_right _ h)) (by decide +kernel))
set_option maxRecDepth 20000 in
theorem gL_tableOf_X4_tableOf : GoodIn wsL_tableOf (wsV RL 40 RX4 yX4_tableOf wsX4_tableOf) := goodIn_app (goodIn_of _ (by decide +kernel)) ggL_tableOf_X4_tableOf
theorem dL_tableOf_0 : decode cL_tableOf 0 = .ok (.aload_n 2, 1) := by decide +kernel
theorem dL_tableOf_1 : decode cL_tableOf 1 = .ok (.iconst 0, 1) := by decide +kernel
theorem dL_tableOf_2 : decode cL_tableOf 2 = .ok (.aload_n 0, 1) := by decide +kernel
theorem dL_tableOf_3 : decode cL_tableOf 3 = .ok (.iload_n 1, 1) := by decide +kernel
theorem dL_tableOf_4 : decode cL_tableOf 4 = .ok (.invokevirtual 40, 3) := by decide +kernel
theorem dL_tableOf_7 : decode cL_tableOf 7 = .ok (.i2l, 1) := by decide +kernel
theorem dL_tableOf_8 : decode cL_tableOf 8 = .ok (.lastore, 1) := by decide +kernel
theorem dL_tableOf_9 : decode cL_tableOf 9 = .ok (.goto 6, 3) := by decide +kernel
theorem dL_tableOf_12 : decode cL_tableOf 12 = .ok (.astore_n 3, 1) := by decide +kernel
theorem dL_tableOf_13 : decode cL_tableOf 13 = .ok (.iconst 1, 1) := by decide +kernel
theorem dL_tableOf_14 : decode cL_tableOf 14 = .ok (.ireturn, 1) := by decide +kernel
theorem dL_tableOf_15 : decode cL_tableOf 15 = .ok (.iconst 0, 1) := by decide +kernel
theorem dL_tableOf_16 : decode cL_tableOf 16 = .ok (.ireturn, 1) := by decide +kernel
set_option maxRecDepth 20000 in
theorem ggL_tablesOf_X4_tablesOf : GoodIn wsL_tablesOf wsX4_tablesOf := goodIn_ca (goodIn_r _ [6, 7, 8, 9, 5, 10, 11, 12, 13, 14, 15, 16, 17, 18, 19, 20, 21, 22, 23, 24, 25, 26, 27, 28, 29, 30, 31, 32, 33, 34, 35, 36, 37, 38] (by decide +kernel) (by decide +kernel)) (goodIn_sub (fun _ h => List.mem_cons_of_mem _ (List.mem_append_right _ h)) (by decide +kernel))
set_option maxRecDepth 20000 in
theorem gL_tablesOf_X4_tablesOf : GoodIn wsL_tablesOf (wsV RL 43 RX4 yX4_tablesOf wsX4_tablesOf) := goodIn_app (goodIn_of _ (by decide +kernel)) ggL_tablesOf_X4_tablesOf
theorem dL_tablesOf_0 : decode cL_tablesOf 0 = .ok (.aload_n 2, 1) := by decide +kernel
theorem dL_tablesOf_1 : decode cL_tablesOf 1 = .ok (.iconst 0, 1) := by decide +kernel
theorem dL_tablesOf_2 : decode cL_tablesOf 2 = .ok (.aload_n 0, 1) := by decide +kernel
theorem dL_tablesOf_3 : decode cL_tablesOf 3 = .ok (.iload_n 1, 1) := by decide +kernel
theorem dL_tablesOf_4 : decode cL_tablesOf 4 = .ok (.invokevirtual 43, 3) := by decide +kernel
theorem dL_tablesOf_7 : decode cL_tablesOf 7 = .ok (.i2l, 1) := by decide +kernel
theorem dL_tablesOf_8 : decode cL_tablesOf 8 = .ok (.lastore, 1) := by decide +kernel
theorem dL_tablesOf_9 : decode cL_tablesOf 9 = .ok (.goto 6, 3) := by decide +kernel
theorem dL_tablesOf_12 : decode cL_tablesOf 12 = .ok (.astore_n 3, 1) := by decide +kernel
theorem dL_tablesOf_13 : decode cL_tablesOf 13 = .ok (.iconst 1, 1) := by decide +kernel
theorem dL_tablesOf_14 : decode cL_tablesOf 14 = .ok (.ireturn, 1) := by decide +kernel
theorem dL_tablesOf_15 : decode cL_tablesOf 15 = .ok (.iconst 0, 1) := by decide +kernel
theorem dL_tablesOf_16 : decode cL_tablesOf 16 = .ok (.ireturn, 1) := by decide +kernel
set_option maxRecDepth 20000 in
theorem ggL_waste_X4_waste : GoodIn wsL_waste wsX4_waste := goodIn_ca (goodIn_r _ [6, 7, 8, 9, 5, 10, 11, 12, 13, 14, 15, 16, 17, 18, 19, 20, 21, 22, 23, 24, 25, 26, 27, 28, 29, 30, 31, 32, 33, 34, 35, 36, 37, 38, 39, 40, 41, 42, 43, 44, 45, 46, 47, 48, 49, 50, 51, 52, 53] (by decide +kernel) (by decide +kernel)) (goodIn_sub (fun _ h => List.mem_cons_of_mem _ (List.mem_append_right _ h)) (by decide +kernel))
set_option maxRecDepth 20000 in
theorem gL_waste_X4_waste : GoodIn wsL_waste (wsV RL 46 RX4 yX4_waste wsX4_waste) := goodIn_app (goodIn_of _ (by decide +kernel)) ggL_waste_X4_waste
theorem dL_waste_0 : decode cL_waste 0 = .ok (.aload_n 2, 1) := by decide +kernel
theorem dL_waste_1 : decode cL_waste 1 = .ok (.iconst 0, 1) := by decide +kernel
theorem dL_waste_2 : decode cL_waste 2 = .ok (.aload_n 0, 1) := by decide +kernel
theorem dL_waste_3 : decode cL_waste 3 = .ok (.iload_n 1, 1) := by decide +kernel
theorem dL_waste_4 : decode cL_waste 4 = .ok (.invokevirtual 46, 3) := by decide +kernel
theorem dL_waste_7 : decode cL_waste 7 = .ok (.i2l, 1) := by decide +kernel
theorem dL_waste_8 : decode cL_waste 8 = .ok (.lastore, 1) := by decide +kernel
theorem dL_waste_9 : decode cL_waste 9 = .ok (.goto 6, 3) := by decide +kernel
theorem dL_waste_12 : decode cL_waste 12 = .ok (.astore_n 3, 1) := by decide +kernel
theorem dL_waste_13 : decode cL_waste 13 = .ok (.iconst 1, 1) := by decide +kernel
theorem dL_waste_14 : decode cL_waste 14 = .ok (.ireturn, 1) := by decide +kernel
theorem dL_waste_15 : decode cL_waste 15 = .ok (.iconst 0, 1) := by decide +kernel
theorem dL_waste_16 : decode cL_waste 16 = .ok (.ireturn, 1) := by decide +kernel
set_option maxRecDepth 20000 in
theorem ggL_wasteByAll_X4_wasteByAll : GoodIn wsL_wasteByAll wsX4_wasteByAll := goodIn_ca (goodIn_r _ [6, 7, 8, 9, 5, 10, 11, 12, 13, 14, 15, 16, 17, 18, 19, 20, 21, 22, 23, 24, 25, 26, 27, 28, 29, 30, 31, 32, 33, 34, 35, 36, 37, 38, 39, 40, 41, 42, 43, 44, 45, 46, 47, 48, 49, 50, 51, 52, 53, 54, 55] (by decide +kernel) (by decide +kernel)) (goodIn_sub (fun _ h => List.mem_cons_of_mem _ (List.mem_append_right _ h)) (by decide +kernel))
set_option maxRecDepth 20000 in
theorem gL_wasteByAll_X4_wasteByAll : GoodIn wsL_wasteByAll (wsV RL 49 RX4 yX4_wasteByAll wsX4_wasteByAll) := goodIn_app (goodIn_of _ (by decide +kernel)) ggL_wasteByAll_X4_wasteByAll
theorem dL_wasteByAll_0 : decode cL_wasteByAll 0 = .ok (.aload_n 2, 1) := by decide +kernel
theorem dL_wasteByAll_1 : decode cL_wasteByAll 1 = .ok (.iconst 0, 1) := by decide +kernel
theorem dL_wasteByAll_2 : decode cL_wasteByAll 2 = .ok (.aload_n 0, 1) := by decide +kernel
theorem dL_wasteByAll_3 : decode cL_wasteByAll 3 = .ok (.iload_n 1, 1) := by decide +kernel
theorem dL_wasteByAll_4 : decode cL_wasteByAll 4 = .ok (.invokevirtual 49, 3) := by decide +kernel
theorem dL_wasteByAll_7 : decode cL_wasteByAll 7 = .ok (.i2l, 1) := by decide +kernel
theorem dL_wasteByAll_8 : decode cL_wasteByAll 8 = .ok (.lastore, 1) := by decide +kernel
theorem dL_wasteByAll_9 : decode cL_wasteByAll 9 = .ok (.goto 6, 3) := by decide +kernel
theorem dL_wasteByAll_12 : decode cL_wasteByAll 12 = .ok (.astore_n 3, 1) := by decide +kernel
theorem dL_wasteByAll_13 : decode cL_wasteByAll 13 = .ok (.iconst 1, 1) := by decide +kernel
theorem dL_wasteByAll_14 : decode cL_wasteByAll 14 = .ok (.ireturn, 1) := by decide +kernel
theorem dL_wasteByAll_15 : decode cL_wasteByAll 15 = .ok (.iconst 0, 1) := by decide +kernel
theorem dL_wasteByAll_16 : decode cL_wasteByAll 16 = .ok (.ireturn, 1) := by decide +kernel
set_option maxRecDepth 20000 in
theorem ggL_left_X4_left : GoodIn wsL_left wsX4_left := goodIn_ca (goodIn_ca (goodIn_r _ [7, 8, 9, 10, 6, 11, 12, 13, 14, 15, 16, 17, 18, 19, 20, 21, 22, 23, 24, 25, 26, 27, 28, 29, 30, 31, 32, 33, 34, 35, 36, 37, 38, 39, 40, 41, 42, 43, 44, 45, 46, 47, 48, 49, 50, 51, 52, 53] (by decide +kernel) (by decide +kernel)) (goodIn_sub (fun _ h => List.mem_cons_of_mem _ (List.mem_append_left _ (List.mem_append_right _ h))) (by decide +kernel))) (goodIn_sub (fun _ h => List.mem_cons_of_mem _ (List.mem_append_right _ h)) (by decide +kernel))
set_option maxRecDepth 20000 in
theorem gL_left_X4_left : GoodIn wsL_left (wsV RL 52 RX4 yX4_left wsX4_left) := goodIn_app (goodIn_of _ (by decide +kernel)) ggL_left_X4_left
theorem dL_left_0 : decode cL_left 0 = .ok (.aload_n 2, 1) := by decide +kernel
theorem dL_left_1 : decode cL_left 1 = .ok (.iconst 0, 1) := by decide +kernel
theorem dL_left_2 : decode cL_left 2 = .ok (.aload_n 0, 1) := by decide +kernel
theorem dL_left_3 : decode cL_left 3 = .ok (.iload_n 1, 1) := by decide +kernel
theorem dL_left_4 : decode cL_left 4 = .ok (.invokevirtual 52, 3) := by decide +kernel
theorem dL_left_7 : decode cL_left 7 = .ok (.i2l, 1) := by decide +kernel
theorem dL_left_8 : decode cL_left 8 = .ok (.lastore, 1) := by decide +kernel
theorem dL_left_9 : decode cL_left 9 = .ok (.goto 9, 3) := by decide +kernel
theorem dL_left_12 : decode cL_left 12 = .ok (.astore_n 3, 1) := by decide +kernel
theorem dL_left_13 : decode cL_left 13 = .ok (.iconst 1, 1) := by decide +kernel
theorem dL_left_14 : decode cL_left 14 = .ok (.ireturn, 1) := by decide +kernel
theorem dL_left_15 : decode cL_left 15 = .ok (.astore_n 3, 1) := by decide +kernel
theorem dL_left_16 : decode cL_left 16 = .ok (.iconst 2, 1) := by decide +kernel
theorem dL_left_17 : decode cL_left 17 = .ok (.ireturn, 1) := by decide +kernel
theorem dL_left_18 : decode cL_left 18 = .ok (.iconst 0, 1) := by decide +kernel
theorem dL_left_19 : decode cL_left 19 = .ok (.ireturn, 1) := by decide +kernel
set_option maxRecDepth 20000 in
theorem ggL_offers_X4_offers : GoodIn wsL_offers wsX4_offers := goodIn_ca (goodIn_r _ [6, 7, 8, 9, 5, 10, 11, 12, 13, 14, 15, 16, 17, 18, 19, 20, 21, 22, 23, 24, 25, 26, 27, 28, 29, 30, 31, 32, 33, 34, 35, 36, 37, 38, 39, 40, 41, 42, 43, 44, 45, 46, 47, 48, 49, 50, 51, 52, 53, 54, 55, 56, 57, 58, 59, 60, 61, 62, 63, 64, 65, 66, 67, 68, 69, 70, 71, 72, 73, 74, 75, 76, 77, 78, 79, 80, 81, 82, 83, 84, 85, 86, 87, 88, 89, 90, 91, 92, 93, 94, 95, 96, 97, 98, 99, 100, 101, 102, 103, 104, 105, 106, 107, 108, 109, 110, 111, 112, 113, 114, 115, 116, 117, 118, 119, 120, 121, 122] (by decide +kernel) (by decide +kernel)) (goodIn_sub (fun _ h => List.mem_cons_of_mem _ (List.mem_append_right _ h)) (by decide +kernel))
set_option maxRecDepth 20000 in
theorem gL_offers_X4_offers : GoodIn wsL_offers (wsV RL 55 RX4 yX4_offers wsX4_offers) := goodIn_app (goodIn_of _ (by decide +kernel)) ggL_offers_X4_offers
theorem dL_offers_0 : decode cL_offers 0 = .ok (.aload_n 2, 1) := by decide +kernel
theorem dL_offers_1 : decode cL_offers 1 = .ok (.iconst 0, 1) := by decide +kernel
theorem dL_offers_2 : decode cL_offers 2 = .ok (.aload_n 0, 1) := by decide +kernel
theorem dL_offers_3 : decode cL_offers 3 = .ok (.iload_n 1, 1) := by decide +kernel
theorem dL_offers_4 : decode cL_offers 4 = .ok (.invokevirtual 55, 3) := by decide +kernel
theorem dL_offers_7 : decode cL_offers 7 = .ok (.i2l, 1) := by decide +kernel
theorem dL_offers_8 : decode cL_offers 8 = .ok (.lastore, 1) := by decide +kernel
theorem dL_offers_9 : decode cL_offers 9 = .ok (.goto 6, 3) := by decide +kernel
theorem dL_offers_12 : decode cL_offers 12 = .ok (.astore_n 3, 1) := by decide +kernel
theorem dL_offers_13 : decode cL_offers 13 = .ok (.iconst 1, 1) := by decide +kernel
theorem dL_offers_14 : decode cL_offers 14 = .ok (.ireturn, 1) := by decide +kernel
theorem dL_offers_15 : decode cL_offers 15 = .ok (.iconst 0, 1) := by decide +kernel
theorem dL_offers_16 : decode cL_offers 16 = .ok (.ireturn, 1) := by decide +kernel
set_option maxRecDepth 20000 in
theorem ggL_offerAt_X4_offerAt : GoodIn wsL_offerAt wsX4_offerAt := goodIn_ca (goodIn_r _ [6, 7, 8, 9, 10, 5, 11, 12, 13, 14, 15, 16, 17, 18, 19, 20, 21, 22, 23, 24, 25, 26, 27, 28, 29, 30, 31, 32, 33, 34, 35, 36, 37, 38, 39, 40, 41, 42, 43, 44, 45, 46, 47, 48, 49, 50, 51, 52, 53, 54, 55, 56, 57, 58, 59, 60, 61, 62, 63, 64, 65, 66, 67, 68, 69, 70, 71, 72, 73, 74, 75, 76, 77, 78, 79, 80, 81, 82, 83, 84, 85, 86, 87, 88, 89, 90, 91, 92, 93, 94, 95, 96, 97, 98, 99, 100, 101, 102, 103, 104, 105, 106, 107, 108, 109, 110, 111, 112, 113, 114, 115, 116, 117, 118, 119, 120, 121, 122, 123, 124, 125, 126, 127, 128, 129, 130, 131, 132, 133] (by decide +kernel) (by decide +kernel)) (goodIn_sub (fun _ h => List.mem_cons_of_mem _ (List.mem_append_right _ h)) (by decide +kernel))
set_option maxRecDepth 20000 in
theorem gL_offerAt_X4_offerAt : GoodIn wsL_offerAt (wsV RL 58 RX4 yX4_offerAt wsX4_offerAt) := goodIn_app (goodIn_of _ (by decide +kernel)) ggL_offerAt_X4_offerAt
theorem dL_offerAt_0 : decode cL_offerAt 0 = .ok (.aload_n 3, 1) := by decide +kernel
theorem dL_offerAt_1 : decode cL_offerAt 1 = .ok (.iconst 0, 1) := by decide +kernel
theorem dL_offerAt_2 : decode cL_offerAt 2 = .ok (.aload_n 0, 1) := by decide +kernel
theorem dL_offerAt_3 : decode cL_offerAt 3 = .ok (.iload_n 1, 1) := by decide +kernel
theorem dL_offerAt_4 : decode cL_offerAt 4 = .ok (.iload_n 2, 1) := by decide +kernel
theorem dL_offerAt_5 : decode cL_offerAt 5 = .ok (.invokevirtual 58, 3) := by decide +kernel
theorem dL_offerAt_8 : decode cL_offerAt 8 = .ok (.i2l, 1) := by decide +kernel
theorem dL_offerAt_9 : decode cL_offerAt 9 = .ok (.lastore, 1) := by decide +kernel
theorem dL_offerAt_10 : decode cL_offerAt 10 = .ok (.goto 7, 3) := by decide +kernel
theorem dL_offerAt_13 : decode cL_offerAt 13 = .ok (.astore 4, 2) := by decide +kernel
theorem dL_offerAt_15 : decode cL_offerAt 15 = .ok (.iconst 1, 1) := by decide +kernel
theorem dL_offerAt_16 : decode cL_offerAt 16 = .ok (.ireturn, 1) := by decide +kernel
theorem dL_offerAt_17 : decode cL_offerAt 17 = .ok (.iconst 0, 1) := by decide +kernel
theorem dL_offerAt_18 : decode cL_offerAt 18 = .ok (.ireturn, 1) := by decide +kernel
set_option maxRecDepth 20000 in
theorem ggL_serve_X4_serve : GoodIn wsL_serve wsX4_serve := goodIn_ca (goodIn_ca (goodIn_r _ [7, 8, 9, 10, 11, 6, 12, 13, 14, 15, 16, 17, 18, 19, 20, 21, 22, 23, 24, 25, 26, 27, 28, 29, 30, 31, 32, 33, 34, 35, 36, 37, 38, 39, 40, 41, 42, 43, 44, 45, 46, 47, 48, 49, 50, 51, 52, 53, 54, 55, 56, 57, 58, 59, 60, 61, 62, 63, 64, 65, 66, 67, 68, 69, 70, 71, 72, 73, 74, 75, 76, 77, 78, 79, 80, 81, 82, 83, 84, 85, 86, 87, 88, 89, 90, 91, 92, 93, 94, 95, 96, 97, 98, 99, 100, 101, 102, 103, 104, 105, 106, 107, 108, 109, 110, 111, 112, 113, 114, 115, 116, 117, 118, 119, 120, 121, 122, 123, 124, 125, 126, 127, 128, 129, 130, 131, 132, 133, 134, 135, 136, 137, 138, 139, 140] (by decide +kernel) (by decide +kernel)) (goodIn_sub (fun _ h => List.mem_cons_of_mem _ (List.mem_append_left _ (List.mem_append_right _ h))) (by decide +kernel))) (goodIn_sub (fun _ h => List.mem_cons_of_mem _ (List.mem_append_right _ h)) (by decide +kernel))
set_option maxRecDepth 20000 in
theorem gL_serve_X4_serve : GoodIn wsL_serve (wsV RL 61 RX4 yX4_serve wsX4_serve) := goodIn_app (goodIn_of _ (by decide +kernel)) ggL_serve_X4_serve
theorem dL_serve_0 : decode cL_serve 0 = .ok (.aload_n 3, 1) := by decide +kernel
theorem dL_serve_1 : decode cL_serve 1 = .ok (.iconst 0, 1) := by decide +kernel
theorem dL_serve_2 : decode cL_serve 2 = .ok (.aload_n 0, 1) := by decide +kernel
theorem dL_serve_3 : decode cL_serve 3 = .ok (.iload_n 1, 1) := by decide +kernel
theorem dL_serve_4 : decode cL_serve 4 = .ok (.iload_n 2, 1) := by decide +kernel
theorem dL_serve_5 : decode cL_serve 5 = .ok (.invokevirtual 61, 3) := by decide +kernel
theorem dL_serve_8 : decode cL_serve 8 = .ok (.i2l, 1) := by decide +kernel
theorem dL_serve_9 : decode cL_serve 9 = .ok (.lastore, 1) := by decide +kernel
theorem dL_serve_10 : decode cL_serve 10 = .ok (.goto 11, 3) := by decide +kernel
theorem dL_serve_13 : decode cL_serve 13 = .ok (.astore 4, 2) := by decide +kernel
theorem dL_serve_15 : decode cL_serve 15 = .ok (.iconst 1, 1) := by decide +kernel
theorem dL_serve_16 : decode cL_serve 16 = .ok (.ireturn, 1) := by decide +kernel
theorem dL_serve_17 : decode cL_serve 17 = .ok (.astore 4, 2) := by decide +kernel
theorem dL_serve_19 : decode cL_serve 19 = .ok (.iconst 2, 1) := by decide +kernel
theorem dL_serve_20 : decode cL_serve 20 = .ok (.ireturn, 1) := by decide +kernel
theorem dL_serve_21 : decode cL_serve 21 = .ok (.iconst 0, 1) := by decide +kernel
theorem dL_serve_22 : decode cL_serve 22 = .ok (.ireturn, 1) := by decide +kernel
set_option maxRecDepth 20000 in
theorem ggL_giveBack_X4_giveBack : GoodIn wsL_giveBack wsX4_giveBack := goodIn_ca (goodIn_ca (goodIn_ca (goodIn_r _ [8, 9, 10, 11, 12, 7, 13, 14, 15, 16, 17, 18, 19, 20, 21, 22, 23, 24, 25, 26, 27, 28, 29, 30, 31, 32, 33, 34, 35, 36, 37, 38, 39, 40, 41, 42, 43, 44, 45, 46, 47, 48, 49, 50, 51, 52, 53, 54, 55, 56, 57, 58, 59, 60, 61, 62, 63, 64, 65, 66, 67, 68, 69, 70, 71, 72, 73, 74, 75, 76, 77, 78, 79, 80, 81, 82, 83, 84, 85, 86, 87, 88, 89, 90] (by decide +kernel) (by decide +kernel)) (goodIn_sub (fun _ h => List.mem_cons_of_mem _ (List.mem_append_left _ (List.mem_append_left _ (List.mem_append_right _ h)))) (by decide +kernel))) (goodIn_sub (fun _ h => List.mem_cons_of_mem _ (List.mem_append_left _ (List.mem_append_right _ h))) (by decide +kernel))) (goodIn_sub (fun _ h => List.mem_cons_of_mem _ (List.mem_append_right _ h)) (by decide +kernel))
