set_option maxRecDepth 20000 in
theorem ggX0_init_X2_init : GoodIn wsX0_init wsX2_init := goodIn_r _ [15, 16, 2, 3, 17, 18, 19, 20, 21, 22, 23] (by decide +kernel) (by decide +kernel)
set_option maxRecDepth 20000 in
theorem gX0_init_X2_init : GoodIn wsX0_init (wsX2_init) := ggX0_init_X2_init
theorem dX0_init_0 : decode cX0_init 0 = .ok (.aload_n 0, 1) := by decide +kernel
theorem dX0_init_1 : decode cX0_init 1 = .ok (.invokespecial 3, 3) := by decide +kernel
theorem dX0_init_4 : decode cX0_init 4 = .ok (.aload_n 0, 1) := by decide +kernel
theorem dX0_init_5 : decode cX0_init 5 = .ok (.new 9, 3) := by decide +kernel
theorem dX0_init_8 : decode cX0_init 8 = .ok (.dup, 1) := by decide +kernel
theorem dX0_init_9 : decode cX0_init 9 = .ok (.bipush 10, 2) := by decide +kernel
theorem dX0_init_11 : decode cX0_init 11 = .ok (.iconst 0, 1) := by decide +kernel
theorem dX0_init_12 : decode cX0_init 12 = .ok (.invokespecial 11, 3) := by decide +kernel
theorem dX0_init_15 : decode cX0_init 15 = .ok (.putfield 14, 3) := by decide +kernel
theorem dX0_init_18 : decode cX0_init 18 = .ok (.aload_n 0, 1) := by decide +kernel
theorem dX0_init_19 : decode cX0_init 19 = .ok (.new 9, 3) := by decide +kernel
theorem dX0_init_22 : decode cX0_init 22 = .ok (.dup, 1) := by decide +kernel
theorem dX0_init_23 : decode cX0_init 23 = .ok (.bipush 10, 2) := by decide +kernel
theorem dX0_init_25 : decode cX0_init 25 = .ok (.iconst (-1), 1) := by decide +kernel
theorem dX0_init_26 : decode cX0_init 26 = .ok (.invokespecial 11, 3) := by decide +kernel
theorem dX0_init_29 : decode cX0_init 29 = .ok (.putfield 20, 3) := by decide +kernel
theorem dX0_init_32 : decode cX0_init 32 = .ok (.aload_n 0, 1) := by decide +kernel
theorem dX0_init_33 : decode cX0_init 33 = .ok (.new 9, 3) := by decide +kernel
theorem dX0_init_36 : decode cX0_init 36 = .ok (.dup, 1) := by decide +kernel
theorem dX0_init_37 : decode cX0_init 37 = .ok (.bipush 30, 2) := by decide +kernel
theorem dX0_init_39 : decode cX0_init 39 = .ok (.iconst 0, 1) := by decide +kernel
theorem dX0_init_40 : decode cX0_init 40 = .ok (.invokespecial 11, 3) := by decide +kernel
theorem dX0_init_43 : decode cX0_init 43 = .ok (.putfield 23, 3) := by decide +kernel
theorem dX0_init_46 : decode cX0_init 46 = .ok (.aload_n 0, 1) := by decide +kernel
theorem dX0_init_47 : decode cX0_init 47 = .ok (.new 9, 3) := by decide +kernel
theorem dX0_init_50 : decode cX0_init 50 = .ok (.dup, 1) := by decide +kernel
theorem dX0_init_51 : decode cX0_init 51 = .ok (.bipush 30, 2) := by decide +kernel
theorem dX0_init_53 : decode cX0_init 53 = .ok (.iconst 0, 1) := by decide +kernel
theorem dX0_init_54 : decode cX0_init 54 = .ok (.invokespecial 11, 3) := by decide +kernel
theorem dX0_init_57 : decode cX0_init 57 = .ok (.putfield 26, 3) := by decide +kernel
theorem dX0_init_60 : decode cX0_init 60 = .ok (.aload_n 0, 1) := by decide +kernel
theorem dX0_init_61 : decode cX0_init 61 = .ok (.new 9, 3) := by decide +kernel
theorem dX0_init_64 : decode cX0_init 64 = .ok (.dup, 1) := by decide +kernel
theorem dX0_init_65 : decode cX0_init 65 = .ok (.bipush 30, 2) := by decide +kernel
theorem dX0_init_67 : decode cX0_init 67 = .ok (.iconst 0, 1) := by decide +kernel
theorem dX0_init_68 : decode cX0_init 68 = .ok (.invokespecial 11, 3) := by decide +kernel
theorem dX0_init_71 : decode cX0_init 71 = .ok (.putfield 29, 3) := by decide +kernel
theorem dX0_init_74 : decode cX0_init 74 = .ok (.aload_n 0, 1) := by decide +kernel
theorem dX0_init_75 : decode cX0_init 75 = .ok (.new 9, 3) := by decide +kernel
theorem dX0_init_78 : decode cX0_init 78 = .ok (.dup, 1) := by decide +kernel
theorem dX0_init_79 : decode cX0_init 79 = .ok (.bipush 30, 2) := by decide +kernel
theorem dX0_init_81 : decode cX0_init 81 = .ok (.iconst 0, 1) := by decide +kernel
theorem dX0_init_82 : decode cX0_init 82 = .ok (.invokespecial 11, 3) := by decide +kernel
theorem dX0_init_85 : decode cX0_init 85 = .ok (.putfield 32, 3) := by decide +kernel
theorem dX0_init_88 : decode cX0_init 88 = .ok (.return_, 1) := by decide +kernel
set_option maxRecDepth 20000 in
theorem ggX0_putTable_X2_put : GoodIn wsX0_putTable wsX2_put := goodIn_r _ [7, 8, 18] (by decide +kernel) (by decide +kernel)
set_option maxRecDepth 20000 in
theorem gX0_putTable_X2_put : GoodIn wsX0_putTable (wsV RX0 39 RX2 yX2_put wsX2_put) := goodIn_app (goodIn_of _ (by decide +kernel)) ggX0_putTable_X2_put
theorem dX0_putTable_0 : decode cX0_putTable 0 = .ok (.aload_n 0, 1) := by decide +kernel
theorem dX0_putTable_1 : decode cX0_putTable 1 = .ok (.getfield 14, 3) := by decide +kernel
theorem dX0_putTable_4 : decode cX0_putTable 4 = .ok (.aload_n 0, 1) := by decide +kernel
theorem dX0_putTable_5 : decode cX0_putTable 5 = .ok (.getfield 35, 3) := by decide +kernel
theorem dX0_putTable_8 : decode cX0_putTable 8 = .ok (.iload_n 1, 1) := by decide +kernel
theorem dX0_putTable_9 : decode cX0_putTable 9 = .ok (.invokevirtual 39, 3) := by decide +kernel
theorem dX0_putTable_12 : decode cX0_putTable 12 = .ok (.aload_n 0, 1) := by decide +kernel
theorem dX0_putTable_13 : decode cX0_putTable 13 = .ok (.dup, 1) := by decide +kernel
theorem dX0_putTable_14 : decode cX0_putTable 14 = .ok (.getfield 35, 3) := by decide +kernel
theorem dX0_putTable_17 : decode cX0_putTable 17 = .ok (.iconst 1, 1) := by decide +kernel
theorem dX0_putTable_18 : decode cX0_putTable 18 = .ok (.iadd, 1) := by decide +kernel
theorem dX0_putTable_19 : decode cX0_putTable 19 = .ok (.putfield 35, 3) := by decide +kernel
theorem dX0_putTable_22 : decode cX0_putTable 22 = .ok (.aload_n 0, 1) := by decide +kernel
theorem dX0_putTable_23 : decode cX0_putTable 23 = .ok (.getfield 35, 3) := by decide +kernel
theorem dX0_putTable_26 : decode cX0_putTable 26 = .ok (.iconst 1, 1) := by decide +kernel
theorem dX0_putTable_27 : decode cX0_putTable 27 = .ok (.isub, 1) := by decide +kernel
theorem dX0_putTable_28 : decode cX0_putTable 28 = .ok (.ireturn, 1) := by decide +kernel
set_option maxRecDepth 20000 in
theorem ggX0_welcome_X2_put : GoodIn wsX0_welcome wsX2_put := goodIn_r _ [8, 9, 56] (by decide +kernel) (by decide +kernel)
set_option maxRecDepth 20000 in
theorem gX0_welcome_X2_put : GoodIn wsX0_welcome (wsV RX0 39 RX2 yX2_put wsX2_put) := goodIn_app (goodIn_of _ (by decide +kernel)) ggX0_welcome_X2_put
set_option maxRecDepth 20000 in
theorem ggX0_welcome_X0_seatIfPossible : GoodIn wsX0_welcome wsX0_seatIfPossible := goodIn_r _ [14, 2, 15, 16, 17, 18, 7, 19, 9, 20, 21, 22, 13, 23, 24, 25, 26, 27, 28, 29, 30, 31, 32, 33, 34, 35, 36, 37, 38, 39, 40, 41, 42, 43, 44, 45, 46, 3, 4, 5, 6, 8, 47, 48, 49, 50, 51, 52, 53, 54, 55, 56] (by decide +kernel) (by decide +kernel)
set_option maxRecDepth 20000 in
theorem gX0_welcome_X0_seatIfPossible : GoodIn wsX0_welcome (wsV RX0 45 RX0 yX0_seatIfPossible wsX0_seatIfPossible) := goodIn_app (goodIn_of _ (by decide +kernel)) ggX0_welcome_X0_seatIfPossible
theorem dX0_welcome_0 : decode cX0_welcome 0 = .ok (.aload_n 0, 1) := by decide +kernel
theorem dX0_welcome_1 : decode cX0_welcome 1 = .ok (.getfield 42, 3) := by decide +kernel
theorem dX0_welcome_4 : decode cX0_welcome 4 = .ok (.istore_n 3, 1) := by decide +kernel
theorem dX0_welcome_5 : decode cX0_welcome 5 = .ok (.aload_n 0, 1) := by decide +kernel
theorem dX0_welcome_6 : decode cX0_welcome 6 = .ok (.dup, 1) := by decide +kernel
theorem dX0_welcome_7 : decode cX0_welcome 7 = .ok (.getfield 42, 3) := by decide +kernel
theorem dX0_welcome_10 : decode cX0_welcome 10 = .ok (.iconst 1, 1) := by decide +kernel
theorem dX0_welcome_11 : decode cX0_welcome 11 = .ok (.iadd, 1) := by decide +kernel
theorem dX0_welcome_12 : decode cX0_welcome 12 = .ok (.putfield 42, 3) := by decide +kernel
theorem dX0_welcome_15 : decode cX0_welcome 15 = .ok (.aload_n 0, 1) := by decide +kernel
theorem dX0_welcome_16 : decode cX0_welcome 16 = .ok (.getfield 23, 3) := by decide +kernel
theorem dX0_welcome_19 : decode cX0_welcome 19 = .ok (.iload_n 3, 1) := by decide +kernel
theorem dX0_welcome_20 : decode cX0_welcome 20 = .ok (.iload_n 1, 1) := by decide +kernel
theorem dX0_welcome_21 : decode cX0_welcome 21 = .ok (.invokevirtual 39, 3) := by decide +kernel
theorem dX0_welcome_24 : decode cX0_welcome 24 = .ok (.aload_n 0, 1) := by decide +kernel
theorem dX0_welcome_25 : decode cX0_welcome 25 = .ok (.getfield 26, 3) := by decide +kernel
theorem dX0_welcome_28 : decode cX0_welcome 28 = .ok (.iload_n 3, 1) := by decide +kernel
theorem dX0_welcome_29 : decode cX0_welcome 29 = .ok (.iload_n 2, 1) := by decide +kernel
theorem dX0_welcome_30 : decode cX0_welcome 30 = .ok (.invokevirtual 39, 3) := by decide +kernel
theorem dX0_welcome_33 : decode cX0_welcome 33 = .ok (.aload_n 0, 1) := by decide +kernel
theorem dX0_welcome_34 : decode cX0_welcome 34 = .ok (.iload_n 3, 1) := by decide +kernel
theorem dX0_welcome_35 : decode cX0_welcome 35 = .ok (.invokevirtual 45, 3) := by decide +kernel
theorem dX0_welcome_38 : decode cX0_welcome 38 = .ok (.pop, 1) := by decide +kernel
theorem dX0_welcome_39 : decode cX0_welcome 39 = .ok (.iload_n 3, 1) := by decide +kernel
theorem dX0_welcome_40 : decode cX0_welcome 40 = .ok (.ireturn, 1) := by decide +kernel
set_option maxRecDepth 20000 in
theorem ggX0_dismiss_X2_put : GoodIn wsX0_dismiss wsX2_put := goodIn_r _ [8, 9, 60] (by decide +kernel) (by decide +kernel)
set_option maxRecDepth 20000 in
theorem gX0_dismiss_X2_put : GoodIn wsX0_dismiss (wsV RX0 39 RX2 yX2_put wsX2_put) := goodIn_app (goodIn_of _ (by decide +kernel)) ggX0_dismiss_X2_put
set_option maxRecDepth 20000 in
theorem ggX0_dismiss_X2_at : GoodIn wsX0_dismiss wsX2_at := goodIn_r _ [13, 9, 60] (by decide +kernel) (by decide +kernel)
set_option maxRecDepth 20000 in
theorem gX0_dismiss_X2_at : GoodIn wsX0_dismiss (wsV RX0 49 RX2 yX2_at wsX2_at) := goodIn_app (goodIn_of _ (by decide +kernel)) ggX0_dismiss_X2_at
set_option maxRecDepth 20000 in
theorem ggX0_dismiss_X0_seatWaiting : GoodIn wsX0_dismiss wsX0_seatWaiting := goodIn_r _ [18, 19, 1, 10, 11, 12, 7, 13, 9, 20, 21, 22, 17, 23, 24, 2, 25, 26, 27, 28, 29, 30, 31, 32, 3, 33, 34, 35, 36, 37, 38, 39, 40, 41, 42, 43, 44, 45, 46, 47, 48, 49, 50, 4, 5, 6, 8, 51, 52, 53, 54, 55, 56, 57, 58, 59, 60] (by decide +kernel) (by decide +kernel)
set_option maxRecDepth 20000 in
theorem gX0_dismiss_X0_seatWaiting : GoodIn wsX0_dismiss (wsV RX0 53 RX0 yX0_seatWaiting wsX0_seatWaiting) := goodIn_app (goodIn_of _ (by decide +kernel)) ggX0_dismiss_X0_seatWaiting
theorem dX0_dismiss_0 : decode cX0_dismiss 0 = .ok (.aload_n 0, 1) := by decide +kernel
theorem dX0_dismiss_1 : decode cX0_dismiss 1 = .ok (.getfield 32, 3) := by decide +kernel
theorem dX0_dismiss_4 : decode cX0_dismiss 4 = .ok (.iload_n 1, 1) := by decide +kernel
theorem dX0_dismiss_5 : decode cX0_dismiss 5 = .ok (.iconst 2, 1) := by decide +kernel
theorem dX0_dismiss_6 : decode cX0_dismiss 6 = .ok (.invokevirtual 39, 3) := by decide +kernel
theorem dX0_dismiss_9 : decode cX0_dismiss 9 = .ok (.iconst 0, 1) := by decide +kernel
theorem dX0_dismiss_10 : decode cX0_dismiss 10 = .ok (.istore_n 2, 1) := by decide +kernel
theorem dX0_dismiss_11 : decode cX0_dismiss 11 = .ok (.iload_n 2, 1) := by decide +kernel
theorem dX0_dismiss_12 : decode cX0_dismiss 12 = .ok (.aload_n 0, 1) := by decide +kernel
theorem dX0_dismiss_13 : decode cX0_dismiss 13 = .ok (.getfield 35, 3) := by decide +kernel
theorem dX0_dismiss_16 : decode cX0_dismiss 16 = .ok (.if_icmp .ge 30, 3) := by decide +kernel
theorem dX0_dismiss_19 : decode cX0_dismiss 19 = .ok (.aload_n 0, 1) := by decide +kernel
theorem dX0_dismiss_20 : decode cX0_dismiss 20 = .ok (.getfield 20, 3) := by decide +kernel
theorem dX0_dismiss_23 : decode cX0_dismiss 23 = .ok (.iload_n 2, 1) := by decide +kernel
theorem dX0_dismiss_24 : decode cX0_dismiss 24 = .ok (.invokevirtual 49, 3) := by decide +kernel
theorem dX0_dismiss_27 : decode cX0_dismiss 27 = .ok (.iload_n 1, 1) := by decide +kernel
theorem dX0_dismiss_28 : decode cX0_dismiss 28 = .ok (.if_icmp .ne 12, 3) := by decide +kernel
theorem dX0_dismiss_31 : decode cX0_dismiss 31 = .ok (.aload_n 0, 1) := by decide +kernel
theorem dX0_dismiss_32 : decode cX0_dismiss 32 = .ok (.getfield 20, 3) := by decide +kernel
theorem dX0_dismiss_35 : decode cX0_dismiss 35 = .ok (.iload_n 2, 1) := by decide +kernel
theorem dX0_dismiss_36 : decode cX0_dismiss 36 = .ok (.iconst (-1), 1) := by decide +kernel
theorem dX0_dismiss_37 : decode cX0_dismiss 37 = .ok (.invokevirtual 39, 3) := by decide +kernel
theorem dX0_dismiss_40 : decode cX0_dismiss 40 = .ok (.iinc 2 1, 3) := by decide +kernel
theorem dX0_dismiss_43 : decode cX0_dismiss 43 = .ok (.goto (-32), 3) := by decide +kernel
theorem dX0_dismiss_46 : decode cX0_dismiss 46 = .ok (.aload_n 0, 1) := by decide +kernel
theorem dX0_dismiss_47 : decode cX0_dismiss 47 = .ok (.invokevirtual 53, 3) := by decide +kernel
theorem dX0_dismiss_50 : decode cX0_dismiss 50 = .ok (.ireturn, 1) := by decide +kernel
set_option maxRecDepth 20000 in
theorem ggX0_seatWaiting_X2_at : GoodIn wsX0_seatWaiting wsX2_at := goodIn_r _ [7, 8, 56] (by decide +kernel) (by decide +kernel)
set_option maxRecDepth 20000 in
theorem gX0_seatWaiting_X2_at : GoodIn wsX0_seatWaiting (wsV RX0 49 RX2 yX2_at wsX2_at) := goodIn_app (goodIn_of _ (by decide +kernel)) ggX0_seatWaiting_X2_at
set_option maxRecDepth 20000 in
theorem ggX0_seatWaiting_X0_seatIfPossible : GoodIn wsX0_seatWaiting wsX0_seatIfPossible := goodIn_r _ [13, 14, 15, 3, 4, 5, 6, 7, 8, 16, 17, 18, 12, 19, 20, 21, 22, 23, 24, 25, 26, 27, 28, 29, 30, 31, 32, 33, 34, 35, 36, 37, 38, 39, 2, 40, 41, 42, 43, 44, 45, 46, 47, 48, 49, 50, 51, 52, 53, 54, 55, 56] (by decide +kernel) (by decide +kernel)
set_option maxRecDepth 20000 in
theorem gX0_seatWaiting_X0_seatIfPossible : GoodIn wsX0_seatWaiting (wsV RX0 45 RX0 yX0_seatIfPossible wsX0_seatIfPossible) := goodIn_app (goodIn_of _ (by decide +kernel)) ggX0_seatWaiting_X0_seatIfPossible
theorem dX0_seatWaiting_0 : decode cX0_seatWaiting 0 = .ok (.iconst 0, 1) := by decide +kernel
theorem dX0_seatWaiting_1 : decode cX0_seatWaiting 1 = .ok (.istore_n 1, 1) := by decide +kernel
theorem dX0_seatWaiting_2 : decode cX0_seatWaiting 2 = .ok (.iconst 0, 1) := by decide +kernel
theorem dX0_seatWaiting_3 : decode cX0_seatWaiting 3 = .ok (.istore_n 2, 1) := by decide +kernel
theorem dX0_seatWaiting_4 : decode cX0_seatWaiting 4 = .ok (.iload_n 2, 1) := by decide +kernel
theorem dX0_seatWaiting_5 : decode cX0_seatWaiting 5 = .ok (.aload_n 0, 1) := by decide +kernel
theorem dX0_seatWaiting_6 : decode cX0_seatWaiting 6 = .ok (.getfield 42, 3) := by decide +kernel
theorem dX0_seatWaiting_9 : decode cX0_seatWaiting 9 = .ok (.if_icmp .ge 31, 3) := by decide +kernel
theorem dX0_seatWaiting_12 : decode cX0_seatWaiting 12 = .ok (.aload_n 0, 1) := by decide +kernel
theorem dX0_seatWaiting_13 : decode cX0_seatWaiting 13 = .ok (.getfield 32, 3) := by decide +kernel
theorem dX0_seatWaiting_16 : decode cX0_seatWaiting 16 = .ok (.iload_n 2, 1) := by decide +kernel
theorem dX0_seatWaiting_17 : decode cX0_seatWaiting 17 = .ok (.invokevirtual 49, 3) := by decide +kernel
theorem dX0_seatWaiting_20 : decode cX0_seatWaiting 20 = .ok (.ifCond .ne 14, 3) := by decide +kernel
theorem dX0_seatWaiting_23 : decode cX0_seatWaiting 23 = .ok (.aload_n 0, 1) := by decide +kernel
theorem dX0_seatWaiting_24 : decode cX0_seatWaiting 24 = .ok (.iload_n 2, 1) := by decide +kernel
theorem dX0_seatWaiting_25 : decode cX0_seatWaiting 25 = .ok (.invokevirtual 45, 3) := by decide +kernel
theorem dX0_seatWaiting_28 : decode cX0_seatWaiting 28 = .ok (.ifCond .eq 6, 3) := by decide +kernel
theorem dX0_seatWaiting_31 : decode cX0_seatWaiting 31 = .ok (.iinc 1 1, 3) := by decide +kernel
theorem dX0_seatWaiting_34 : decode cX0_seatWaiting 34 = .ok (.iinc 2 1, 3) := by decide +kernel
theorem dX0_seatWaiting_37 : decode cX0_seatWaiting 37 = .ok (.goto (-33), 3) := by decide +kernel
theorem dX0_seatWaiting_40 : decode cX0_seatWaiting 40 = .ok (.iload_n 1, 1) := by decide +kernel
theorem dX0_seatWaiting_41 : decode cX0_seatWaiting 41 = .ok (.ireturn, 1) := by decide +kernel
set_option maxRecDepth 20000 in
theorem ggX0_seatIfPossible_X2_at : GoodIn wsX0_seatIfPossible wsX2_at := goodIn_r _ [7, 8, 51] (by decide +kernel) (by decide +kernel)
set_option maxRecDepth 20000 in
theorem gX0_seatIfPossible_X2_at : GoodIn wsX0_seatIfPossible (wsV RX0 49 RX2 yX2_at wsX2_at) := goodIn_app (goodIn_of _ (by decide +kernel)) ggX0_seatIfPossible_X2_at
set_option maxRecDepth 20000 in
theorem ggX0_seatIfPossible_X0_leastWaste : GoodIn wsX0_seatIfPossible wsX0_leastWaste := goodIn_r _ [13, 2, 14, 15, 16, 12, 17, 18, 19, 3, 4, 5, 6, 7, 8, 20, 21, 22, 23, 24, 25, 26, 27, 28, 29, 42, 43, 44, 45, 46, 47, 48, 49, 50, 51] (by decide +kernel) (by decide +kernel)
set_option maxRecDepth 20000 in
theorem gX0_seatIfPossible_X0_leastWaste : GoodIn wsX0_seatIfPossible (wsV RX0 57 RX0 yX0_leastWaste wsX0_leastWaste) := goodIn_app (goodIn_of _ (by decide +kernel)) ggX0_seatIfPossible_X0_leastWaste
set_option maxRecDepth 20000 in
theorem ggX0_seatIfPossible_X0_wasteAt : GoodIn wsX0_seatIfPossible wsX0_wasteAt := goodIn_r _ [17, 18, 19, 3, 4, 5, 6, 7, 8, 42, 43, 44, 45, 46, 47, 48, 49, 50, 51] (by decide +kernel) (by decide +kernel)
set_option maxRecDepth 20000 in
theorem gX0_seatIfPossible_X0_wasteAt : GoodIn wsX0_seatIfPossible (wsV RX0 60 RX0 yX0_wasteAt wsX0_wasteAt) := goodIn_app (goodIn_of _ (by decide +kernel)) ggX0_seatIfPossible_X0_wasteAt
set_option maxRecDepth 20000 in
theorem ggX0_seatIfPossible_X0_seat : GoodIn wsX0_seatIfPossible wsX0_seat := goodIn_r _ [33, 18, 34, 35, 36, 37, 38, 39, 40, 6, 41, 8, 3, 4, 5, 7, 42, 43, 44, 45, 46, 47, 48, 49, 50, 51] (by decide +kernel) (by decide +kernel)
set_option maxRecDepth 20000 in
theorem gX0_seatIfPossible_X0_seat : GoodIn wsX0_seatIfPossible (wsV RX0 64 RX0 yX0_seat wsX0_seat) := goodIn_app (goodIn_of _ (by decide +kernel)) ggX0_seatIfPossible_X0_seat
theorem dX0_seatIfPossible_0 : decode cX0_seatIfPossible 0 = .ok (.aload_n 0, 1) := by decide +kernel
theorem dX0_seatIfPossible_1 : decode cX0_seatIfPossible 1 = .ok (.aload_n 0, 1) := by decide +kernel
theorem dX0_seatIfPossible_2 : decode cX0_seatIfPossible 2 = .ok (.getfield 23, 3) := by decide +kernel
theorem dX0_seatIfPossible_5 : decode cX0_seatIfPossible 5 = .ok (.iload_n 1, 1) := by decide +kernel
theorem dX0_seatIfPossible_6 : decode cX0_seatIfPossible 6 = .ok (.invokevirtual 49, 3) := by decide +kernel
theorem dX0_seatIfPossible_9 : decode cX0_seatIfPossible 9 = .ok (.invokevirtual 57, 3) := by decide +kernel
theorem dX0_seatIfPossible_12 : decode cX0_seatIfPossible 12 = .ok (.istore_n 2, 1) := by decide +kernel
theorem dX0_seatIfPossible_13 : decode cX0_seatIfPossible 13 = .ok (.iload_n 2, 1) := by decide +kernel
theorem dX0_seatIfPossible_14 : decode cX0_seatIfPossible 14 = .ok (.iconst (-1), 1) := by decide +kernel
theorem dX0_seatIfPossible_15 : decode cX0_seatIfPossible 15 = .ok (.if_icmp .ne 5, 3) := by decide +kernel
theorem dX0_seatIfPossible_18 : decode cX0_seatIfPossible 18 = .ok (.iconst 0, 1) := by decide +kernel
theorem dX0_seatIfPossible_19 : decode cX0_seatIfPossible 19 = .ok (.ireturn, 1) := by decide +kernel
theorem dX0_seatIfPossible_20 : decode cX0_seatIfPossible 20 = .ok (.iconst 1, 1) := by decide +kernel
theorem dX0_seatIfPossible_21 : decode cX0_seatIfPossible 21 = .ok (.istore_n 3, 1) := by decide +kernel
theorem dX0_seatIfPossible_22 : decode cX0_seatIfPossible 22 = .ok (.iload_n 3, 1) := by decide +kernel
theorem dX0_seatIfPossible_23 : decode cX0_seatIfPossible 23 = .ok (.aload_n 0, 1) := by decide +kernel
theorem dX0_seatIfPossible_24 : decode cX0_seatIfPossible 24 = .ok (.getfield 35, 3) := by decide +kernel
theorem dX0_seatIfPossible_27 : decode cX0_seatIfPossible 27 = .ok (.if_icmp .gt 58, 3) := by decide +kernel
theorem dX0_seatIfPossible_30 : decode cX0_seatIfPossible 30 = .ok (.iconst 0, 1) := by decide +kernel
theorem dX0_seatIfPossible_31 : decode cX0_seatIfPossible 31 = .ok (.istore 4, 2) := by decide +kernel
theorem dX0_seatIfPossible_33 : decode cX0_seatIfPossible 33 = .ok (.iload 4, 2) := by decide +kernel
theorem dX0_seatIfPossible_35 : decode cX0_seatIfPossible 35 = .ok (.iload_n 3, 1) := by decide +kernel
theorem dX0_seatIfPossible_36 : decode cX0_seatIfPossible 36 = .ok (.iadd, 1) := by decide +kernel
theorem dX0_seatIfPossible_37 : decode cX0_seatIfPossible 37 = .ok (.aload_n 0, 1) := by decide +kernel
theorem dX0_seatIfPossible_38 : decode cX0_seatIfPossible 38 = .ok (.getfield 35, 3) := by decide +kernel
theorem dX0_seatIfPossible_41 : decode cX0_seatIfPossible 41 = .ok (.if_icmp .gt 38, 3) := by decide +kernel
theorem dX0_seatIfPossible_44 : decode cX0_seatIfPossible 44 = .ok (.aload_n 0, 1) := by decide +kernel
theorem dX0_seatIfPossible_45 : decode cX0_seatIfPossible 45 = .ok (.iload 4, 2) := by decide +kernel
theorem dX0_seatIfPossible_47 : decode cX0_seatIfPossible 47 = .ok (.iload_n 3, 1) := by decide +kernel
theorem dX0_seatIfPossible_48 : decode cX0_seatIfPossible 48 = .ok (.aload_n 0, 1) := by decide +kernel
theorem dX0_seatIfPossible_49 : decode cX0_seatIfPossible 49 = .ok (.getfield 23, 3) := by decide +kernel
theorem dX0_seatIfPossible_52 : decode cX0_seatIfPossible 52 = .ok (.iload_n 1, 1) := by decide +kernel
theorem dX0_seatIfPossible_53 : decode cX0_seatIfPossible 53 = .ok (.invokevirtual 49, 3) := by decide +kernel
theorem dX0_seatIfPossible_56 : decode cX0_seatIfPossible 56 = .ok (.invokevirtual 60, 3) := by decide +kernel
theorem dX0_seatIfPossible_59 : decode cX0_seatIfPossible 59 = .ok (.iload_n 2, 1) := by decide +kernel
theorem dX0_seatIfPossible_60 : decode cX0_seatIfPossible 60 = .ok (.if_icmp .ne 13, 3) := by decide +kernel
theorem dX0_seatIfPossible_63 : decode cX0_seatIfPossible 63 = .ok (.aload_n 0, 1) := by decide +kernel
theorem dX0_seatIfPossible_64 : decode cX0_seatIfPossible 64 = .ok (.iload_n 1, 1) := by decide +kernel
theorem dX0_seatIfPossible_65 : decode cX0_seatIfPossible 65 = .ok (.iload 4, 2) := by decide +kernel
theorem dX0_seatIfPossible_67 : decode cX0_seatIfPossible 67 = .ok (.iload_n 3, 1) := by decide +kernel
theorem dX0_seatIfPossible_68 : decode cX0_seatIfPossible 68 = .ok (.invokevirtual 64, 3) := by decide +kernel
theorem dX0_seatIfPossible_71 : decode cX0_seatIfPossible 71 = .ok (.iconst 1, 1) := by decide +kernel
theorem dX0_seatIfPossible_72 : decode cX0_seatIfPossible 72 = .ok (.ireturn, 1) := by decide +kernel
theorem dX0_seatIfPossible_73 : decode cX0_seatIfPossible 73 = .ok (.iinc 4 1, 3) := by decide +kernel
theorem dX0_seatIfPossible_76 : decode cX0_seatIfPossible 76 = .ok (.goto (-43), 3) := by decide +kernel
theorem dX0_seatIfPossible_79 : decode cX0_seatIfPossible 79 = .ok (.iinc 3 1, 3) := by decide +kernel
theorem dX0_seatIfPossible_82 : decode cX0_seatIfPossible 82 = .ok (.goto (-60), 3) := by decide +kernel
theorem dX0_seatIfPossible_85 : decode cX0_seatIfPossible 85 = .ok (.iconst 0, 1) := by decide +kernel
theorem dX0_seatIfPossible_86 : decode cX0_seatIfPossible 86 = .ok (.ireturn, 1) := by decide +kernel
set_option maxRecDepth 20000 in
theorem ggX0_seat_X2_put : GoodIn wsX0_seat wsX2_put := goodIn_r _ [10, 11, 25] (by decide +kernel) (by decide +kernel)
set_option maxRecDepth 20000 in
theorem gX0_seat_X2_put : GoodIn wsX0_seat (wsV RX0 39 RX2 yX2_put wsX2_put) := goodIn_app (goodIn_of _ (by decide +kernel)) ggX0_seat_X2_put
set_option maxRecDepth 20000 in
theorem ggX0_seat_X2_at : GoodIn wsX0_seat wsX2_at := goodIn_r _ [15, 11, 25] (by decide +kernel) (by decide +kernel)
set_option maxRecDepth 20000 in
theorem gX0_seat_X2_at : GoodIn wsX0_seat (wsV RX0 49 RX2 yX2_at wsX2_at) := goodIn_app (goodIn_of _ (by decide +kernel)) ggX0_seat_X2_at
theorem dX0_seat_0 : decode cX0_seat 0 = .ok (.iload_n 2, 1) := by decide +kernel
theorem dX0_seat_1 : decode cX0_seat 1 = .ok (.istore 4, 2) := by decide +kernel
theorem dX0_seat_3 : decode cX0_seat 3 = .ok (.iload 4, 2) := by decide +kernel
theorem dX0_seat_5 : decode cX0_seat 5 = .ok (.iload_n 2, 1) := by decide +kernel
theorem dX0_seat_6 : decode cX0_seat 6 = .ok (.iload_n 3, 1) := by decide +kernel
theorem dX0_seat_7 : decode cX0_seat 7 = .ok (.iadd, 1) := by decide +kernel
theorem dX0_seat_8 : decode cX0_seat 8 = .ok (.if_icmp .ge 19, 3) := by decide +kernel
theorem dX0_seat_11 : decode cX0_seat 11 = .ok (.aload_n 0, 1) := by decide +kernel
theorem dX0_seat_12 : decode cX0_seat 12 = .ok (.getfield 20, 3) := by decide +kernel
theorem dX0_seat_15 : decode cX0_seat 15 = .ok (.iload 4, 2) := by decide +kernel
theorem dX0_seat_17 : decode cX0_seat 17 = .ok (.iload_n 1, 1) := by decide +kernel
theorem dX0_seat_18 : decode cX0_seat 18 = .ok (.invokevirtual 39, 3) := by decide +kernel
theorem dX0_seat_21 : decode cX0_seat 21 = .ok (.iinc 4 1, 3) := by decide +kernel
theorem dX0_seat_24 : decode cX0_seat 24 = .ok (.goto (-21), 3) := by decide +kernel
theorem dX0_seat_27 : decode cX0_seat 27 = .ok (.aload_n 0, 1) := by decide +kernel
theorem dX0_seat_28 : decode cX0_seat 28 = .ok (.getfield 32, 3) := by decide +kernel
theorem dX0_seat_31 : decode cX0_seat 31 = .ok (.iload_n 1, 1) := by decide +kernel
theorem dX0_seat_32 : decode cX0_seat 32 = .ok (.iconst 1, 1) := by decide +kernel
theorem dX0_seat_33 : decode cX0_seat 33 = .ok (.invokevirtual 39, 3) := by decide +kernel
theorem dX0_seat_36 : decode cX0_seat 36 = .ok (.aload_n 0, 1) := by decide +kernel
theorem dX0_seat_37 : decode cX0_seat 37 = .ok (.getfield 29, 3) := by decide +kernel
theorem dX0_seat_40 : decode cX0_seat 40 = .ok (.iload_n 1, 1) := by decide +kernel
theorem dX0_seat_41 : decode cX0_seat 41 = .ok (.aload_n 0, 1) := by decide +kernel
theorem dX0_seat_42 : decode cX0_seat 42 = .ok (.getfield 68, 3) := by decide +kernel
theorem dX0_seat_45 : decode cX0_seat 45 = .ok (.aload_n 0, 1) := by decide +kernel
theorem dX0_seat_46 : decode cX0_seat 46 = .ok (.getfield 26, 3) := by decide +kernel
theorem dX0_seat_49 : decode cX0_seat 49 = .ok (.iload_n 1, 1) := by decide +kernel
theorem dX0_seat_50 : decode cX0_seat 50 = .ok (.invokevirtual 49, 3) := by decide +kernel
theorem dX0_seat_53 : decode cX0_seat 53 = .ok (.iadd, 1) := by decide +kernel
theorem dX0_seat_54 : decode cX0_seat 54 = .ok (.invokevirtual 39, 3) := by decide +kernel
theorem dX0_seat_57 : decode cX0_seat 57 = .ok (.return_, 1) := by decide +kernel
set_option maxRecDepth 20000 in
theorem ggX0_leastWaste_X0_wasteAt : GoodIn wsX0_leastWaste wsX0_wasteAt := goodIn_r _ [6, 7, 8, 9, 10, 11, 12, 13, 14, 25, 26, 27, 28, 29, 30, 31, 32, 33, 34] (by decide +kernel) (by decide +kernel)
set_option maxRecDepth 20000 in
theorem gX0_leastWaste_X0_wasteAt : GoodIn wsX0_leastWaste (wsV RX0 60 RX0 yX0_wasteAt wsX0_wasteAt) := goodIn_app (goodIn_of _ (by decide +kernel)) ggX0_leastWaste_X0_wasteAt
set_option maxRecDepth 20000 in
theorem ggX0_leastWaste_X0_lesser : GoodIn wsX0_leastWaste wsX0_lesser := goodIn_r _ [17, 18, 19, 20, 21, 22, 23, 24] (by decide +kernel) (by decide +kernel)
set_option maxRecDepth 20000 in
theorem gX0_leastWaste_X0_lesser : GoodIn wsX0_leastWaste (va_wsS RX0 71 yX0_lesser wsX0_lesser) := goodIn_app (goodIn_of _ (by decide +kernel)) ggX0_leastWaste_X0_lesser
theorem dX0_leastWaste_0 : decode cX0_leastWaste 0 = .ok (.iconst (-1), 1) := by decide +kernel
theorem dX0_leastWaste_1 : decode cX0_leastWaste 1 = .ok (.istore_n 2, 1) := by decide +kernel
theorem dX0_leastWaste_2 : decode cX0_leastWaste 2 = .ok (.iconst 1, 1) := by decide +kernel
theorem dX0_leastWaste_3 : decode cX0_leastWaste 3 = .ok (.istore_n 3, 1) := by decide +kernel
theorem dX0_leastWaste_4 : decode cX0_leastWaste 4 = .ok (.iload_n 3, 1) := by decide +kernel
theorem dX0_leastWaste_5 : decode cX0_leastWaste 5 = .ok (.aload_n 0, 1) := by decide +kernel
theorem dX0_leastWaste_6 : decode cX0_leastWaste 6 = .ok (.getfield 35, 3) := by decide +kernel
theorem dX0_leastWaste_9 : decode cX0_leastWaste 9 = .ok (.if_icmp .gt 42, 3) := by decide +kernel
theorem dX0_leastWaste_12 : decode cX0_leastWaste 12 = .ok (.iconst 0, 1) := by decide +kernel
theorem dX0_leastWaste_13 : decode cX0_leastWaste 13 = .ok (.istore 4, 2) := by decide +kernel
theorem dX0_leastWaste_15 : decode cX0_leastWaste 15 = .ok (.iload 4, 2) := by decide +kernel
theorem dX0_leastWaste_17 : decode cX0_leastWaste 17 = .ok (.iload_n 3, 1) := by decide +kernel
theorem dX0_leastWaste_18 : decode cX0_leastWaste 18 = .ok (.iadd, 1) := by decide +kernel
theorem dX0_leastWaste_19 : decode cX0_leastWaste 19 = .ok (.aload_n 0, 1) := by decide +kernel
theorem dX0_leastWaste_20 : decode cX0_leastWaste 20 = .ok (.getfield 35, 3) := by decide +kernel
theorem dX0_leastWaste_23 : decode cX0_leastWaste 23 = .ok (.if_icmp .gt 22, 3) := by decide +kernel
theorem dX0_leastWaste_26 : decode cX0_leastWaste 26 = .ok (.iload_n 2, 1) := by decide +kernel
theorem dX0_leastWaste_27 : decode cX0_leastWaste 27 = .ok (.aload_n 0, 1) := by decide +kernel
theorem dX0_leastWaste_28 : decode cX0_leastWaste 28 = .ok (.iload 4, 2) := by decide +kernel
theorem dX0_leastWaste_30 : decode cX0_leastWaste 30 = .ok (.iload_n 3, 1) := by decide +kernel
theorem dX0_leastWaste_31 : decode cX0_leastWaste 31 = .ok (.iload_n 1, 1) := by decide +kernel
theorem dX0_leastWaste_32 : decode cX0_leastWaste 32 = .ok (.invokevirtual 60, 3) := by decide +kernel
theorem dX0_leastWaste_35 : decode cX0_leastWaste 35 = .ok (.invokestatic 71, 3) := by decide +kernel
theorem dX0_leastWaste_38 : decode cX0_leastWaste 38 = .ok (.istore_n 2, 1) := by decide +kernel
theorem dX0_leastWaste_39 : decode cX0_leastWaste 39 = .ok (.iinc 4 1, 3) := by decide +kernel
theorem dX0_leastWaste_42 : decode cX0_leastWaste 42 = .ok (.goto (-27), 3) := by decide +kernel
theorem dX0_leastWaste_45 : decode cX0_leastWaste 45 = .ok (.iinc 3 1, 3) := by decide +kernel
theorem dX0_leastWaste_48 : decode cX0_leastWaste 48 = .ok (.goto (-44), 3) := by decide +kernel
theorem dX0_leastWaste_51 : decode cX0_leastWaste 51 = .ok (.iload_n 2, 1) := by decide +kernel
theorem dX0_leastWaste_52 : decode cX0_leastWaste 52 = .ok (.ireturn, 1) := by decide +kernel
set_option maxRecDepth 20000 in
theorem ggX0_wasteAt_X2_at : GoodIn wsX0_wasteAt wsX2_at := goodIn_r _ [7, 8, 18] (by decide +kernel) (by decide +kernel)
set_option maxRecDepth 20000 in
theorem gX0_wasteAt_X2_at : GoodIn wsX0_wasteAt (wsV RX0 49 RX2 yX2_at wsX2_at) := goodIn_app (goodIn_of _ (by decide +kernel)) ggX0_wasteAt_X2_at
theorem dX0_wasteAt_0 : decode cX0_wasteAt 0 = .ok (.iconst 1, 1) := by decide +kernel
theorem dX0_wasteAt_1 : decode cX0_wasteAt 1 = .ok (.iload_n 2, 1) := by decide +kernel
theorem dX0_wasteAt_2 : decode cX0_wasteAt 2 = .ok (.isub, 1) := by decide +kernel
theorem dX0_wasteAt_3 : decode cX0_wasteAt 3 = .ok (.istore 4, 2) := by decide +kernel
theorem dX0_wasteAt_5 : decode cX0_wasteAt 5 = .ok (.iload_n 1, 1) := by decide +kernel
theorem dX0_wasteAt_6 : decode cX0_wasteAt 6 = .ok (.istore 5, 2) := by decide +kernel
theorem dX0_wasteAt_8 : decode cX0_wasteAt 8 = .ok (.iload 5, 2) := by decide +kernel
theorem dX0_wasteAt_10 : decode cX0_wasteAt 10 = .ok (.iload_n 1, 1) := by decide +kernel
theorem dX0_wasteAt_11 : decode cX0_wasteAt 11 = .ok (.iload_n 2, 1) := by decide +kernel
theorem dX0_wasteAt_12 : decode cX0_wasteAt 12 = .ok (.iadd, 1) := by decide +kernel
theorem dX0_wasteAt_13 : decode cX0_wasteAt 13 = .ok (.if_icmp .ge 38, 3) := by decide +kernel
theorem dX0_wasteAt_16 : decode cX0_wasteAt 16 = .ok (.aload_n 0, 1) := by decide +kernel
theorem dX0_wasteAt_17 : decode cX0_wasteAt 17 = .ok (.getfield 20, 3) := by decide +kernel
theorem dX0_wasteAt_20 : decode cX0_wasteAt 20 = .ok (.iload 5, 2) := by decide +kernel
theorem dX0_wasteAt_22 : decode cX0_wasteAt 22 = .ok (.invokevirtual 49, 3) := by decide +kernel
theorem dX0_wasteAt_25 : decode cX0_wasteAt 25 = .ok (.iconst (-1), 1) := by decide +kernel
theorem dX0_wasteAt_26 : decode cX0_wasteAt 26 = .ok (.if_icmp .eq 5, 3) := by decide +kernel
theorem dX0_wasteAt_29 : decode cX0_wasteAt 29 = .ok (.iconst (-1), 1) := by decide +kernel
theorem dX0_wasteAt_30 : decode cX0_wasteAt 30 = .ok (.ireturn, 1) := by decide +kernel
theorem dX0_wasteAt_31 : decode cX0_wasteAt 31 = .ok (.iload 4, 2) := by decide +kernel
theorem dX0_wasteAt_33 : decode cX0_wasteAt 33 = .ok (.aload_n 0, 1) := by decide +kernel
theorem dX0_wasteAt_34 : decode cX0_wasteAt 34 = .ok (.getfield 14, 3) := by decide +kernel
theorem dX0_wasteAt_37 : decode cX0_wasteAt 37 = .ok (.iload 5, 2) := by decide +kernel
theorem dX0_wasteAt_39 : decode cX0_wasteAt 39 = .ok (.invokevirtual 49, 3) := by decide +kernel
theorem dX0_wasteAt_42 : decode cX0_wasteAt 42 = .ok (.iadd, 1) := by decide +kernel
theorem dX0_wasteAt_43 : decode cX0_wasteAt 43 = .ok (.istore 4, 2) := by decide +kernel
theorem dX0_wasteAt_45 : decode cX0_wasteAt 45 = .ok (.iinc 5 1, 3) := by decide +kernel
theorem dX0_wasteAt_48 : decode cX0_wasteAt 48 = .ok (.goto (-40), 3) := by decide +kernel
theorem dX0_wasteAt_51 : decode cX0_wasteAt 51 = .ok (.iload 4, 2) := by decide +kernel
theorem dX0_wasteAt_53 : decode cX0_wasteAt 53 = .ok (.iload_n 3, 1) := by decide +kernel
theorem dX0_wasteAt_54 : decode cX0_wasteAt 54 = .ok (.if_icmp .ge 7, 3) := by decide +kernel
theorem dX0_wasteAt_57 : decode cX0_wasteAt 57 = .ok (.iconst (-1), 1) := by decide +kernel
theorem dX0_wasteAt_58 : decode cX0_wasteAt 58 = .ok (.goto 7, 3) := by decide +kernel
theorem dX0_wasteAt_61 : decode cX0_wasteAt 61 = .ok (.iload 4, 2) := by decide +kernel
theorem dX0_wasteAt_63 : decode cX0_wasteAt 63 = .ok (.iload_n 3, 1) := by decide +kernel
theorem dX0_wasteAt_64 : decode cX0_wasteAt 64 = .ok (.isub, 1) := by decide +kernel
theorem dX0_wasteAt_65 : decode cX0_wasteAt 65 = .ok (.ireturn, 1) := by decide +kernel
set_option maxRecDepth 20000 in
theorem ggX0_leastWasteOfSets_X0_wasteOfSet : GoodIn wsX0_leastWasteOfSets wsX0_wasteOfSet := goodIn_r _ [6, 1, 7, 8, 9, 10, 11, 12, 13, 14, 15, 16, 17, 28, 29, 30, 31, 32, 33, 34, 35, 36, 37] (by decide +kernel) (by decide +kernel)
set_option maxRecDepth 20000 in
theorem gX0_leastWasteOfSets_X0_wasteOfSet : GoodIn wsX0_leastWasteOfSets (wsV RX0 75 RX0 yX0_wasteOfSet wsX0_wasteOfSet) := goodIn_app (goodIn_of _ (by decide +kernel)) ggX0_leastWasteOfSets_X0_wasteOfSet
set_option maxRecDepth 20000 in
theorem ggX0_leastWasteOfSets_X0_lesser : GoodIn wsX0_leastWasteOfSets wsX0_lesser := goodIn_r _ [20, 21, 22, 23, 24, 25, 26, 27] (by decide +kernel) (by decide +kernel)
set_option maxRecDepth 20000 in
theorem gX0_leastWasteOfSets_X0_lesser : GoodIn wsX0_leastWasteOfSets (va_wsS RX0 71 yX0_lesser wsX0_lesser) := goodIn_app (goodIn_of _ (by decide +kernel)) ggX0_leastWasteOfSets_X0_lesser
theorem dX0_leastWasteOfSets_0 : decode cX0_leastWasteOfSets 0 = .ok (.iconst (-1), 1) := by decide +kernel
theorem dX0_leastWasteOfSets_1 : decode cX0_leastWasteOfSets 1 = .ok (.istore_n 2, 1) := by decide +kernel
theorem dX0_leastWasteOfSets_2 : decode cX0_leastWasteOfSets 2 = .ok (.iconst 1, 1) := by decide +kernel
theorem dX0_leastWasteOfSets_3 : decode cX0_leastWasteOfSets 3 = .ok (.istore_n 3, 1) := by decide +kernel
theorem dX0_leastWasteOfSets_4 : decode cX0_leastWasteOfSets 4 = .ok (.iload_n 3, 1) := by decide +kernel
theorem dX0_leastWasteOfSets_5 : decode cX0_leastWasteOfSets 5 = .ok (.iconst 1, 1) := by decide +kernel
theorem dX0_leastWasteOfSets_6 : decode cX0_leastWasteOfSets 6 = .ok (.aload_n 0, 1) := by decide +kernel
theorem dX0_leastWasteOfSets_7 : decode cX0_leastWasteOfSets 7 = .ok (.getfield 35, 3) := by decide +kernel
theorem dX0_leastWasteOfSets_10 : decode cX0_leastWasteOfSets 10 = .ok (.ishl, 1) := by decide +kernel
theorem dX0_leastWasteOfSets_11 : decode cX0_leastWasteOfSets 11 = .ok (.if_icmp .ge 20, 3) := by decide +kernel
theorem dX0_leastWasteOfSets_14 : decode cX0_leastWasteOfSets 14 = .ok (.iload_n 2, 1) := by decide +kernel
theorem dX0_leastWasteOfSets_15 : decode cX0_leastWasteOfSets 15 = .ok (.aload_n 0, 1) := by decide +kernel
theorem dX0_leastWasteOfSets_16 : decode cX0_leastWasteOfSets 16 = .ok (.iload_n 3, 1) := by decide +kernel
theorem dX0_leastWasteOfSets_17 : decode cX0_leastWasteOfSets 17 = .ok (.iload_n 1, 1) := by decide +kernel
theorem dX0_leastWasteOfSets_18 : decode cX0_leastWasteOfSets 18 = .ok (.invokevirtual 75, 3) := by decide +kernel
theorem dX0_leastWasteOfSets_21 : decode cX0_leastWasteOfSets 21 = .ok (.invokestatic 71, 3) := by decide +kernel
theorem dX0_leastWasteOfSets_24 : decode cX0_leastWasteOfSets 24 = .ok (.istore_n 2, 1) := by decide +kernel
theorem dX0_leastWasteOfSets_25 : decode cX0_leastWasteOfSets 25 = .ok (.iinc 3 1, 3) := by decide +kernel
theorem dX0_leastWasteOfSets_28 : decode cX0_leastWasteOfSets 28 = .ok (.goto (-24), 3) := by decide +kernel
theorem dX0_leastWasteOfSets_31 : decode cX0_leastWasteOfSets 31 = .ok (.iload_n 2, 1) := by decide +kernel
theorem dX0_leastWasteOfSets_32 : decode cX0_leastWasteOfSets 32 = .ok (.ireturn, 1) := by decide +kernel
set_option maxRecDepth 20000 in
theorem ggX0_wasteOfSet_X4_contains : GoodIn wsX0_wasteOfSet wsX4_contains := goodIn_r _ [6] (by decide +kernel) (by decide +kernel)
set_option maxRecDepth 20000 in
theorem gX0_wasteOfSet_X4_contains_n78 : GoodIn wsX0_wasteOfSet (wsX4_contains) := ggX0_wasteOfSet_X4_contains
set_option maxRecDepth 20000 in
theorem ggX0_wasteOfSet_X2_at : GoodIn wsX0_wasteOfSet wsX2_at := goodIn_r _ [11, 12, 22] (by decide +kernel) (by decide +kernel)
set_option maxRecDepth 20000 in
theorem gX0_wasteOfSet_X2_at : GoodIn wsX0_wasteOfSet (wsV RX0 49 RX2 yX2_at wsX2_at) := goodIn_app (goodIn_of _ (by decide +kernel)) ggX0_wasteOfSet_X2_at
theorem dX0_wasteOfSet_0 : decode cX0_wasteOfSet 0 = .ok (.iconst (-1), 1) := by decide +kernel
theorem dX0_wasteOfSet_1 : decode cX0_wasteOfSet 1 = .ok (.istore_n 3, 1) := by decide +kernel
theorem dX0_wasteOfSet_2 : decode cX0_wasteOfSet 2 = .ok (.iconst 1, 1) := by decide +kernel
theorem dX0_wasteOfSet_3 : decode cX0_wasteOfSet 3 = .ok (.istore 4, 2) := by decide +kernel
theorem dX0_wasteOfSet_5 : decode cX0_wasteOfSet 5 = .ok (.iconst 0, 1) := by decide +kernel
theorem dX0_wasteOfSet_6 : decode cX0_wasteOfSet 6 = .ok (.istore 5, 2) := by decide +kernel
theorem dX0_wasteOfSet_8 : decode cX0_wasteOfSet 8 = .ok (.iload 5, 2) := by decide +kernel
theorem dX0_wasteOfSet_10 : decode cX0_wasteOfSet 10 = .ok (.aload_n 0, 1) := by decide +kernel
theorem dX0_wasteOfSet_11 : decode cX0_wasteOfSet 11 = .ok (.getfield 35, 3) := by decide +kernel
theorem dX0_wasteOfSet_14 : decode cX0_wasteOfSet 14 = .ok (.if_icmp .ge 77, 3) := by decide +kernel
theorem dX0_wasteOfSet_17 : decode cX0_wasteOfSet 17 = .ok (.iload_n 1, 1) := by decide +kernel
theorem dX0_wasteOfSet_18 : decode cX0_wasteOfSet 18 = .ok (.iload 5, 2) := by decide +kernel
theorem dX0_wasteOfSet_20 : decode cX0_wasteOfSet 20 = .ok (.invokestatic 78, 3) := by decide +kernel
theorem dX0_wasteOfSet_23 : decode cX0_wasteOfSet 23 = .ok (.ifCond .eq 62, 3) := by decide +kernel
theorem dX0_wasteOfSet_26 : decode cX0_wasteOfSet 26 = .ok (.iload_n 3, 1) := by decide +kernel
theorem dX0_wasteOfSet_27 : decode cX0_wasteOfSet 27 = .ok (.iconst (-1), 1) := by decide +kernel
theorem dX0_wasteOfSet_28 : decode cX0_wasteOfSet 28 = .ok (.if_icmp .eq 15, 3) := by decide +kernel
theorem dX0_wasteOfSet_31 : decode cX0_wasteOfSet 31 = .ok (.iload_n 3, 1) := by decide +kernel
theorem dX0_wasteOfSet_32 : decode cX0_wasteOfSet 32 = .ok (.iload 5, 2) := by decide +kernel
theorem dX0_wasteOfSet_34 : decode cX0_wasteOfSet 34 = .ok (.iconst 1, 1) := by decide +kernel
theorem dX0_wasteOfSet_35 : decode cX0_wasteOfSet 35 = .ok (.isub, 1) := by decide +kernel
theorem dX0_wasteOfSet_36 : decode cX0_wasteOfSet 36 = .ok (.if_icmp .eq 7, 3) := by decide +kernel
theorem dX0_wasteOfSet_39 : decode cX0_wasteOfSet 39 = .ok (.iconst 1, 1) := by decide +kernel
theorem dX0_wasteOfSet_40 : decode cX0_wasteOfSet 40 = .ok (.goto 4, 3) := by decide +kernel
theorem dX0_wasteOfSet_43 : decode cX0_wasteOfSet 43 = .ok (.iconst 0, 1) := by decide +kernel
theorem dX0_wasteOfSet_44 : decode cX0_wasteOfSet 44 = .ok (.istore 6, 2) := by decide +kernel
theorem dX0_wasteOfSet_46 : decode cX0_wasteOfSet 46 = .ok (.iload 6, 2) := by decide +kernel
theorem dX0_wasteOfSet_48 : decode cX0_wasteOfSet 48 = .ok (.ifCond .ne 16, 3) := by decide +kernel
theorem dX0_wasteOfSet_51 : decode cX0_wasteOfSet 51 = .ok (.aload_n 0, 1) := by decide +kernel
theorem dX0_wasteOfSet_52 : decode cX0_wasteOfSet 52 = .ok (.getfield 20, 3) := by decide +kernel
theorem dX0_wasteOfSet_55 : decode cX0_wasteOfSet 55 = .ok (.iload 5, 2) := by decide +kernel
theorem dX0_wasteOfSet_57 : decode cX0_wasteOfSet 57 = .ok (.invokevirtual 49, 3) := by decide +kernel
theorem dX0_wasteOfSet_60 : decode cX0_wasteOfSet 60 = .ok (.iconst (-1), 1) := by decide +kernel
theorem dX0_wasteOfSet_61 : decode cX0_wasteOfSet 61 = .ok (.if_icmp .eq 5, 3) := by decide +kernel
theorem dX0_wasteOfSet_64 : decode cX0_wasteOfSet 64 = .ok (.iconst (-1), 1) := by decide +kernel
theorem dX0_wasteOfSet_65 : decode cX0_wasteOfSet 65 = .ok (.ireturn, 1) := by decide +kernel
theorem dX0_wasteOfSet_66 : decode cX0_wasteOfSet 66 = .ok (.iload 4, 2) := by decide +kernel
theorem dX0_wasteOfSet_68 : decode cX0_wasteOfSet 68 = .ok (.aload_n 0, 1) := by decide +kernel
theorem dX0_wasteOfSet_69 : decode cX0_wasteOfSet 69 = .ok (.getfield 14, 3) := by decide +kernel
theorem dX0_wasteOfSet_72 : decode cX0_wasteOfSet 72 = .ok (.iload 5, 2) := by decide +kernel
theorem dX0_wasteOfSet_74 : decode cX0_wasteOfSet 74 = .ok (.invokevirtual 49, 3) := by decide +kernel
theorem dX0_wasteOfSet_77 : decode cX0_wasteOfSet 77 = .ok (.iconst 1, 1) := by decide +kernel
theorem dX0_wasteOfSet_78 : decode cX0_wasteOfSet 78 = .ok (.isub, 1) := by decide +kernel
theorem dX0_wasteOfSet_79 : decode cX0_wasteOfSet 79 = .ok (.iadd, 1) := by decide +kernel
theorem dX0_wasteOfSet_80 : decode cX0_wasteOfSet 80 = .ok (.istore 4, 2) := by decide +kernel
theorem dX0_wasteOfSet_82 : decode cX0_wasteOfSet 82 = .ok (.iload 5, 2) := by decide +kernel
theorem dX0_wasteOfSet_84 : decode cX0_wasteOfSet 84 = .ok (.istore_n 3, 1) := by decide +kernel
theorem dX0_wasteOfSet_85 : decode cX0_wasteOfSet 85 = .ok (.iinc 5 1, 3) := by decide +kernel
theorem dX0_wasteOfSet_88 : decode cX0_wasteOfSet 88 = .ok (.goto (-80), 3) := by decide +kernel
theorem dX0_wasteOfSet_91 : decode cX0_wasteOfSet 91 = .ok (.iload 4, 2) := by decide +kernel
theorem dX0_wasteOfSet_93 : decode cX0_wasteOfSet 93 = .ok (.iload_n 2, 1) := by decide +kernel
theorem dX0_wasteOfSet_94 : decode cX0_wasteOfSet 94 = .ok (.if_icmp .ge 7, 3) := by decide +kernel
theorem dX0_wasteOfSet_97 : decode cX0_wasteOfSet 97 = .ok (.iconst (-1), 1) := by decide +kernel
theorem dX0_wasteOfSet_98 : decode cX0_wasteOfSet 98 = .ok (.goto 7, 3) := by decide +kernel
theorem dX0_wasteOfSet_101 : decode cX0_wasteOfSet 101 = .ok (.iload 4, 2) := by decide +kernel
theorem dX0_wasteOfSet_103 : decode cX0_wasteOfSet 103 = .ok (.iload_n 2, 1) := by decide +kernel
theorem dX0_wasteOfSet_104 : decode cX0_wasteOfSet 104 = .ok (.isub, 1) := by decide +kernel
theorem dX0_wasteOfSet_105 : decode cX0_wasteOfSet 105 = .ok (.ireturn, 1) := by decide +kernel
theorem dX0_lesser_0 : decode cX0_lesser 0 = .ok (.iload_n 0, 1) := by decide +kernel
theorem dX0_lesser_1 : decode cX0_lesser 1 = .ok (.iconst (-1), 1) := by decide +kernel
theorem dX0_lesser_2 : decode cX0_lesser 2 = .ok (.if_icmp .eq 8, 3) := by decide +kernel
theorem dX0_lesser_5 : decode cX0_lesser 5 = .ok (.iload_n 1, 1) := by decide +kernel
theorem dX0_lesser_6 : decode cX0_lesser 6 = .ok (.iconst (-1), 1) := by decide +kernel
theorem dX0_lesser_7 : decode cX0_lesser 7 = .ok (.if_icmp .ne 9, 3) := by decide +kernel
theorem dX0_lesser_10 : decode cX0_lesser 10 = .ok (.iload_n 0, 1) := by decide +kernel
theorem dX0_lesser_11 : decode cX0_lesser 11 = .ok (.iload_n 1, 1) := by decide +kernel
theorem dX0_lesser_12 : decode cX0_lesser 12 = .ok (.invokestatic 82, 3) := by decide +kernel
theorem dX0_lesser_15 : decode cX0_lesser 15 = .ok (.ireturn, 1) := by decide +kernel
theorem dX0_lesser_16 : decode cX0_lesser 16 = .ok (.iload_n 0, 1) := by decide +kernel
theorem dX0_lesser_17 : decode cX0_lesser 17 = .ok (.iload_n 1, 1) := by decide +kernel
theorem dX0_lesser_18 : decode cX0_lesser 18 = .ok (.invokestatic 87, 3) := by decide +kernel
theorem dX0_lesser_21 : decode cX0_lesser 21 = .ok (.ireturn, 1) := by decide +kernel
set_option maxRecDepth 20000 in
theorem ggX0_firstTable_X2_at : GoodIn wsX0_firstTable wsX2_at := goodIn_r _ [7, 8, 18] (by decide +kernel) (by decide +kernel)
set_option maxRecDepth 20000 in
theorem gX0_firstTable_X2_at : GoodIn wsX0_firstTable (wsV RX0 49 RX2 yX2_at wsX2_at) := goodIn_app (goodIn_of _ (by decide +kernel)) ggX0_firstTable_X2_at
theorem dX0_firstTable_0 : decode cX0_firstTable 0 = .ok (.iconst 0, 1) := by decide +kernel
theorem dX0_firstTable_1 : decode cX0_firstTable 1 = .ok (.istore_n 2, 1) := by decide +kernel
theorem dX0_firstTable_2 : decode cX0_firstTable 2 = .ok (.iload_n 2, 1) := by decide +kernel
theorem dX0_firstTable_3 : decode cX0_firstTable 3 = .ok (.aload_n 0, 1) := by decide +kernel
theorem dX0_firstTable_4 : decode cX0_firstTable 4 = .ok (.getfield 35, 3) := by decide +kernel
theorem dX0_firstTable_7 : decode cX0_firstTable 7 = .ok (.if_icmp .ge 23, 3) := by decide +kernel
theorem dX0_firstTable_10 : decode cX0_firstTable 10 = .ok (.aload_n 0, 1) := by decide +kernel
theorem dX0_firstTable_11 : decode cX0_firstTable 11 = .ok (.getfield 20, 3) := by decide +kernel
theorem dX0_firstTable_14 : decode cX0_firstTable 14 = .ok (.iload_n 2, 1) := by decide +kernel
theorem dX0_firstTable_15 : decode cX0_firstTable 15 = .ok (.invokevirtual 49, 3) := by decide +kernel
theorem dX0_firstTable_18 : decode cX0_firstTable 18 = .ok (.iload_n 1, 1) := by decide +kernel
theorem dX0_firstTable_19 : decode cX0_firstTable 19 = .ok (.if_icmp .ne 5, 3) := by decide +kernel
theorem dX0_firstTable_22 : decode cX0_firstTable 22 = .ok (.iload_n 2, 1) := by decide +kernel
theorem dX0_firstTable_23 : decode cX0_firstTable 23 = .ok (.ireturn, 1) := by decide +kernel
theorem dX0_firstTable_24 : decode cX0_firstTable 24 = .ok (.iinc 2 1, 3) := by decide +kernel
theorem dX0_firstTable_27 : decode cX0_firstTable 27 = .ok (.goto (-25), 3) := by decide +kernel
theorem dX0_firstTable_30 : decode cX0_firstTable 30 = .ok (.iconst (-1), 1) := by decide +kernel
theorem dX0_firstTable_31 : decode cX0_firstTable 31 = .ok (.ireturn, 1) := by decide +kernel
set_option maxRecDepth 20000 in
theorem ggX0_countTables_X2_at : GoodIn wsX0_countTables wsX2_at := goodIn_r _ [7, 8, 18] (by decide +kernel) (by decide +kernel)
set_option maxRecDepth 20000 in
theorem gX0_countTables_X2_at : GoodIn wsX0_countTables (wsV RX0 49 RX2 yX2_at wsX2_at) := goodIn_app (goodIn_of _ (by decide +kernel)) ggX0_countTables_X2_at
theorem dX0_countTables_0 : decode cX0_countTables 0 = .ok (.iconst 0, 1) := by decide +kernel
theorem dX0_countTables_1 : decode cX0_countTables 1 = .ok (.istore_n 2, 1) := by decide +kernel
theorem dX0_countTables_2 : decode cX0_countTables 2 = .ok (.iconst 0, 1) := by decide +kernel
theorem dX0_countTables_3 : decode cX0_countTables 3 = .ok (.istore_n 3, 1) := by decide +kernel
theorem dX0_countTables_4 : decode cX0_countTables 4 = .ok (.iload_n 3, 1) := by decide +kernel
theorem dX0_countTables_5 : decode cX0_countTables 5 = .ok (.aload_n 0, 1) := by decide +kernel
theorem dX0_countTables_6 : decode cX0_countTables 6 = .ok (.getfield 35, 3) := by decide +kernel
theorem dX0_countTables_9 : decode cX0_countTables 9 = .ok (.if_icmp .ge 24, 3) := by decide +kernel
theorem dX0_countTables_12 : decode cX0_countTables 12 = .ok (.aload_n 0, 1) := by decide +kernel
theorem dX0_countTables_13 : decode cX0_countTables 13 = .ok (.getfield 20, 3) := by decide +kernel
theorem dX0_countTables_16 : decode cX0_countTables 16 = .ok (.iload_n 3, 1) := by decide +kernel
theorem dX0_countTables_17 : decode cX0_countTables 17 = .ok (.invokevirtual 49, 3) := by decide +kernel
theorem dX0_countTables_20 : decode cX0_countTables 20 = .ok (.iload_n 1, 1) := by decide +kernel
theorem dX0_countTables_21 : decode cX0_countTables 21 = .ok (.if_icmp .ne 6, 3) := by decide +kernel
theorem dX0_countTables_24 : decode cX0_countTables 24 = .ok (.iinc 2 1, 3) := by decide +kernel
theorem dX0_countTables_27 : decode cX0_countTables 27 = .ok (.iinc 3 1, 3) := by decide +kernel
theorem dX0_countTables_30 : decode cX0_countTables 30 = .ok (.goto (-26), 3) := by decide +kernel
theorem dX0_countTables_33 : decode cX0_countTables 33 = .ok (.iload_n 2, 1) := by decide +kernel
theorem dX0_countTables_34 : decode cX0_countTables 34 = .ok (.ireturn, 1) := by decide +kernel
set_option maxRecDepth 20000 in
theorem ggX0_countWaiting_X2_at : GoodIn wsX0_countWaiting wsX2_at := goodIn_r _ [7, 8, 18] (by decide +kernel) (by decide +kernel)
set_option maxRecDepth 20000 in
theorem gX0_countWaiting_X2_at : GoodIn wsX0_countWaiting (wsV RX0 49 RX2 yX2_at wsX2_at) := goodIn_app (goodIn_of _ (by decide +kernel)) ggX0_countWaiting_X2_at
theorem dX0_countWaiting_0 : decode cX0_countWaiting 0 = .ok (.iconst 0, 1) := by decide +kernel
theorem dX0_countWaiting_1 : decode cX0_countWaiting 1 = .ok (.istore_n 1, 1) := by decide +kernel
theorem dX0_countWaiting_2 : decode cX0_countWaiting 2 = .ok (.iconst 0, 1) := by decide +kernel
theorem dX0_countWaiting_3 : decode cX0_countWaiting 3 = .ok (.istore_n 2, 1) := by decide +kernel
theorem dX0_countWaiting_4 : decode cX0_countWaiting 4 = .ok (.iload_n 2, 1) := by decide +kernel
theorem dX0_countWaiting_5 : decode cX0_countWaiting 5 = .ok (.aload_n 0, 1) := by decide +kernel
theorem dX0_countWaiting_6 : decode cX0_countWaiting 6 = .ok (.getfield 42, 3) := by decide +kernel
theorem dX0_countWaiting_9 : decode cX0_countWaiting 9 = .ok (.if_icmp .ge 23, 3) := by decide +kernel
theorem dX0_countWaiting_12 : decode cX0_countWaiting 12 = .ok (.aload_n 0, 1) := by decide +kernel
theorem dX0_countWaiting_13 : decode cX0_countWaiting 13 = .ok (.getfield 32, 3) := by decide +kernel
theorem dX0_countWaiting_16 : decode cX0_countWaiting 16 = .ok (.iload_n 2, 1) := by decide +kernel
theorem dX0_countWaiting_17 : decode cX0_countWaiting 17 = .ok (.invokevirtual 49, 3) := by decide +kernel
theorem dX0_countWaiting_20 : decode cX0_countWaiting 20 = .ok (.ifCond .ne 6, 3) := by decide +kernel
theorem dX0_countWaiting_23 : decode cX0_countWaiting 23 = .ok (.iinc 1 1, 3) := by decide +kernel
theorem dX0_countWaiting_26 : decode cX0_countWaiting 26 = .ok (.iinc 2 1, 3) := by decide +kernel
theorem dX0_countWaiting_29 : decode cX0_countWaiting 29 = .ok (.goto (-25), 3) := by decide +kernel
theorem dX0_countWaiting_32 : decode cX0_countWaiting 32 = .ok (.iload_n 1, 1) := by decide +kernel
theorem dX0_countWaiting_33 : decode cX0_countWaiting 33 = .ok (.ireturn, 1) := by decide +kernel
set_option maxRecDepth 20000 in
theorem ggX0_isSeated_X2_at : GoodIn wsX0_isSeated wsX2_at := goodIn_r _ [6, 7, 17] (by decide +kernel) (by decide +kernel)
set_option maxRecDepth 20000 in
theorem gX0_isSeated_X2_at : GoodIn wsX0_isSeated (wsV RX0 49 RX2 yX2_at wsX2_at) := goodIn_app (goodIn_of _ (by decide +kernel)) ggX0_isSeated_X2_at
theorem dX0_isSeated_0 : decode cX0_isSeated 0 = .ok (.aload_n 0, 1) := by decide +kernel
theorem dX0_isSeated_1 : decode cX0_isSeated 1 = .ok (.getfield 32, 3) := by decide +kernel
theorem dX0_isSeated_4 : decode cX0_isSeated 4 = .ok (.iload_n 1, 1) := by decide +kernel
theorem dX0_isSeated_5 : decode cX0_isSeated 5 = .ok (.invokevirtual 49, 3) := by decide +kernel
theorem dX0_isSeated_8 : decode cX0_isSeated 8 = .ok (.iconst 1, 1) := by decide +kernel
theorem dX0_isSeated_9 : decode cX0_isSeated 9 = .ok (.if_icmp .ne 7, 3) := by decide +kernel
theorem dX0_isSeated_12 : decode cX0_isSeated 12 = .ok (.iconst 1, 1) := by decide +kernel
theorem dX0_isSeated_13 : decode cX0_isSeated 13 = .ok (.goto 4, 3) := by decide +kernel
theorem dX0_isSeated_16 : decode cX0_isSeated 16 = .ok (.iconst 0, 1) := by decide +kernel
theorem dX0_isSeated_17 : decode cX0_isSeated 17 = .ok (.ireturn, 1) := by decide +kernel
set_option maxRecDepth 20000 in
theorem ggX0_isGone_X2_at : GoodIn wsX0_isGone wsX2_at := goodIn_r _ [6, 7, 17] (by decide +kernel) (by decide +kernel)
set_option maxRecDepth 20000 in
theorem gX0_isGone_X2_at : GoodIn wsX0_isGone (wsV RX0 49 RX2 yX2_at wsX2_at) := goodIn_app (goodIn_of _ (by decide +kernel)) ggX0_isGone_X2_at
theorem dX0_isGone_0 : decode cX0_isGone 0 = .ok (.aload_n 0, 1) := by decide +kernel
theorem dX0_isGone_1 : decode cX0_isGone 1 = .ok (.getfield 32, 3) := by decide +kernel
theorem dX0_isGone_4 : decode cX0_isGone 4 = .ok (.iload_n 1, 1) := by decide +kernel
theorem dX0_isGone_5 : decode cX0_isGone 5 = .ok (.invokevirtual 49, 3) := by decide +kernel
theorem dX0_isGone_8 : decode cX0_isGone 8 = .ok (.iconst 2, 1) := by decide +kernel
theorem dX0_isGone_9 : decode cX0_isGone 9 = .ok (.if_icmp .ne 7, 3) := by decide +kernel
theorem dX0_isGone_12 : decode cX0_isGone 12 = .ok (.iconst 1, 1) := by decide +kernel
theorem dX0_isGone_13 : decode cX0_isGone 13 = .ok (.goto 4, 3) := by decide +kernel
theorem dX0_isGone_16 : decode cX0_isGone 16 = .ok (.iconst 0, 1) := by decide +kernel
theorem dX0_isGone_17 : decode cX0_isGone 17 = .ok (.ireturn, 1) := by decide +kernel
set_option maxRecDepth 20000 in
theorem ggX0_minutesLeft_X2_at : GoodIn wsX0_minutesLeft wsX2_at := goodIn_r _ [11, 12, 22] (by decide +kernel) (by decide +kernel)
set_option maxRecDepth 20000 in
theorem gX0_minutesLeft_X2_at : GoodIn wsX0_minutesLeft (wsV RX0 49 RX2 yX2_at wsX2_at) := goodIn_app (goodIn_of _ (by decide +kernel)) ggX0_minutesLeft_X2_at
theorem dX0_minutesLeft_0 : decode cX0_minutesLeft 0 = .ok (.aload_n 0, 1) := by decide +kernel
theorem dX0_minutesLeft_1 : decode cX0_minutesLeft 1 = .ok (.getfield 29, 3) := by decide +kernel
theorem dX0_minutesLeft_4 : decode cX0_minutesLeft 4 = .ok (.iload_n 1, 1) := by decide +kernel
theorem dX0_minutesLeft_5 : decode cX0_minutesLeft 5 = .ok (.invokevirtual 49, 3) := by decide +kernel
theorem dX0_minutesLeft_8 : decode cX0_minutesLeft 8 = .ok (.aload_n 0, 1) := by decide +kernel
theorem dX0_minutesLeft_9 : decode cX0_minutesLeft 9 = .ok (.getfield 68, 3) := by decide +kernel
theorem dX0_minutesLeft_12 : decode cX0_minutesLeft 12 = .ok (.isub, 1) := by decide +kernel
theorem dX0_minutesLeft_13 : decode cX0_minutesLeft 13 = .ok (.iconst 0, 1) := by decide +kernel
theorem dX0_minutesLeft_14 : decode cX0_minutesLeft 14 = .ok (.invokestatic 82, 3) := by decide +kernel
theorem dX0_minutesLeft_17 : decode cX0_minutesLeft 17 = .ok (.ireturn, 1) := by decide +kernel
set_option maxRecDepth 20000 in
theorem ggX1_init_X2_init : GoodIn wsX1_init wsX2_init := goodIn_r _ [14, 15, 2, 3, 16, 17, 18, 19, 20, 21, 22] (by decide +kernel) (by decide +kernel)
set_option maxRecDepth 20000 in
theorem gX1_init_X2_init : GoodIn wsX1_init (wsX2_init) := ggX1_init_X2_init
theorem dX1_init_0 : decode cX1_init 0 = .ok (.aload_n 0, 1) := by decide +kernel
theorem dX1_init_1 : decode cX1_init 1 = .ok (.invokespecial 3, 3) := by decide +kernel
theorem dX1_init_4 : decode cX1_init 4 = .ok (.aload_n 0, 1) := by decide +kernel
theorem dX1_init_5 : decode cX1_init 5 = .ok (.new 9, 3) := by decide +kernel
theorem dX1_init_8 : decode cX1_init 8 = .ok (.dup, 1) := by decide +kernel
theorem dX1_init_9 : decode cX1_init 9 = .ok (.bipush 8, 2) := by decide +kernel
theorem dX1_init_11 : decode cX1_init 11 = .ok (.iconst 0, 1) := by decide +kernel
theorem dX1_init_12 : decode cX1_init 12 = .ok (.invokespecial 11, 3) := by decide +kernel
theorem dX1_init_15 : decode cX1_init 15 = .ok (.putfield 14, 3) := by decide +kernel
theorem dX1_init_18 : decode cX1_init 18 = .ok (.aload_n 0, 1) := by decide +kernel
theorem dX1_init_19 : decode cX1_init 19 = .ok (.new 9, 3) := by decide +kernel
theorem dX1_init_22 : decode cX1_init 22 = .ok (.dup, 1) := by decide +kernel
theorem dX1_init_23 : decode cX1_init 23 = .ok (.bipush 96, 2) := by decide +kernel
theorem dX1_init_25 : decode cX1_init 25 = .ok (.iconst (-1), 1) := by decide +kernel
theorem dX1_init_26 : decode cX1_init 26 = .ok (.invokespecial 11, 3) := by decide +kernel
theorem dX1_init_29 : decode cX1_init 29 = .ok (.putfield 20, 3) := by decide +kernel
theorem dX1_init_32 : decode cX1_init 32 = .ok (.aload_n 0, 1) := by decide +kernel
theorem dX1_init_33 : decode cX1_init 33 = .ok (.new 9, 3) := by decide +kernel
theorem dX1_init_36 : decode cX1_init 36 = .ok (.dup, 1) := by decide +kernel
theorem dX1_init_37 : decode cX1_init 37 = .ok (.bipush 96, 2) := by decide +kernel
theorem dX1_init_39 : decode cX1_init 39 = .ok (.iconst 0, 1) := by decide +kernel
theorem dX1_init_40 : decode cX1_init 40 = .ok (.invokespecial 11, 3) := by decide +kernel
theorem dX1_init_43 : decode cX1_init 43 = .ok (.putfield 23, 3) := by decide +kernel
theorem dX1_init_46 : decode cX1_init 46 = .ok (.aload_n 0, 1) := by decide +kernel
theorem dX1_init_47 : decode cX1_init 47 = .ok (.new 9, 3) := by decide +kernel
theorem dX1_init_50 : decode cX1_init 50 = .ok (.dup, 1) := by decide +kernel
theorem dX1_init_51 : decode cX1_init 51 = .ok (.bipush 96, 2) := by decide +kernel
theorem dX1_init_53 : decode cX1_init 53 = .ok (.iconst 0, 1) := by decide +kernel
theorem dX1_init_54 : decode cX1_init 54 = .ok (.invokespecial 11, 3) := by decide +kernel
theorem dX1_init_57 : decode cX1_init 57 = .ok (.putfield 26, 3) := by decide +kernel
theorem dX1_init_60 : decode cX1_init 60 = .ok (.aload_n 0, 1) := by decide +kernel
theorem dX1_init_61 : decode cX1_init 61 = .ok (.new 9, 3) := by decide +kernel
theorem dX1_init_64 : decode cX1_init 64 = .ok (.dup, 1) := by decide +kernel
theorem dX1_init_65 : decode cX1_init 65 = .ok (.bipush 96, 2) := by decide +kernel
theorem dX1_init_67 : decode cX1_init 67 = .ok (.iconst 0, 1) := by decide +kernel
theorem dX1_init_68 : decode cX1_init 68 = .ok (.invokespecial 11, 3) := by decide +kernel
theorem dX1_init_71 : decode cX1_init 71 = .ok (.putfield 29, 3) := by decide +kernel
theorem dX1_init_74 : decode cX1_init 74 = .ok (.return_, 1) := by decide +kernel
set_option maxRecDepth 20000 in
theorem ggX1_rulesOf_X2_at : GoodIn wsX1_rulesOf wsX2_at := goodIn_r _ [6, 7, 13] (by decide +kernel) (by decide +kernel)
set_option maxRecDepth 20000 in
theorem gX1_rulesOf_X2_at : GoodIn wsX1_rulesOf (wsV RX1 32 RX2 yX2_at wsX2_at) := goodIn_app (goodIn_of _ (by decide +kernel)) ggX1_rulesOf_X2_at
theorem dX1_rulesOf_0 : decode cX1_rulesOf 0 = .ok (.aload_n 0, 1) := by decide +kernel
theorem dX1_rulesOf_1 : decode cX1_rulesOf 1 = .ok (.getfield 14, 3) := by decide +kernel
theorem dX1_rulesOf_4 : decode cX1_rulesOf 4 = .ok (.iload_n 1, 1) := by decide +kernel
theorem dX1_rulesOf_5 : decode cX1_rulesOf 5 = .ok (.invokevirtual 32, 3) := by decide +kernel
theorem dX1_rulesOf_8 : decode cX1_rulesOf 8 = .ok (.ireturn, 1) := by decide +kernel
set_option maxRecDepth 20000 in
theorem ggX1_putRule_X2_at : GoodIn wsX1_putRule wsX2_at := goodIn_r _ [10, 11, 21] (by decide +kernel) (by decide +kernel)
set_option maxRecDepth 20000 in
theorem gX1_putRule_X2_at : GoodIn wsX1_putRule (wsV RX1 32 RX2 yX2_at wsX2_at) := goodIn_app (goodIn_of _ (by decide +kernel)) ggX1_putRule_X2_at
set_option maxRecDepth 20000 in
theorem ggX1_putRule_X2_put : GoodIn wsX1_putRule wsX2_put := goodIn_r _ [15, 11, 21] (by decide +kernel) (by decide +kernel)
set_option maxRecDepth 20000 in
theorem gX1_putRule_X2_put : GoodIn wsX1_putRule (wsV RX1 36 RX2 yX2_put wsX2_put) := goodIn_app (goodIn_of _ (by decide +kernel)) ggX1_putRule_X2_put
theorem dX1_putRule_0 : decode cX1_putRule 0 = .ok (.aload_n 0, 1) := by decide +kernel
theorem dX1_putRule_1 : decode cX1_putRule 1 = .ok (.getfield 14, 3) := by decide +kernel
theorem dX1_putRule_4 : decode cX1_putRule 4 = .ok (.iload_n 1, 1) := by decide +kernel
theorem dX1_putRule_5 : decode cX1_putRule 5 = .ok (.invokevirtual 32, 3) := by decide +kernel
theorem dX1_putRule_8 : decode cX1_putRule 8 = .ok (.istore 6, 2) := by decide +kernel
theorem dX1_putRule_10 : decode cX1_putRule 10 = .ok (.iload_n 1, 1) := by decide +kernel
theorem dX1_putRule_11 : decode cX1_putRule 11 = .ok (.bipush 12, 2) := by decide +kernel
theorem dX1_putRule_13 : decode cX1_putRule 13 = .ok (.imul, 1) := by decide +kernel
theorem dX1_putRule_14 : decode cX1_putRule 14 = .ok (.iload 6, 2) := by decide +kernel
theorem dX1_putRule_16 : decode cX1_putRule 16 = .ok (.iadd, 1) := by decide +kernel
theorem dX1_putRule_17 : decode cX1_putRule 17 = .ok (.istore 7, 2) := by decide +kernel
theorem dX1_putRule_19 : decode cX1_putRule 19 = .ok (.aload_n 0, 1) := by decide +kernel
theorem dX1_putRule_20 : decode cX1_putRule 20 = .ok (.getfield 20, 3) := by decide +kernel
theorem dX1_putRule_23 : decode cX1_putRule 23 = .ok (.iload 7, 2) := by decide +kernel
theorem dX1_putRule_25 : decode cX1_putRule 25 = .ok (.iload_n 2, 1) := by decide +kernel
theorem dX1_putRule_26 : decode cX1_putRule 26 = .ok (.invokevirtual 36, 3) := by decide +kernel
theorem dX1_putRule_29 : decode cX1_putRule 29 = .ok (.aload_n 0, 1) := by decide +kernel
theorem dX1_putRule_30 : decode cX1_putRule 30 = .ok (.getfield 23, 3) := by decide +kernel
theorem dX1_putRule_33 : decode cX1_putRule 33 = .ok (.iload 7, 2) := by decide +kernel
theorem dX1_putRule_35 : decode cX1_putRule 35 = .ok (.iload_n 3, 1) := by decide +kernel
theorem dX1_putRule_36 : decode cX1_putRule 36 = .ok (.invokevirtual 36, 3) := by decide +kernel
theorem dX1_putRule_39 : decode cX1_putRule 39 = .ok (.aload_n 0, 1) := by decide +kernel
theorem dX1_putRule_40 : decode cX1_putRule 40 = .ok (.getfield 26, 3) := by decide +kernel
theorem dX1_putRule_43 : decode cX1_putRule 43 = .ok (.iload 7, 2) := by decide +kernel
theorem dX1_putRule_45 : decode cX1_putRule 45 = .ok (.iload 4, 2) := by decide +kernel
theorem dX1_putRule_47 : decode cX1_putRule 47 = .ok (.invokevirtual 36, 3) := by decide +kernel
theorem dX1_putRule_50 : decode cX1_putRule 50 = .ok (.aload_n 0, 1) := by decide +kernel
theorem dX1_putRule_51 : decode cX1_putRule 51 = .ok (.getfield 29, 3) := by decide +kernel
theorem dX1_putRule_54 : decode cX1_putRule 54 = .ok (.iload 7, 2) := by decide +kernel
theorem dX1_putRule_56 : decode cX1_putRule 56 = .ok (.iload 5, 2) := by decide +kernel
theorem dX1_putRule_58 : decode cX1_putRule 58 = .ok (.invokevirtual 36, 3) := by decide +kernel
theorem dX1_putRule_61 : decode cX1_putRule 61 = .ok (.aload_n 0, 1) := by decide +kernel
theorem dX1_putRule_62 : decode cX1_putRule 62 = .ok (.getfield 14, 3) := by decide +kernel
theorem dX1_putRule_65 : decode cX1_putRule 65 = .ok (.iload_n 1, 1) := by decide +kernel
theorem dX1_putRule_66 : decode cX1_putRule 66 = .ok (.iload 6, 2) := by decide +kernel
theorem dX1_putRule_68 : decode cX1_putRule 68 = .ok (.iconst 1, 1) := by decide +kernel
theorem dX1_putRule_69 : decode cX1_putRule 69 = .ok (.iadd, 1) := by decide +kernel
theorem dX1_putRule_70 : decode cX1_putRule 70 = .ok (.invokevirtual 36, 3) := by decide +kernel
theorem dX1_putRule_73 : decode cX1_putRule 73 = .ok (.iload 6, 2) := by decide +kernel
theorem dX1_putRule_75 : decode cX1_putRule 75 = .ok (.ireturn, 1) := by decide +kernel
set_option maxRecDepth 20000 in
theorem ggX1_parentOf_X2_at : GoodIn wsX1_parentOf wsX2_at := goodIn_r _ [6, 7, 13] (by decide +kernel) (by decide +kernel)
set_option maxRecDepth 20000 in
theorem gX1_parentOf_X2_at : GoodIn wsX1_parentOf (wsV RX1 32 RX2 yX2_at wsX2_at) := goodIn_app (goodIn_of _ (by decide +kernel)) ggX1_parentOf_X2_at
theorem dX1_parentOf_0 : decode cX1_parentOf 0 = .ok (.aload_n 0, 1) := by decide +kernel
theorem dX1_parentOf_1 : decode cX1_parentOf 1 = .ok (.getfield 20, 3) := by decide +kernel
theorem dX1_parentOf_4 : decode cX1_parentOf 4 = .ok (.iload_n 1, 1) := by decide +kernel
theorem dX1_parentOf_5 : decode cX1_parentOf 5 = .ok (.bipush 12, 2) := by decide +kernel
theorem dX1_parentOf_7 : decode cX1_parentOf 7 = .ok (.imul, 1) := by decide +kernel
theorem dX1_parentOf_8 : decode cX1_parentOf 8 = .ok (.iload_n 2, 1) := by decide +kernel
theorem dX1_parentOf_9 : decode cX1_parentOf 9 = .ok (.iadd, 1) := by decide +kernel
theorem dX1_parentOf_10 : decode cX1_parentOf 10 = .ok (.invokevirtual 32, 3) := by decide +kernel
theorem dX1_parentOf_13 : decode cX1_parentOf 13 = .ok (.ireturn, 1) := by decide +kernel
set_option maxRecDepth 20000 in
theorem ggX1_holding_X2_at : GoodIn wsX1_holding wsX2_at := goodIn_r _ [8, 9, 19] (by decide +kernel) (by decide +kernel)
set_option maxRecDepth 20000 in
theorem gX1_holding_X2_at : GoodIn wsX1_holding (wsV RX1 32 RX2 yX2_at wsX2_at) := goodIn_app (goodIn_of _ (by decide +kernel)) ggX1_holding_X2_at
set_option maxRecDepth 20000 in
theorem ggX1_holding_X1_holds : GoodIn wsX1_holding wsX1_holds := goodIn_r _ [13] (by decide +kernel) (by decide +kernel)
set_option maxRecDepth 20000 in
theorem gX1_holding_X1_holds : GoodIn wsX1_holding (va_wsS RX1 39 yX1_holds wsX1_holds) := goodIn_app (goodIn_of _ (by decide +kernel)) ggX1_holding_X1_holds
theorem dX1_holding_0 : decode cX1_holding 0 = .ok (.iconst 0, 1) := by decide +kernel
theorem dX1_holding_1 : decode cX1_holding 1 = .ok (.istore 5, 2) := by decide +kernel
theorem dX1_holding_3 : decode cX1_holding 3 = .ok (.iconst 0, 1) := by decide +kernel
theorem dX1_holding_4 : decode cX1_holding 4 = .ok (.istore 6, 2) := by decide +kernel
theorem dX1_holding_6 : decode cX1_holding 6 = .ok (.iload 6, 2) := by decide +kernel
theorem dX1_holding_8 : decode cX1_holding 8 = .ok (.aload_n 0, 1) := by decide +kernel
theorem dX1_holding_9 : decode cX1_holding 9 = .ok (.getfield 14, 3) := by decide +kernel
theorem dX1_holding_12 : decode cX1_holding 12 = .ok (.iload_n 1, 1) := by decide +kernel
theorem dX1_holding_13 : decode cX1_holding 13 = .ok (.invokevirtual 32, 3) := by decide +kernel
theorem dX1_holding_16 : decode cX1_holding 16 = .ok (.if_icmp .ge 55, 3) := by decide +kernel
theorem dX1_holding_19 : decode cX1_holding 19 = .ok (.iload_n 1, 1) := by decide +kernel
theorem dX1_holding_20 : decode cX1_holding 20 = .ok (.bipush 12, 2) := by decide +kernel
theorem dX1_holding_22 : decode cX1_holding 22 = .ok (.imul, 1) := by decide +kernel
theorem dX1_holding_23 : decode cX1_holding 23 = .ok (.iload 6, 2) := by decide +kernel
theorem dX1_holding_25 : decode cX1_holding 25 = .ok (.iadd, 1) := by decide +kernel
theorem dX1_holding_26 : decode cX1_holding 26 = .ok (.istore 7, 2) := by decide +kernel
theorem dX1_holding_28 : decode cX1_holding 28 = .ok (.aload_n 0, 1) := by decide +kernel
theorem dX1_holding_29 : decode cX1_holding 29 = .ok (.getfield 23, 3) := by decide +kernel
theorem dX1_holding_32 : decode cX1_holding 32 = .ok (.iload 7, 2) := by decide +kernel
theorem dX1_holding_34 : decode cX1_holding 34 = .ok (.invokevirtual 32, 3) := by decide +kernel
theorem dX1_holding_37 : decode cX1_holding 37 = .ok (.aload_n 0, 1) := by decide +kernel
theorem dX1_holding_38 : decode cX1_holding 38 = .ok (.getfield 26, 3) := by decide +kernel
theorem dX1_holding_41 : decode cX1_holding 41 = .ok (.iload 7, 2) := by decide +kernel
theorem dX1_holding_43 : decode cX1_holding 43 = .ok (.invokevirtual 32, 3) := by decide +kernel
theorem dX1_holding_46 : decode cX1_holding 46 = .ok (.iload_n 2, 1) := by decide +kernel
theorem dX1_holding_47 : decode cX1_holding 47 = .ok (.iload_n 3, 1) := by decide +kernel
theorem dX1_holding_48 : decode cX1_holding 48 = .ok (.iload 4, 2) := by decide +kernel
theorem dX1_holding_50 : decode cX1_holding 50 = .ok (.invokestatic 39, 3) := by decide +kernel
theorem dX1_holding_53 : decode cX1_holding 53 = .ok (.ifCond .eq 12, 3) := by decide +kernel
theorem dX1_holding_56 : decode cX1_holding 56 = .ok (.iload 5, 2) := by decide +kernel
theorem dX1_holding_58 : decode cX1_holding 58 = .ok (.iconst 1, 1) := by decide +kernel
theorem dX1_holding_59 : decode cX1_holding 59 = .ok (.iload 6, 2) := by decide +kernel
theorem dX1_holding_61 : decode cX1_holding 61 = .ok (.ishl, 1) := by decide +kernel
theorem dX1_holding_62 : decode cX1_holding 62 = .ok (.ior, 1) := by decide +kernel
theorem dX1_holding_63 : decode cX1_holding 63 = .ok (.istore 5, 2) := by decide +kernel
theorem dX1_holding_65 : decode cX1_holding 65 = .ok (.iinc 6 1, 3) := by decide +kernel
theorem dX1_holding_68 : decode cX1_holding 68 = .ok (.goto (-62), 3) := by decide +kernel
theorem dX1_holding_71 : decode cX1_holding 71 = .ok (.iload 5, 2) := by decide +kernel
theorem dX1_holding_73 : decode cX1_holding 73 = .ok (.ireturn, 1) := by decide +kernel
theorem dX1_holds_0 : decode cX1_holds 0 = .ok (.iload_n 0, 1) := by decide +kernel
theorem dX1_holds_1 : decode cX1_holds 1 = .ok (.tableswitch 81 0 3 #[31, 42, 53, 69], 31) := by decide +kernel
theorem dX1_holds_32 : decode cX1_holds 32 = .ok (.iload_n 2, 1) := by decide +kernel
theorem dX1_holds_33 : decode cX1_holds 33 = .ok (.iload_n 1, 1) := by decide +kernel
theorem dX1_holds_34 : decode cX1_holds 34 = .ok (.if_icmp .lt 7, 3) := by decide +kernel
theorem dX1_holds_37 : decode cX1_holds 37 = .ok (.iconst 1, 1) := by decide +kernel
theorem dX1_holds_38 : decode cX1_holds 38 = .ok (.goto 4, 3) := by decide +kernel
theorem dX1_holds_41 : decode cX1_holds 41 = .ok (.iconst 0, 1) := by decide +kernel
theorem dX1_holds_42 : decode cX1_holds 42 = .ok (.ireturn, 1) := by decide +kernel
theorem dX1_holds_43 : decode cX1_holds 43 = .ok (.iload_n 3, 1) := by decide +kernel
theorem dX1_holds_44 : decode cX1_holds 44 = .ok (.iload_n 1, 1) := by decide +kernel
theorem dX1_holds_45 : decode cX1_holds 45 = .ok (.if_icmp .ge 7, 3) := by decide +kernel
theorem dX1_holds_48 : decode cX1_holds 48 = .ok (.iconst 1, 1) := by decide +kernel
theorem dX1_holds_49 : decode cX1_holds 49 = .ok (.goto 4, 3) := by decide +kernel
theorem dX1_holds_52 : decode cX1_holds 52 = .ok (.iconst 0, 1) := by decide +kernel
theorem dX1_holds_53 : decode cX1_holds 53 = .ok (.ireturn, 1) := by decide +kernel
theorem dX1_holds_54 : decode cX1_holds 54 = .ok (.iload_n 1, 1) := by decide +kernel
theorem dX1_holds_55 : decode cX1_holds 55 = .ok (.ifCond .le 13, 3) := by decide +kernel
theorem dX1_holds_58 : decode cX1_holds 58 = .ok (.iload_n 2, 1) := by decide +kernel
theorem dX1_holds_59 : decode cX1_holds 59 = .ok (.iload_n 1, 1) := by decide +kernel
theorem dX1_holds_60 : decode cX1_holds 60 = .ok (.irem, 1) := by decide +kernel
theorem dX1_holds_61 : decode cX1_holds 61 = .ok (.ifCond .ne 7, 3) := by decide +kernel
theorem dX1_holds_64 : decode cX1_holds 64 = .ok (.iconst 1, 1) := by decide +kernel
theorem dX1_holds_65 : decode cX1_holds 65 = .ok (.goto 4, 3) := by decide +kernel
theorem dX1_holds_68 : decode cX1_holds 68 = .ok (.iconst 0, 1) := by decide +kernel
theorem dX1_holds_69 : decode cX1_holds 69 = .ok (.ireturn, 1) := by decide +kernel
theorem dX1_holds_70 : decode cX1_holds 70 = .ok (.iload 4, 2) := by decide +kernel
theorem dX1_holds_72 : decode cX1_holds 72 = .ok (.iload_n 1, 1) := by decide +kernel
theorem dX1_holds_73 : decode cX1_holds 73 = .ok (.if_icmp .lt 7, 3) := by decide +kernel
theorem dX1_holds_76 : decode cX1_holds 76 = .ok (.iconst 1, 1) := by decide +kernel
theorem dX1_holds_77 : decode cX1_holds 77 = .ok (.goto 4, 3) := by decide +kernel
theorem dX1_holds_80 : decode cX1_holds 80 = .ok (.iconst 0, 1) := by decide +kernel
theorem dX1_holds_81 : decode cX1_holds 81 = .ok (.ireturn, 1) := by decide +kernel
theorem dX1_holds_82 : decode cX1_holds 82 = .ok (.iconst 0, 1) := by decide +kernel
theorem dX1_holds_83 : decode cX1_holds 83 = .ok (.ireturn, 1) := by decide +kernel
set_option maxRecDepth 20000 in
theorem ggX1_rulingGoingDown_X1_firstHolding : GoodIn wsX1_rulingGoingDown wsX1_firstHolding := goodIn_r _ [6, 7, 8, 9, 10, 11, 12, 13, 14, 15, 16, 5, 17, 18, 19, 20, 21, 22, 23, 24, 25, 26, 27] (by decide +kernel) (by decide +kernel)
set_option maxRecDepth 20000 in
theorem gX1_rulingGoingDown_X1_firstHolding : GoodIn wsX1_rulingGoingDown (wsV RX1 43 RX1 yX1_firstHolding wsX1_firstHolding) := goodIn_app (goodIn_of _ (by decide +kernel)) ggX1_rulingGoingDown_X1_firstHolding
set_option maxRecDepth 20000 in
theorem ggX1_rulingGoingDown_X2_at : GoodIn wsX1_rulingGoingDown wsX2_at := goodIn_r _ [12, 13, 27] (by decide +kernel) (by decide +kernel)
set_option maxRecDepth 20000 in
theorem gX1_rulingGoingDown_X2_at : GoodIn wsX1_rulingGoingDown (wsV RX1 32 RX2 yX2_at wsX2_at) := goodIn_app (goodIn_of _ (by decide +kernel)) ggX1_rulingGoingDown_X2_at
theorem dX1_rulingGoingDown_0 : decode cX1_rulingGoingDown 0 = .ok (.iconst (-1), 1) := by decide +kernel
theorem dX1_rulingGoingDown_1 : decode cX1_rulingGoingDown 1 = .ok (.istore_n 3, 1) := by decide +kernel
theorem dX1_rulingGoingDown_2 : decode cX1_rulingGoingDown 2 = .ok (.iconst 0, 1) := by decide +kernel
theorem dX1_rulingGoingDown_3 : decode cX1_rulingGoingDown 3 = .ok (.istore 4, 2) := by decide +kernel
theorem dX1_rulingGoingDown_5 : decode cX1_rulingGoingDown 5 = .ok (.iload 4, 2) := by decide +kernel
theorem dX1_rulingGoingDown_7 : decode cX1_rulingGoingDown 7 = .ok (.bipush 12, 2) := by decide +kernel
theorem dX1_rulingGoingDown_9 : decode cX1_rulingGoingDown 9 = .ok (.if_icmp .ge 30, 3) := by decide +kernel
theorem dX1_rulingGoingDown_12 : decode cX1_rulingGoingDown 12 = .ok (.aload_n 0, 1) := by decide +kernel
theorem dX1_rulingGoingDown_13 : decode cX1_rulingGoingDown 13 = .ok (.iload_n 1, 1) := by decide +kernel
theorem dX1_rulingGoingDown_14 : decode cX1_rulingGoingDown 14 = .ok (.iload_n 3, 1) := by decide +kernel
theorem dX1_rulingGoingDown_15 : decode cX1_rulingGoingDown 15 = .ok (.iload_n 2, 1) := by decide +kernel
theorem dX1_rulingGoingDown_16 : decode cX1_rulingGoingDown 16 = .ok (.invokevirtual 43, 3) := by decide +kernel
theorem dX1_rulingGoingDown_19 : decode cX1_rulingGoingDown 19 = .ok (.istore 5, 2) := by decide +kernel
theorem dX1_rulingGoingDown_21 : decode cX1_rulingGoingDown 21 = .ok (.iload 5, 2) := by decide +kernel
theorem dX1_rulingGoingDown_23 : decode cX1_rulingGoingDown 23 = .ok (.iconst (-1), 1) := by decide +kernel
theorem dX1_rulingGoingDown_24 : decode cX1_rulingGoingDown 24 = .ok (.if_icmp .ne 6, 3) := by decide +kernel
theorem dX1_rulingGoingDown_27 : decode cX1_rulingGoingDown 27 = .ok (.goto 12, 3) := by decide +kernel
theorem dX1_rulingGoingDown_30 : decode cX1_rulingGoingDown 30 = .ok (.iload 5, 2) := by decide +kernel
theorem dX1_rulingGoingDown_32 : decode cX1_rulingGoingDown 32 = .ok (.istore_n 3, 1) := by decide +kernel
theorem dX1_rulingGoingDown_33 : decode cX1_rulingGoingDown 33 = .ok (.iinc 4 1, 3) := by decide +kernel
theorem dX1_rulingGoingDown_36 : decode cX1_rulingGoingDown 36 = .ok (.goto (-31), 3) := by decide +kernel
theorem dX1_rulingGoingDown_39 : decode cX1_rulingGoingDown 39 = .ok (.iload_n 3, 1) := by decide +kernel
theorem dX1_rulingGoingDown_40 : decode cX1_rulingGoingDown 40 = .ok (.iconst (-1), 1) := by decide +kernel
theorem dX1_rulingGoingDown_41 : decode cX1_rulingGoingDown 41 = .ok (.if_icmp .ne 7, 3) := by decide +kernel
theorem dX1_rulingGoingDown_44 : decode cX1_rulingGoingDown 44 = .ok (.iconst (-1), 1) := by decide +kernel
theorem dX1_rulingGoingDown_45 : decode cX1_rulingGoingDown 45 = .ok (.goto 16, 3) := by decide +kernel
theorem dX1_rulingGoingDown_48 : decode cX1_rulingGoingDown 48 = .ok (.aload_n 0, 1) := by decide +kernel
theorem dX1_rulingGoingDown_49 : decode cX1_rulingGoingDown 49 = .ok (.getfield 29, 3) := by decide +kernel
theorem dX1_rulingGoingDown_52 : decode cX1_rulingGoingDown 52 = .ok (.iload_n 1, 1) := by decide +kernel
theorem dX1_rulingGoingDown_53 : decode cX1_rulingGoingDown 53 = .ok (.bipush 12, 2) := by decide +kernel
theorem dX1_rulingGoingDown_55 : decode cX1_rulingGoingDown 55 = .ok (.imul, 1) := by decide +kernel
theorem dX1_rulingGoingDown_56 : decode cX1_rulingGoingDown 56 = .ok (.iload_n 3, 1) := by decide +kernel
theorem dX1_rulingGoingDown_57 : decode cX1_rulingGoingDown 57 = .ok (.iadd, 1) := by decide +kernel
theorem dX1_rulingGoingDown_58 : decode cX1_rulingGoingDown 58 = .ok (.invokevirtual 32, 3) := by decide +kernel
theorem dX1_rulingGoingDown_61 : decode cX1_rulingGoingDown 61 = .ok (.ireturn, 1) := by decide +kernel
set_option maxRecDepth 20000 in
theorem ggX1_firstHolding_X2_at : GoodIn wsX1_firstHolding wsX2_at := goodIn_r _ [6, 7, 22] (by decide +kernel) (by decide +kernel)
set_option maxRecDepth 20000 in
theorem gX1_firstHolding_X2_at : GoodIn wsX1_firstHolding (wsV RX1 32 RX2 yX2_at wsX2_at) := goodIn_app (goodIn_of _ (by decide +kernel)) ggX1_firstHolding_X2_at
set_option maxRecDepth 20000 in
theorem ggX1_firstHolding_X1_parentOf : GoodIn wsX1_firstHolding wsX1_parentOf := goodIn_r _ [12, 13, 2, 3, 4, 5, 6, 7, 17, 18, 19, 20, 21, 22] (by decide +kernel) (by decide +kernel)
set_option maxRecDepth 20000 in
theorem gX1_firstHolding_X1_parentOf : GoodIn wsX1_firstHolding (wsV RX1 47 RX1 yX1_parentOf wsX1_parentOf) := goodIn_app (goodIn_of _ (by decide +kernel)) ggX1_firstHolding_X1_parentOf
set_option maxRecDepth 20000 in
theorem ggX1_firstHolding_X4_contains : GoodIn wsX1_firstHolding wsX4_contains := goodIn_r _ [16] (by decide +kernel) (by decide +kernel)
set_option maxRecDepth 20000 in
theorem gX1_firstHolding_X4_contains_n51 : GoodIn wsX1_firstHolding (wsX4_contains) := ggX1_firstHolding_X4_contains
theorem dX1_firstHolding_0 : decode cX1_firstHolding 0 = .ok (.iconst 0, 1) := by decide +kernel
theorem dX1_firstHolding_1 : decode cX1_firstHolding 1 = .ok (.istore 4, 2) := by decide +kernel
theorem dX1_firstHolding_3 : decode cX1_firstHolding 3 = .ok (.iload 4, 2) := by decide +kernel
theorem dX1_firstHolding_5 : decode cX1_firstHolding 5 = .ok (.aload_n 0, 1) := by decide +kernel
theorem dX1_firstHolding_6 : decode cX1_firstHolding 6 = .ok (.getfield 14, 3) := by decide +kernel
theorem dX1_firstHolding_9 : decode cX1_firstHolding 9 = .ok (.iload_n 1, 1) := by decide +kernel
theorem dX1_firstHolding_10 : decode cX1_firstHolding 10 = .ok (.invokevirtual 32, 3) := by decide +kernel
theorem dX1_firstHolding_13 : decode cX1_firstHolding 13 = .ok (.if_icmp .ge 32, 3) := by decide +kernel
theorem dX1_firstHolding_16 : decode cX1_firstHolding 16 = .ok (.aload_n 0, 1) := by decide +kernel
theorem dX1_firstHolding_17 : decode cX1_firstHolding 17 = .ok (.iload_n 1, 1) := by decide +kernel
theorem dX1_firstHolding_18 : decode cX1_firstHolding 18 = .ok (.iload 4, 2) := by decide +kernel
theorem dX1_firstHolding_20 : decode cX1_firstHolding 20 = .ok (.invokevirtual 47, 3) := by decide +kernel
theorem dX1_firstHolding_23 : decode cX1_firstHolding 23 = .ok (.iload_n 2, 1) := by decide +kernel
theorem dX1_firstHolding_24 : decode cX1_firstHolding 24 = .ok (.if_icmp .ne 15, 3) := by decide +kernel
theorem dX1_firstHolding_27 : decode cX1_firstHolding 27 = .ok (.iload_n 3, 1) := by decide +kernel
theorem dX1_firstHolding_28 : decode cX1_firstHolding 28 = .ok (.iload 4, 2) := by decide +kernel
theorem dX1_firstHolding_30 : decode cX1_firstHolding 30 = .ok (.invokestatic 51, 3) := by decide +kernel
theorem dX1_firstHolding_33 : decode cX1_firstHolding 33 = .ok (.ifCond .eq 6, 3) := by decide +kernel
theorem dX1_firstHolding_36 : decode cX1_firstHolding 36 = .ok (.iload 4, 2) := by decide +kernel
theorem dX1_firstHolding_38 : decode cX1_firstHolding 38 = .ok (.ireturn, 1) := by decide +kernel
theorem dX1_firstHolding_39 : decode cX1_firstHolding 39 = .ok (.iinc 4 1, 3) := by decide +kernel
theorem dX1_firstHolding_42 : decode cX1_firstHolding 42 = .ok (.goto (-39), 3) := by decide +kernel
theorem dX1_firstHolding_45 : decode cX1_firstHolding 45 = .ok (.iconst (-1), 1) := by decide +kernel
theorem dX1_firstHolding_46 : decode cX1_firstHolding 46 = .ok (.ireturn, 1) := by decide +kernel
set_option maxRecDepth 20000 in
theorem ggX1_rulingGoingUp_X2_at : GoodIn wsX1_rulingGoingUp wsX2_at := goodIn_r _ [7, 8, 31] (by decide +kernel) (by decide +kernel)
set_option maxRecDepth 20000 in
theorem gX1_rulingGoingUp_X2_at : GoodIn wsX1_rulingGoingUp (wsV RX1 32 RX2 yX2_at wsX2_at) := goodIn_app (goodIn_of _ (by decide +kernel)) ggX1_rulingGoingUp_X2_at
set_option maxRecDepth 20000 in
theorem ggX1_rulingGoingUp_X1_decides : GoodIn wsX1_rulingGoingUp wsX1_decides := goodIn_r _ [13, 1, 3, 4, 5, 6, 7, 8, 14, 15, 16, 12, 17, 18, 19, 20, 21, 22, 23, 24, 25, 26, 27, 28, 29, 30, 31] (by decide +kernel) (by decide +kernel)
set_option maxRecDepth 20000 in
theorem gX1_rulingGoingUp_X1_decides : GoodIn wsX1_rulingGoingUp (wsV RX1 55 RX1 yX1_decides wsX1_decides) := goodIn_app (goodIn_of _ (by decide +kernel)) ggX1_rulingGoingUp_X1_decides
theorem dX1_rulingGoingUp_0 : decode cX1_rulingGoingUp 0 = .ok (.iconst 0, 1) := by decide +kernel
theorem dX1_rulingGoingUp_1 : decode cX1_rulingGoingUp 1 = .ok (.istore_n 3, 1) := by decide +kernel
theorem dX1_rulingGoingUp_2 : decode cX1_rulingGoingUp 2 = .ok (.iload_n 3, 1) := by decide +kernel
theorem dX1_rulingGoingUp_3 : decode cX1_rulingGoingUp 3 = .ok (.aload_n 0, 1) := by decide +kernel
theorem dX1_rulingGoingUp_4 : decode cX1_rulingGoingUp 4 = .ok (.getfield 14, 3) := by decide +kernel
theorem dX1_rulingGoingUp_7 : decode cX1_rulingGoingUp 7 = .ok (.iload_n 1, 1) := by decide +kernel
theorem dX1_rulingGoingUp_8 : decode cX1_rulingGoingUp 8 = .ok (.invokevirtual 32, 3) := by decide +kernel
theorem dX1_rulingGoingUp_11 : decode cX1_rulingGoingUp 11 = .ok (.if_icmp .ge 33, 3) := by decide +kernel
theorem dX1_rulingGoingUp_14 : decode cX1_rulingGoingUp 14 = .ok (.aload_n 0, 1) := by decide +kernel
theorem dX1_rulingGoingUp_15 : decode cX1_rulingGoingUp 15 = .ok (.iload_n 1, 1) := by decide +kernel
theorem dX1_rulingGoingUp_16 : decode cX1_rulingGoingUp 16 = .ok (.iload_n 3, 1) := by decide +kernel
theorem dX1_rulingGoingUp_17 : decode cX1_rulingGoingUp 17 = .ok (.iload_n 2, 1) := by decide +kernel
theorem dX1_rulingGoingUp_18 : decode cX1_rulingGoingUp 18 = .ok (.invokevirtual 55, 3) := by decide +kernel
theorem dX1_rulingGoingUp_21 : decode cX1_rulingGoingUp 21 = .ok (.ifCond .eq 17, 3) := by decide +kernel
theorem dX1_rulingGoingUp_24 : decode cX1_rulingGoingUp 24 = .ok (.aload_n 0, 1) := by decide +kernel
theorem dX1_rulingGoingUp_25 : decode cX1_rulingGoingUp 25 = .ok (.getfield 29, 3) := by decide +kernel
theorem dX1_rulingGoingUp_28 : decode cX1_rulingGoingUp 28 = .ok (.iload_n 1, 1) := by decide +kernel
theorem dX1_rulingGoingUp_29 : decode cX1_rulingGoingUp 29 = .ok (.bipush 12, 2) := by decide +kernel
theorem dX1_rulingGoingUp_31 : decode cX1_rulingGoingUp 31 = .ok (.imul, 1) := by decide +kernel
theorem dX1_rulingGoingUp_32 : decode cX1_rulingGoingUp 32 = .ok (.iload_n 3, 1) := by decide +kernel
theorem dX1_rulingGoingUp_33 : decode cX1_rulingGoingUp 33 = .ok (.iadd, 1) := by decide +kernel
theorem dX1_rulingGoingUp_34 : decode cX1_rulingGoingUp 34 = .ok (.invokevirtual 32, 3) := by decide +kernel
theorem dX1_rulingGoingUp_37 : decode cX1_rulingGoingUp 37 = .ok (.ireturn, 1) := by decide +kernel
theorem dX1_rulingGoingUp_38 : decode cX1_rulingGoingUp 38 = .ok (.iinc 3 1, 3) := by decide +kernel
theorem dX1_rulingGoingUp_41 : decode cX1_rulingGoingUp 41 = .ok (.goto (-39), 3) := by decide +kernel
theorem dX1_rulingGoingUp_44 : decode cX1_rulingGoingUp 44 = .ok (.iconst (-1), 1) := by decide +kernel
theorem dX1_rulingGoingUp_45 : decode cX1_rulingGoingUp 45 = .ok (.ireturn, 1) := by decide +kernel
set_option maxRecDepth 20000 in
theorem ggX1_decides_X2_at : GoodIn wsX1_decides wsX2_at := goodIn_r _ [6, 7, 26] (by decide +kernel) (by decide +kernel)
set_option maxRecDepth 20000 in
theorem gX1_decides_X2_at : GoodIn wsX1_decides (wsV RX1 32 RX2 yX2_at wsX2_at) := goodIn_app (goodIn_of _ (by decide +kernel)) ggX1_decides_X2_at
set_option maxRecDepth 20000 in
theorem ggX1_decides_X1_holdsAmong : GoodIn wsX1_decides wsX1_holdsAmong := goodIn_r _ [12, 13, 14, 15, 11, 16, 17, 2, 3, 4, 5, 6, 7, 18, 19, 20, 21, 22, 23, 24, 25, 26] (by decide +kernel) (by decide +kernel)
set_option maxRecDepth 20000 in
theorem gX1_decides_X1_holdsAmong : GoodIn wsX1_decides (wsV RX1 59 RX1 yX1_holdsAmong wsX1_holdsAmong) := goodIn_app (goodIn_of _ (by decide +kernel)) ggX1_decides_X1_holdsAmong
set_option maxRecDepth 20000 in
theorem ggX1_decides_X1_parentOf : GoodIn wsX1_decides wsX1_parentOf := goodIn_r _ [16, 17, 2, 3, 4, 5, 6, 7, 21, 22, 23, 24, 25, 26] (by decide +kernel) (by decide +kernel)
set_option maxRecDepth 20000 in
theorem gX1_decides_X1_parentOf : GoodIn wsX1_decides (wsV RX1 47 RX1 yX1_parentOf wsX1_parentOf) := goodIn_app (goodIn_of _ (by decide +kernel)) ggX1_decides_X1_parentOf
set_option maxRecDepth 20000 in
theorem ggX1_decides_X4_contains : GoodIn wsX1_decides wsX4_contains := goodIn_r _ [20] (by decide +kernel) (by decide +kernel)
set_option maxRecDepth 20000 in
theorem gX1_decides_X4_contains_n51 : GoodIn wsX1_decides (wsX4_contains) := ggX1_decides_X4_contains
theorem dX1_decides_0 : decode cX1_decides 0 = .ok (.aload_n 0, 1) := by decide +kernel
theorem dX1_decides_1 : decode cX1_decides 1 = .ok (.iload_n 1, 1) := by decide +kernel
theorem dX1_decides_2 : decode cX1_decides 2 = .ok (.iload_n 2, 1) := by decide +kernel
theorem dX1_decides_3 : decode cX1_decides 3 = .ok (.aload_n 0, 1) := by decide +kernel
theorem dX1_decides_4 : decode cX1_decides 4 = .ok (.getfield 14, 3) := by decide +kernel
theorem dX1_decides_7 : decode cX1_decides 7 = .ok (.iload_n 1, 1) := by decide +kernel
theorem dX1_decides_8 : decode cX1_decides 8 = .ok (.invokevirtual 32, 3) := by decide +kernel
theorem dX1_decides_11 : decode cX1_decides 11 = .ok (.iload_n 3, 1) := by decide +kernel
theorem dX1_decides_12 : decode cX1_decides 12 = .ok (.invokevirtual 59, 3) := by decide +kernel
theorem dX1_decides_15 : decode cX1_decides 15 = .ok (.ifCond .eq 5, 3) := by decide +kernel
theorem dX1_decides_18 : decode cX1_decides 18 = .ok (.iconst 0, 1) := by decide +kernel
theorem dX1_decides_19 : decode cX1_decides 19 = .ok (.ireturn, 1) := by decide +kernel
theorem dX1_decides_20 : decode cX1_decides 20 = .ok (.iload_n 2, 1) := by decide +kernel
theorem dX1_decides_21 : decode cX1_decides 21 = .ok (.istore 4, 2) := by decide +kernel
theorem dX1_decides_23 : decode cX1_decides 23 = .ok (.iconst 0, 1) := by decide +kernel
theorem dX1_decides_24 : decode cX1_decides 24 = .ok (.istore 5, 2) := by decide +kernel
theorem dX1_decides_26 : decode cX1_decides 26 = .ok (.iload 5, 2) := by decide +kernel
theorem dX1_decides_28 : decode cX1_decides 28 = .ok (.bipush 12, 2) := by decide +kernel
theorem dX1_decides_30 : decode cX1_decides 30 = .ok (.if_icmp .ge 52, 3) := by decide +kernel
theorem dX1_decides_33 : decode cX1_decides 33 = .ok (.iload 4, 2) := by decide +kernel
theorem dX1_decides_35 : decode cX1_decides 35 = .ok (.iconst (-1), 1) := by decide +kernel
theorem dX1_decides_36 : decode cX1_decides 36 = .ok (.if_icmp .eq 46, 3) := by decide +kernel
theorem dX1_decides_39 : decode cX1_decides 39 = .ok (.aload_n 0, 1) := by decide +kernel
theorem dX1_decides_40 : decode cX1_decides 40 = .ok (.iload_n 1, 1) := by decide +kernel
theorem dX1_decides_41 : decode cX1_decides 41 = .ok (.iload 4, 2) := by decide +kernel
theorem dX1_decides_43 : decode cX1_decides 43 = .ok (.invokevirtual 47, 3) := by decide +kernel
theorem dX1_decides_46 : decode cX1_decides 46 = .ok (.istore 6, 2) := by decide +kernel
theorem dX1_decides_48 : decode cX1_decides 48 = .ok (.iload_n 3, 1) := by decide +kernel
theorem dX1_decides_49 : decode cX1_decides 49 = .ok (.iload 4, 2) := by decide +kernel
theorem dX1_decides_51 : decode cX1_decides 51 = .ok (.invokestatic 51, 3) := by decide +kernel
theorem dX1_decides_54 : decode cX1_decides 54 = .ok (.ifCond .eq 16, 3) := by decide +kernel
theorem dX1_decides_57 : decode cX1_decides 57 = .ok (.aload_n 0, 1) := by decide +kernel
theorem dX1_decides_58 : decode cX1_decides 58 = .ok (.iload_n 1, 1) := by decide +kernel
theorem dX1_decides_59 : decode cX1_decides 59 = .ok (.iload 6, 2) := by decide +kernel
theorem dX1_decides_61 : decode cX1_decides 61 = .ok (.iload 4, 2) := by decide +kernel
theorem dX1_decides_63 : decode cX1_decides 63 = .ok (.iload_n 3, 1) := by decide +kernel
theorem dX1_decides_64 : decode cX1_decides 64 = .ok (.invokevirtual 59, 3) := by decide +kernel
theorem dX1_decides_67 : decode cX1_decides 67 = .ok (.ifCond .eq 5, 3) := by decide +kernel
theorem dX1_decides_70 : decode cX1_decides 70 = .ok (.iconst 0, 1) := by decide +kernel
theorem dX1_decides_71 : decode cX1_decides 71 = .ok (.ireturn, 1) := by decide +kernel
theorem dX1_decides_72 : decode cX1_decides 72 = .ok (.iload 6, 2) := by decide +kernel
theorem dX1_decides_74 : decode cX1_decides 74 = .ok (.istore 4, 2) := by decide +kernel
theorem dX1_decides_76 : decode cX1_decides 76 = .ok (.iinc 5 1, 3) := by decide +kernel
theorem dX1_decides_79 : decode cX1_decides 79 = .ok (.goto (-53), 3) := by decide +kernel
theorem dX1_decides_82 : decode cX1_decides 82 = .ok (.iconst 1, 1) := by decide +kernel
theorem dX1_decides_83 : decode cX1_decides 83 = .ok (.ireturn, 1) := by decide +kernel
set_option maxRecDepth 20000 in
theorem ggX1_holdsAmong_X1_parentOf : GoodIn wsX1_holdsAmong wsX1_parentOf := goodIn_r _ [5, 6, 7, 8, 9, 10, 11, 12, 16, 17, 18, 19, 20, 21] (by decide +kernel) (by decide +kernel)
set_option maxRecDepth 20000 in
theorem gX1_holdsAmong_X1_parentOf : GoodIn wsX1_holdsAmong (wsV RX1 47 RX1 yX1_parentOf wsX1_parentOf) := goodIn_app (goodIn_of _ (by decide +kernel)) ggX1_holdsAmong_X1_parentOf
set_option maxRecDepth 20000 in
theorem ggX1_holdsAmong_X4_contains : GoodIn wsX1_holdsAmong wsX4_contains := goodIn_r _ [15] (by decide +kernel) (by decide +kernel)
set_option maxRecDepth 20000 in
theorem gX1_holdsAmong_X4_contains_n51 : GoodIn wsX1_holdsAmong (wsX4_contains) := ggX1_holdsAmong_X4_contains
theorem dX1_holdsAmong_0 : decode cX1_holdsAmong 0 = .ok (.iconst 0, 1) := by decide +kernel
theorem dX1_holdsAmong_1 : decode cX1_holdsAmong 1 = .ok (.istore 5, 2) := by decide +kernel
theorem dX1_holdsAmong_3 : decode cX1_holdsAmong 3 = .ok (.iload 5, 2) := by decide +kernel
theorem dX1_holdsAmong_5 : decode cX1_holdsAmong 5 = .ok (.iload_n 3, 1) := by decide +kernel
theorem dX1_holdsAmong_6 : decode cX1_holdsAmong 6 = .ok (.if_icmp .ge 32, 3) := by decide +kernel
theorem dX1_holdsAmong_9 : decode cX1_holdsAmong 9 = .ok (.aload_n 0, 1) := by decide +kernel
theorem dX1_holdsAmong_10 : decode cX1_holdsAmong 10 = .ok (.iload_n 1, 1) := by decide +kernel
theorem dX1_holdsAmong_11 : decode cX1_holdsAmong 11 = .ok (.iload 5, 2) := by decide +kernel
theorem dX1_holdsAmong_13 : decode cX1_holdsAmong 13 = .ok (.invokevirtual 47, 3) := by decide +kernel
theorem dX1_holdsAmong_16 : decode cX1_holdsAmong 16 = .ok (.iload_n 2, 1) := by decide +kernel
theorem dX1_holdsAmong_17 : decode cX1_holdsAmong 17 = .ok (.if_icmp .ne 15, 3) := by decide +kernel
theorem dX1_holdsAmong_20 : decode cX1_holdsAmong 20 = .ok (.iload 4, 2) := by decide +kernel
theorem dX1_holdsAmong_22 : decode cX1_holdsAmong 22 = .ok (.iload 5, 2) := by decide +kernel
theorem dX1_holdsAmong_24 : decode cX1_holdsAmong 24 = .ok (.invokestatic 51, 3) := by decide +kernel
theorem dX1_holdsAmong_27 : decode cX1_holdsAmong 27 = .ok (.ifCond .eq 5, 3) := by decide +kernel
theorem dX1_holdsAmong_30 : decode cX1_holdsAmong 30 = .ok (.iconst 1, 1) := by decide +kernel
theorem dX1_holdsAmong_31 : decode cX1_holdsAmong 31 = .ok (.ireturn, 1) := by decide +kernel
theorem dX1_holdsAmong_32 : decode cX1_holdsAmong 32 = .ok (.iinc 5 1, 3) := by decide +kernel
theorem dX1_holdsAmong_35 : decode cX1_holdsAmong 35 = .ok (.goto (-32), 3) := by decide +kernel
theorem dX1_holdsAmong_38 : decode cX1_holdsAmong 38 = .ok (.iconst 0, 1) := by decide +kernel
theorem dX1_holdsAmong_39 : decode cX1_holdsAmong 39 = .ok (.ireturn, 1) := by decide +kernel
set_option maxRecDepth 20000 in
theorem ggX1_deepest_X2_at : GoodIn wsX1_deepest wsX2_at := goodIn_r _ [10, 11, 27] (by decide +kernel) (by decide +kernel)
set_option maxRecDepth 20000 in
theorem gX1_deepest_X2_at : GoodIn wsX1_deepest (wsV RX1 32 RX2 yX2_at wsX2_at) := goodIn_app (goodIn_of _ (by decide +kernel)) ggX1_deepest_X2_at
set_option maxRecDepth 20000 in
theorem ggX1_deepest_X1_levelOf : GoodIn wsX1_deepest wsX1_levelOf := goodIn_r _ [16, 17, 18, 19, 15, 20, 21, 6, 7, 8, 9, 10, 11, 22, 23, 24, 25, 26, 27] (by decide +kernel) (by decide +kernel)
set_option maxRecDepth 20000 in
theorem gX1_deepest_X1_levelOf : GoodIn wsX1_deepest (wsV RX1 63 RX1 yX1_levelOf wsX1_levelOf) := goodIn_app (goodIn_of _ (by decide +kernel)) ggX1_deepest_X1_levelOf
theorem dX1_deepest_0 : decode cX1_deepest 0 = .ok (.iconst 0, 1) := by decide +kernel
theorem dX1_deepest_1 : decode cX1_deepest 1 = .ok (.istore_n 2, 1) := by decide +kernel
theorem dX1_deepest_2 : decode cX1_deepest 2 = .ok (.iconst 0, 1) := by decide +kernel
theorem dX1_deepest_3 : decode cX1_deepest 3 = .ok (.istore_n 3, 1) := by decide +kernel
theorem dX1_deepest_4 : decode cX1_deepest 4 = .ok (.iload_n 3, 1) := by decide +kernel
theorem dX1_deepest_5 : decode cX1_deepest 5 = .ok (.aload_n 0, 1) := by decide +kernel
theorem dX1_deepest_6 : decode cX1_deepest 6 = .ok (.getfield 14, 3) := by decide +kernel
theorem dX1_deepest_9 : decode cX1_deepest 9 = .ok (.iload_n 1, 1) := by decide +kernel
theorem dX1_deepest_10 : decode cX1_deepest 10 = .ok (.invokevirtual 32, 3) := by decide +kernel
theorem dX1_deepest_13 : decode cX1_deepest 13 = .ok (.if_icmp .ge 20, 3) := by decide +kernel
theorem dX1_deepest_16 : decode cX1_deepest 16 = .ok (.iload_n 2, 1) := by decide +kernel
theorem dX1_deepest_17 : decode cX1_deepest 17 = .ok (.aload_n 0, 1) := by decide +kernel
theorem dX1_deepest_18 : decode cX1_deepest 18 = .ok (.iload_n 1, 1) := by decide +kernel
theorem dX1_deepest_19 : decode cX1_deepest 19 = .ok (.iload_n 3, 1) := by decide +kernel
theorem dX1_deepest_20 : decode cX1_deepest 20 = .ok (.invokevirtual 63, 3) := by decide +kernel
theorem dX1_deepest_23 : decode cX1_deepest 23 = .ok (.invokestatic 66, 3) := by decide +kernel
theorem dX1_deepest_26 : decode cX1_deepest 26 = .ok (.istore_n 2, 1) := by decide +kernel
theorem dX1_deepest_27 : decode cX1_deepest 27 = .ok (.iinc 3 1, 3) := by decide +kernel
theorem dX1_deepest_30 : decode cX1_deepest 30 = .ok (.goto (-26), 3) := by decide +kernel
theorem dX1_deepest_33 : decode cX1_deepest 33 = .ok (.iload_n 2, 1) := by decide +kernel
theorem dX1_deepest_34 : decode cX1_deepest 34 = .ok (.ireturn, 1) := by decide +kernel
set_option maxRecDepth 20000 in
theorem ggX1_levelOf_X1_parentOf : GoodIn wsX1_levelOf wsX1_parentOf := goodIn_r _ [5, 6, 7, 8, 9, 10, 11, 12, 13, 14, 15, 16, 17, 18] (by decide +kernel) (by decide +kernel)
set_option maxRecDepth 20000 in
theorem gX1_levelOf_X1_parentOf : GoodIn wsX1_levelOf (wsV RX1 47 RX1 yX1_parentOf wsX1_parentOf) := goodIn_app (goodIn_of _ (by decide +kernel)) ggX1_levelOf_X1_parentOf
theorem dX1_levelOf_0 : decode cX1_levelOf 0 = .ok (.iconst 0, 1) := by decide +kernel
theorem dX1_levelOf_1 : decode cX1_levelOf 1 = .ok (.istore_n 3, 1) := by decide +kernel
theorem dX1_levelOf_2 : decode cX1_levelOf 2 = .ok (.iload_n 2, 1) := by decide +kernel
theorem dX1_levelOf_3 : decode cX1_levelOf 3 = .ok (.istore 4, 2) := by decide +kernel
theorem dX1_levelOf_5 : decode cX1_levelOf 5 = .ok (.iload 4, 2) := by decide +kernel
theorem dX1_levelOf_7 : decode cX1_levelOf 7 = .ok (.iconst (-1), 1) := by decide +kernel
theorem dX1_levelOf_8 : decode cX1_levelOf 8 = .ok (.if_icmp .eq 24, 3) := by decide +kernel
theorem dX1_levelOf_11 : decode cX1_levelOf 11 = .ok (.iload_n 3, 1) := by decide +kernel
theorem dX1_levelOf_12 : decode cX1_levelOf 12 = .ok (.bipush 12, 2) := by decide +kernel
theorem dX1_levelOf_14 : decode cX1_levelOf 14 = .ok (.if_icmp .ge 18, 3) := by decide +kernel
theorem dX1_levelOf_17 : decode cX1_levelOf 17 = .ok (.iinc 3 1, 3) := by decide +kernel
theorem dX1_levelOf_20 : decode cX1_levelOf 20 = .ok (.aload_n 0, 1) := by decide +kernel
theorem dX1_levelOf_21 : decode cX1_levelOf 21 = .ok (.iload_n 1, 1) := by decide +kernel
theorem dX1_levelOf_22 : decode cX1_levelOf 22 = .ok (.iload 4, 2) := by decide +kernel
theorem dX1_levelOf_24 : decode cX1_levelOf 24 = .ok (.invokevirtual 47, 3) := by decide +kernel
theorem dX1_levelOf_27 : decode cX1_levelOf 27 = .ok (.istore 4, 2) := by decide +kernel
theorem dX1_levelOf_29 : decode cX1_levelOf 29 = .ok (.goto (-24), 3) := by decide +kernel
theorem dX1_levelOf_32 : decode cX1_levelOf 32 = .ok (.iload_n 3, 1) := by decide +kernel
theorem dX1_levelOf_33 : decode cX1_levelOf 33 = .ok (.ireturn, 1) := by decide +kernel
theorem dX2_init_0 : decode cX2_init 0 = .ok (.aload_n 0, 1) := by decide +kernel
theorem dX2_init_1 : decode cX2_init 1 = .ok (.invokespecial 3, 3) := by decide +kernel
theorem dX2_init_4 : decode cX2_init 4 = .ok (.aload_n 0, 1) := by decide +kernel
theorem dX2_init_5 : decode cX2_init 5 = .ok (.iload_n 1, 1) := by decide +kernel
theorem dX2_init_6 : decode cX2_init 6 = .ok (.iconst 0, 1) := by decide +kernel
theorem dX2_init_7 : decode cX2_init 7 = .ok (.invokestatic 9, 3) := by decide +kernel
theorem dX2_init_10 : decode cX2_init 10 = .ok (.newarray .int, 2) := by decide +kernel
theorem dX2_init_12 : decode cX2_init 12 = .ok (.putfield 15, 3) := by decide +kernel
theorem dX2_init_15 : decode cX2_init 15 = .ok (.iconst 0, 1) := by decide +kernel
theorem dX2_init_16 : decode cX2_init 16 = .ok (.istore_n 3, 1) := by decide +kernel
theorem dX2_init_17 : decode cX2_init 17 = .ok (.iload_n 3, 1) := by decide +kernel
theorem dX2_init_18 : decode cX2_init 18 = .ok (.aload_n 0, 1) := by decide +kernel
theorem dX2_init_19 : decode cX2_init 19 = .ok (.getfield 15, 3) := by decide +kernel
theorem dX2_init_22 : decode cX2_init 22 = .ok (.arraylength, 1) := by decide +kernel
theorem dX2_init_23 : decode cX2_init 23 = .ok (.if_icmp .ge 16, 3) := by decide +kernel
theorem dX2_init_26 : decode cX2_init 26 = .ok (.aload_n 0, 1) := by decide +kernel
theorem dX2_init_27 : decode cX2_init 27 = .ok (.getfield 15, 3) := by decide +kernel
theorem dX2_init_30 : decode cX2_init 30 = .ok (.iload_n 3, 1) := by decide +kernel
theorem dX2_init_31 : decode cX2_init 31 = .ok (.iload_n 2, 1) := by decide +kernel
theorem dX2_init_32 : decode cX2_init 32 = .ok (.iastore, 1) := by decide +kernel
theorem dX2_init_33 : decode cX2_init 33 = .ok (.iinc 3 1, 3) := by decide +kernel
theorem dX2_init_36 : decode cX2_init 36 = .ok (.goto (-19), 3) := by decide +kernel
theorem dX2_init_39 : decode cX2_init 39 = .ok (.return_, 1) := by decide +kernel
theorem dX2_at_0 : decode cX2_at 0 = .ok (.iload_n 1, 1) := by decide +kernel
theorem dX2_at_1 : decode cX2_at 1 = .ok (.ifCond .lt 21, 3) := by decide +kernel
theorem dX2_at_4 : decode cX2_at 4 = .ok (.iload_n 1, 1) := by decide +kernel
theorem dX2_at_5 : decode cX2_at 5 = .ok (.aload_n 0, 1) := by decide +kernel
theorem dX2_at_6 : decode cX2_at 6 = .ok (.getfield 15, 3) := by decide +kernel
theorem dX2_at_9 : decode cX2_at 9 = .ok (.arraylength, 1) := by decide +kernel
theorem dX2_at_10 : decode cX2_at 10 = .ok (.if_icmp .ge 12, 3) := by decide +kernel
theorem dX2_at_13 : decode cX2_at 13 = .ok (.aload_n 0, 1) := by decide +kernel
theorem dX2_at_14 : decode cX2_at 14 = .ok (.getfield 15, 3) := by decide +kernel
theorem dX2_at_17 : decode cX2_at 17 = .ok (.iload_n 1, 1) := by decide +kernel
theorem dX2_at_18 : decode cX2_at 18 = .ok (.iaload, 1) := by decide +kernel
theorem dX2_at_19 : decode cX2_at 19 = .ok (.goto 4, 3) := by decide +kernel
theorem dX2_at_22 : decode cX2_at 22 = .ok (.iconst (-1), 1) := by decide +kernel
theorem dX2_at_23 : decode cX2_at 23 = .ok (.ireturn, 1) := by decide +kernel
theorem dX2_put_0 : decode cX2_put 0 = .ok (.iload_n 1, 1) := by decide +kernel
theorem dX2_put_1 : decode cX2_put 1 = .ok (.ifCond .lt 19, 3) := by decide +kernel
theorem dX2_put_4 : decode cX2_put 4 = .ok (.iload_n 1, 1) := by decide +kernel
theorem dX2_put_5 : decode cX2_put 5 = .ok (.aload_n 0, 1) := by decide +kernel
theorem dX2_put_6 : decode cX2_put 6 = .ok (.getfield 15, 3) := by decide +kernel
theorem dX2_put_9 : decode cX2_put 9 = .ok (.arraylength, 1) := by decide +kernel
theorem dX2_put_10 : decode cX2_put 10 = .ok (.if_icmp .ge 10, 3) := by decide +kernel
theorem dX2_put_13 : decode cX2_put 13 = .ok (.aload_n 0, 1) := by decide +kernel
theorem dX2_put_14 : decode cX2_put 14 = .ok (.getfield 15, 3) := by decide +kernel
theorem dX2_put_17 : decode cX2_put 17 = .ok (.iload_n 1, 1) := by decide +kernel
theorem dX2_put_18 : decode cX2_put 18 = .ok (.iload_n 2, 1) := by decide +kernel
theorem dX2_put_19 : decode cX2_put 19 = .ok (.iastore, 1) := by decide +kernel
theorem dX2_put_20 : decode cX2_put 20 = .ok (.return_, 1) := by decide +kernel
set_option maxRecDepth 20000 in
theorem ggX3_init_X2_init : GoodIn wsX3_init wsX2_init := goodIn_r _ [18, 19, 2, 3, 20, 21, 22, 23, 24, 25, 26] (by decide +kernel) (by decide +kernel)
set_option maxRecDepth 20000 in
theorem gX3_init_X2_init : GoodIn wsX3_init (wsX2_init) := ggX3_init_X2_init
theorem dX3_init_0 : decode cX3_init 0 = .ok (.aload_n 0, 1) := by decide +kernel
theorem dX3_init_1 : decode cX3_init 1 = .ok (.invokespecial 3, 3) := by decide +kernel
theorem dX3_init_4 : decode cX3_init 4 = .ok (.aload_n 0, 1) := by decide +kernel
theorem dX3_init_5 : decode cX3_init 5 = .ok (.new 9, 3) := by decide +kernel
theorem dX3_init_8 : decode cX3_init 8 = .ok (.dup, 1) := by decide +kernel
theorem dX3_init_9 : decode cX3_init 9 = .ok (.bipush 8, 2) := by decide +kernel
theorem dX3_init_11 : decode cX3_init 11 = .ok (.iconst 0, 1) := by decide +kernel
theorem dX3_init_12 : decode cX3_init 12 = .ok (.invokespecial 11, 3) := by decide +kernel
theorem dX3_init_15 : decode cX3_init 15 = .ok (.putfield 14, 3) := by decide +kernel
theorem dX3_init_18 : decode cX3_init 18 = .ok (.aload_n 0, 1) := by decide +kernel
theorem dX3_init_19 : decode cX3_init 19 = .ok (.new 9, 3) := by decide +kernel
theorem dX3_init_22 : decode cX3_init 22 = .ok (.dup, 1) := by decide +kernel
theorem dX3_init_23 : decode cX3_init 23 = .ok (.bipush 8, 2) := by decide +kernel
theorem dX3_init_25 : decode cX3_init 25 = .ok (.iconst 0, 1) := by decide +kernel
theorem dX3_init_26 : decode cX3_init 26 = .ok (.invokespecial 11, 3) := by decide +kernel
theorem dX3_init_29 : decode cX3_init 29 = .ok (.putfield 20, 3) := by decide +kernel
theorem dX3_init_32 : decode cX3_init 32 = .ok (.aload_n 0, 1) := by decide +kernel
theorem dX3_init_33 : decode cX3_init 33 = .ok (.new 9, 3) := by decide +kernel
theorem dX3_init_36 : decode cX3_init 36 = .ok (.dup, 1) := by decide +kernel
theorem dX3_init_37 : decode cX3_init 37 = .ok (.bipush 8, 2) := by decide +kernel
theorem dX3_init_39 : decode cX3_init 39 = .ok (.iconst 0, 1) := by decide +kernel
theorem dX3_init_40 : decode cX3_init 40 = .ok (.invokespecial 11, 3) := by decide +kernel
theorem dX3_init_43 : decode cX3_init 43 = .ok (.putfield 23, 3) := by decide +kernel
theorem dX3_init_46 : decode cX3_init 46 = .ok (.aload_n 0, 1) := by decide +kernel
theorem dX3_init_47 : decode cX3_init 47 = .ok (.new 9, 3) := by decide +kernel
theorem dX3_init_50 : decode cX3_init 50 = .ok (.dup, 1) := by decide +kernel
theorem dX3_init_51 : decode cX3_init 51 = .ok (.bipush 32, 2) := by decide +kernel
theorem dX3_init_53 : decode cX3_init 53 = .ok (.iconst 0, 1) := by decide +kernel
theorem dX3_init_54 : decode cX3_init 54 = .ok (.invokespecial 11, 3) := by decide +kernel
theorem dX3_init_57 : decode cX3_init 57 = .ok (.putfield 26, 3) := by decide +kernel
theorem dX3_init_60 : decode cX3_init 60 = .ok (.aload_n 0, 1) := by decide +kernel
theorem dX3_init_61 : decode cX3_init 61 = .ok (.new 9, 3) := by decide +kernel
theorem dX3_init_64 : decode cX3_init 64 = .ok (.dup, 1) := by decide +kernel
theorem dX3_init_65 : decode cX3_init 65 = .ok (.bipush 16, 2) := by decide +kernel
theorem dX3_init_67 : decode cX3_init 67 = .ok (.iconst (-1), 1) := by decide +kernel
theorem dX3_init_68 : decode cX3_init 68 = .ok (.invokespecial 11, 3) := by decide +kernel
theorem dX3_init_71 : decode cX3_init 71 = .ok (.putfield 29, 3) := by decide +kernel
theorem dX3_init_74 : decode cX3_init 74 = .ok (.aload_n 0, 1) := by decide +kernel
theorem dX3_init_75 : decode cX3_init 75 = .ok (.new 9, 3) := by decide +kernel
theorem dX3_init_78 : decode cX3_init 78 = .ok (.dup, 1) := by decide +kernel
theorem dX3_init_79 : decode cX3_init 79 = .ok (.bipush 16, 2) := by decide +kernel
theorem dX3_init_81 : decode cX3_init 81 = .ok (.iconst (-1), 1) := by decide +kernel
theorem dX3_init_82 : decode cX3_init 82 = .ok (.invokespecial 11, 3) := by decide +kernel
theorem dX3_init_85 : decode cX3_init 85 = .ok (.putfield 32, 3) := by decide +kernel
theorem dX3_init_88 : decode cX3_init 88 = .ok (.aload_n 0, 1) := by decide +kernel
theorem dX3_init_89 : decode cX3_init 89 = .ok (.new 9, 3) := by decide +kernel
theorem dX3_init_92 : decode cX3_init 92 = .ok (.dup, 1) := by decide +kernel
theorem dX3_init_93 : decode cX3_init 93 = .ok (.bipush 16, 2) := by decide +kernel
theorem dX3_init_95 : decode cX3_init 95 = .ok (.iconst (-1), 1) := by decide +kernel
theorem dX3_init_96 : decode cX3_init 96 = .ok (.invokespecial 11, 3) := by decide +kernel
theorem dX3_init_99 : decode cX3_init 99 = .ok (.putfield 35, 3) := by decide +kernel
theorem dX3_init_102 : decode cX3_init 102 = .ok (.aload_n 0, 1) := by decide +kernel
theorem dX3_init_103 : decode cX3_init 103 = .ok (.new 9, 3) := by decide +kernel
theorem dX3_init_106 : decode cX3_init 106 = .ok (.dup, 1) := by decide +kernel
theorem dX3_init_107 : decode cX3_init 107 = .ok (.bipush 64, 2) := by decide +kernel
theorem dX3_init_109 : decode cX3_init 109 = .ok (.iconst 0, 1) := by decide +kernel
theorem dX3_init_110 : decode cX3_init 110 = .ok (.invokespecial 11, 3) := by decide +kernel
theorem dX3_init_113 : decode cX3_init 113 = .ok (.putfield 38, 3) := by decide +kernel
theorem dX3_init_116 : decode cX3_init 116 = .ok (.aload_n 0, 1) := by decide +kernel
theorem dX3_init_117 : decode cX3_init 117 = .ok (.new 9, 3) := by decide +kernel
theorem dX3_init_120 : decode cX3_init 120 = .ok (.dup, 1) := by decide +kernel
theorem dX3_init_121 : decode cX3_init 121 = .ok (.bipush 64, 2) := by decide +kernel
theorem dX3_init_123 : decode cX3_init 123 = .ok (.iconst 0, 1) := by decide +kernel
theorem dX3_init_124 : decode cX3_init 124 = .ok (.invokespecial 11, 3) := by decide +kernel
theorem dX3_init_127 : decode cX3_init 127 = .ok (.putfield 41, 3) := by decide +kernel
theorem dX3_init_130 : decode cX3_init 130 = .ok (.return_, 1) := by decide +kernel
set_option maxRecDepth 20000 in
theorem ggX3_putTitle_X2_put : GoodIn wsX3_putTitle wsX2_put := goodIn_r _ [9, 10, 22] (by decide +kernel) (by decide +kernel)
set_option maxRecDepth 20000 in
theorem gX3_putTitle_X2_put : GoodIn wsX3_putTitle (wsV RX3 48 RX2 yX2_put wsX2_put) := goodIn_app (goodIn_of _ (by decide +kernel)) ggX3_putTitle_X2_put
theorem dX3_putTitle_0 : decode cX3_putTitle 0 = .ok (.aload_n 0, 1) := by decide +kernel
theorem dX3_putTitle_1 : decode cX3_putTitle 1 = .ok (.getfield 14, 3) := by decide +kernel
theorem dX3_putTitle_4 : decode cX3_putTitle 4 = .ok (.aload_n 0, 1) := by decide +kernel
theorem dX3_putTitle_5 : decode cX3_putTitle 5 = .ok (.getfield 44, 3) := by decide +kernel
theorem dX3_putTitle_8 : decode cX3_putTitle 8 = .ok (.iload_n 1, 1) := by decide +kernel
theorem dX3_putTitle_9 : decode cX3_putTitle 9 = .ok (.invokevirtual 48, 3) := by decide +kernel
theorem dX3_putTitle_12 : decode cX3_putTitle 12 = .ok (.aload_n 0, 1) := by decide +kernel
theorem dX3_putTitle_13 : decode cX3_putTitle 13 = .ok (.getfield 20, 3) := by decide +kernel
theorem dX3_putTitle_16 : decode cX3_putTitle 16 = .ok (.aload_n 0, 1) := by decide +kernel
theorem dX3_putTitle_17 : decode cX3_putTitle 17 = .ok (.getfield 44, 3) := by decide +kernel
theorem dX3_putTitle_20 : decode cX3_putTitle 20 = .ok (.iload_n 2, 1) := by decide +kernel
theorem dX3_putTitle_21 : decode cX3_putTitle 21 = .ok (.invokevirtual 48, 3) := by decide +kernel
theorem dX3_putTitle_24 : decode cX3_putTitle 24 = .ok (.aload_n 0, 1) := by decide +kernel
theorem dX3_putTitle_25 : decode cX3_putTitle 25 = .ok (.getfield 23, 3) := by decide +kernel
theorem dX3_putTitle_28 : decode cX3_putTitle 28 = .ok (.aload_n 0, 1) := by decide +kernel
theorem dX3_putTitle_29 : decode cX3_putTitle 29 = .ok (.getfield 44, 3) := by decide +kernel
theorem dX3_putTitle_32 : decode cX3_putTitle 32 = .ok (.iload_n 3, 1) := by decide +kernel
theorem dX3_putTitle_33 : decode cX3_putTitle 33 = .ok (.invokevirtual 48, 3) := by decide +kernel
theorem dX3_putTitle_36 : decode cX3_putTitle 36 = .ok (.aload_n 0, 1) := by decide +kernel
theorem dX3_putTitle_37 : decode cX3_putTitle 37 = .ok (.dup, 1) := by decide +kernel
theorem dX3_putTitle_38 : decode cX3_putTitle 38 = .ok (.getfield 44, 3) := by decide +kernel
theorem dX3_putTitle_41 : decode cX3_putTitle 41 = .ok (.iconst 1, 1) := by decide +kernel
theorem dX3_putTitle_42 : decode cX3_putTitle 42 = .ok (.iadd, 1) := by decide +kernel
theorem dX3_putTitle_43 : decode cX3_putTitle 43 = .ok (.putfield 44, 3) := by decide +kernel
theorem dX3_putTitle_46 : decode cX3_putTitle 46 = .ok (.aload_n 0, 1) := by decide +kernel
theorem dX3_putTitle_47 : decode cX3_putTitle 47 = .ok (.getfield 44, 3) := by decide +kernel
theorem dX3_putTitle_50 : decode cX3_putTitle 50 = .ok (.iconst 1, 1) := by decide +kernel
theorem dX3_putTitle_51 : decode cX3_putTitle 51 = .ok (.isub, 1) := by decide +kernel
theorem dX3_putTitle_52 : decode cX3_putTitle 52 = .ok (.ireturn, 1) := by decide +kernel
set_option maxRecDepth 20000 in
theorem ggX3_setFull_X2_put : GoodIn wsX3_setFull wsX2_put := goodIn_r _ [6, 7, 19] (by decide +kernel) (by decide +kernel)
set_option maxRecDepth 20000 in
theorem gX3_setFull_X2_put : GoodIn wsX3_setFull (wsV RX3 48 RX2 yX2_put wsX2_put) := goodIn_app (goodIn_of _ (by decide +kernel)) ggX3_setFull_X2_put
theorem dX3_setFull_0 : decode cX3_setFull 0 = .ok (.aload_n 0, 1) := by decide +kernel
theorem dX3_setFull_1 : decode cX3_setFull 1 = .ok (.getfield 26, 3) := by decide +kernel
theorem dX3_setFull_4 : decode cX3_setFull 4 = .ok (.iload_n 1, 1) := by decide +kernel
theorem dX3_setFull_5 : decode cX3_setFull 5 = .ok (.iconst 4, 1) := by decide +kernel
theorem dX3_setFull_6 : decode cX3_setFull 6 = .ok (.imul, 1) := by decide +kernel
theorem dX3_setFull_7 : decode cX3_setFull 7 = .ok (.iload_n 2, 1) := by decide +kernel
theorem dX3_setFull_8 : decode cX3_setFull 8 = .ok (.iadd, 1) := by decide +kernel
theorem dX3_setFull_9 : decode cX3_setFull 9 = .ok (.iload_n 3, 1) := by decide +kernel
theorem dX3_setFull_10 : decode cX3_setFull 10 = .ok (.invokevirtual 48, 3) := by decide +kernel
theorem dX3_setFull_13 : decode cX3_setFull 13 = .ok (.return_, 1) := by decide +kernel
set_option maxRecDepth 20000 in
theorem ggX3_putCopy_X2_put : GoodIn wsX3_putCopy wsX2_put := goodIn_r _ [9, 10, 26] (by decide +kernel) (by decide +kernel)
set_option maxRecDepth 20000 in
theorem gX3_putCopy_X2_put : GoodIn wsX3_putCopy (wsV RX3 48 RX2 yX2_put wsX2_put) := goodIn_app (goodIn_of _ (by decide +kernel)) ggX3_putCopy_X2_put
set_option maxRecDepth 20000 in
theorem ggX3_putCopy_X2_at : GoodIn wsX3_putCopy wsX2_at := goodIn_r _ [14, 10, 26] (by decide +kernel) (by decide +kernel)
set_option maxRecDepth 20000 in
theorem gX3_putCopy_X2_at : GoodIn wsX3_putCopy (wsV RX3 54 RX2 yX2_at wsX2_at) := goodIn_app (goodIn_of _ (by decide +kernel)) ggX3_putCopy_X2_at
theorem dX3_putCopy_0 : decode cX3_putCopy 0 = .ok (.aload_n 0, 1) := by decide +kernel
theorem dX3_putCopy_1 : decode cX3_putCopy 1 = .ok (.getfield 51, 3) := by decide +kernel
theorem dX3_putCopy_4 : decode cX3_putCopy 4 = .ok (.istore_n 2, 1) := by decide +kernel
theorem dX3_putCopy_5 : decode cX3_putCopy 5 = .ok (.aload_n 0, 1) := by decide +kernel
theorem dX3_putCopy_6 : decode cX3_putCopy 6 = .ok (.dup, 1) := by decide +kernel
theorem dX3_putCopy_7 : decode cX3_putCopy 7 = .ok (.getfield 51, 3) := by decide +kernel
theorem dX3_putCopy_10 : decode cX3_putCopy 10 = .ok (.iconst 1, 1) := by decide +kernel
theorem dX3_putCopy_11 : decode cX3_putCopy 11 = .ok (.iadd, 1) := by decide +kernel
theorem dX3_putCopy_12 : decode cX3_putCopy 12 = .ok (.putfield 51, 3) := by decide +kernel
theorem dX3_putCopy_15 : decode cX3_putCopy 15 = .ok (.aload_n 0, 1) := by decide +kernel
theorem dX3_putCopy_16 : decode cX3_putCopy 16 = .ok (.getfield 29, 3) := by decide +kernel
theorem dX3_putCopy_19 : decode cX3_putCopy 19 = .ok (.iload_n 2, 1) := by decide +kernel
theorem dX3_putCopy_20 : decode cX3_putCopy 20 = .ok (.iload_n 1, 1) := by decide +kernel
theorem dX3_putCopy_21 : decode cX3_putCopy 21 = .ok (.invokevirtual 48, 3) := by decide +kernel
theorem dX3_putCopy_24 : decode cX3_putCopy 24 = .ok (.iconst 0, 1) := by decide +kernel
theorem dX3_putCopy_25 : decode cX3_putCopy 25 = .ok (.istore_n 3, 1) := by decide +kernel
theorem dX3_putCopy_26 : decode cX3_putCopy 26 = .ok (.iload_n 3, 1) := by decide +kernel
theorem dX3_putCopy_27 : decode cX3_putCopy 27 = .ok (.iconst 4, 1) := by decide +kernel
theorem dX3_putCopy_28 : decode cX3_putCopy 28 = .ok (.if_icmp .ge 33, 3) := by decide +kernel
theorem dX3_putCopy_31 : decode cX3_putCopy 31 = .ok (.aload_n 0, 1) := by decide +kernel
theorem dX3_putCopy_32 : decode cX3_putCopy 32 = .ok (.getfield 41, 3) := by decide +kernel
theorem dX3_putCopy_35 : decode cX3_putCopy 35 = .ok (.iload_n 2, 1) := by decide +kernel
theorem dX3_putCopy_36 : decode cX3_putCopy 36 = .ok (.iconst 4, 1) := by decide +kernel
theorem dX3_putCopy_37 : decode cX3_putCopy 37 = .ok (.imul, 1) := by decide +kernel
theorem dX3_putCopy_38 : decode cX3_putCopy 38 = .ok (.iload_n 3, 1) := by decide +kernel
theorem dX3_putCopy_39 : decode cX3_putCopy 39 = .ok (.iadd, 1) := by decide +kernel
theorem dX3_putCopy_40 : decode cX3_putCopy 40 = .ok (.aload_n 0, 1) := by decide +kernel
theorem dX3_putCopy_41 : decode cX3_putCopy 41 = .ok (.getfield 26, 3) := by decide +kernel
theorem dX3_putCopy_44 : decode cX3_putCopy 44 = .ok (.iload_n 1, 1) := by decide +kernel
theorem dX3_putCopy_45 : decode cX3_putCopy 45 = .ok (.iconst 4, 1) := by decide +kernel
theorem dX3_putCopy_46 : decode cX3_putCopy 46 = .ok (.imul, 1) := by decide +kernel
theorem dX3_putCopy_47 : decode cX3_putCopy 47 = .ok (.iload_n 3, 1) := by decide +kernel
theorem dX3_putCopy_48 : decode cX3_putCopy 48 = .ok (.iadd, 1) := by decide +kernel
theorem dX3_putCopy_49 : decode cX3_putCopy 49 = .ok (.invokevirtual 54, 3) := by decide +kernel
theorem dX3_putCopy_52 : decode cX3_putCopy 52 = .ok (.invokevirtual 48, 3) := by decide +kernel
theorem dX3_putCopy_55 : decode cX3_putCopy 55 = .ok (.iinc 3 1, 3) := by decide +kernel
theorem dX3_putCopy_58 : decode cX3_putCopy 58 = .ok (.goto (-32), 3) := by decide +kernel
theorem dX3_putCopy_61 : decode cX3_putCopy 61 = .ok (.iload_n 2, 1) := by decide +kernel
theorem dX3_putCopy_62 : decode cX3_putCopy 62 = .ok (.ireturn, 1) := by decide +kernel
set_option maxRecDepth 20000 in
theorem ggX3_heldBy_X2_at : GoodIn wsX3_heldBy wsX2_at := goodIn_r _ [7, 8, 20] (by decide +kernel) (by decide +kernel)
set_option maxRecDepth 20000 in
theorem gX3_heldBy_X2_at : GoodIn wsX3_heldBy (wsV RX3 54 RX2 yX2_at wsX2_at) := goodIn_app (goodIn_of _ (by decide +kernel)) ggX3_heldBy_X2_at
theorem dX3_heldBy_0 : decode cX3_heldBy 0 = .ok (.iconst 0, 1) := by decide +kernel
theorem dX3_heldBy_1 : decode cX3_heldBy 1 = .ok (.istore_n 2, 1) := by decide +kernel
theorem dX3_heldBy_2 : decode cX3_heldBy 2 = .ok (.iload_n 2, 1) := by decide +kernel
theorem dX3_heldBy_3 : decode cX3_heldBy 3 = .ok (.aload_n 0, 1) := by decide +kernel
theorem dX3_heldBy_4 : decode cX3_heldBy 4 = .ok (.getfield 51, 3) := by decide +kernel
theorem dX3_heldBy_7 : decode cX3_heldBy 7 = .ok (.if_icmp .ge 23, 3) := by decide +kernel
theorem dX3_heldBy_10 : decode cX3_heldBy 10 = .ok (.aload_n 0, 1) := by decide +kernel
theorem dX3_heldBy_11 : decode cX3_heldBy 11 = .ok (.getfield 32, 3) := by decide +kernel
theorem dX3_heldBy_14 : decode cX3_heldBy 14 = .ok (.iload_n 2, 1) := by decide +kernel
theorem dX3_heldBy_15 : decode cX3_heldBy 15 = .ok (.invokevirtual 54, 3) := by decide +kernel
theorem dX3_heldBy_18 : decode cX3_heldBy 18 = .ok (.iload_n 1, 1) := by decide +kernel
theorem dX3_heldBy_19 : decode cX3_heldBy 19 = .ok (.if_icmp .ne 5, 3) := by decide +kernel
theorem dX3_heldBy_22 : decode cX3_heldBy 22 = .ok (.iload_n 2, 1) := by decide +kernel
theorem dX3_heldBy_23 : decode cX3_heldBy 23 = .ok (.ireturn, 1) := by decide +kernel
theorem dX3_heldBy_24 : decode cX3_heldBy 24 = .ok (.iinc 2 1, 3) := by decide +kernel
theorem dX3_heldBy_27 : decode cX3_heldBy 27 = .ok (.goto (-25), 3) := by decide +kernel
theorem dX3_heldBy_30 : decode cX3_heldBy 30 = .ok (.iconst (-1), 1) := by decide +kernel
theorem dX3_heldBy_31 : decode cX3_heldBy 31 = .ok (.ireturn, 1) := by decide +kernel
set_option maxRecDepth 20000 in
theorem ggX3_place_X2_at : GoodIn wsX3_place wsX2_at := goodIn_r _ [7, 8, 20] (by decide +kernel) (by decide +kernel)
set_option maxRecDepth 20000 in
theorem gX3_place_X2_at : GoodIn wsX3_place (wsV RX3 54 RX2 yX2_at wsX2_at) := goodIn_app (goodIn_of _ (by decide +kernel)) ggX3_place_X2_at
theorem dX3_place_0 : decode cX3_place 0 = .ok (.aload_n 0, 1) := by decide +kernel
theorem dX3_place_1 : decode cX3_place 1 = .ok (.getfield 32, 3) := by decide +kernel
theorem dX3_place_4 : decode cX3_place 4 = .ok (.iload_n 1, 1) := by decide +kernel
theorem dX3_place_5 : decode cX3_place 5 = .ok (.invokevirtual 54, 3) := by decide +kernel
theorem dX3_place_8 : decode cX3_place 8 = .ok (.iconst (-1), 1) := by decide +kernel
theorem dX3_place_9 : decode cX3_place 9 = .ok (.if_icmp .eq 5, 3) := by decide +kernel
theorem dX3_place_12 : decode cX3_place 12 = .ok (.iconst 1, 1) := by decide +kernel
theorem dX3_place_13 : decode cX3_place 13 = .ok (.ireturn, 1) := by decide +kernel
theorem dX3_place_14 : decode cX3_place 14 = .ok (.aload_n 0, 1) := by decide +kernel
theorem dX3_place_15 : decode cX3_place 15 = .ok (.getfield 35, 3) := by decide +kernel
theorem dX3_place_18 : decode cX3_place 18 = .ok (.iload_n 1, 1) := by decide +kernel
theorem dX3_place_19 : decode cX3_place 19 = .ok (.invokevirtual 54, 3) := by decide +kernel
theorem dX3_place_22 : decode cX3_place 22 = .ok (.iconst (-1), 1) := by decide +kernel
theorem dX3_place_23 : decode cX3_place 23 = .ok (.if_icmp .eq 7, 3) := by decide +kernel
theorem dX3_place_26 : decode cX3_place 26 = .ok (.iconst 2, 1) := by decide +kernel
theorem dX3_place_27 : decode cX3_place 27 = .ok (.goto 4, 3) := by decide +kernel
theorem dX3_place_30 : decode cX3_place 30 = .ok (.iconst 0, 1) := by decide +kernel
theorem dX3_place_31 : decode cX3_place 31 = .ok (.ireturn, 1) := by decide +kernel
set_option maxRecDepth 20000 in
theorem ggX3_count_X2_at : GoodIn wsX3_count wsX2_at := goodIn_r _ [6, 7, 19] (by decide +kernel) (by decide +kernel)
set_option maxRecDepth 20000 in
theorem gX3_count_X2_at : GoodIn wsX3_count (wsV RX3 54 RX2 yX2_at wsX2_at) := goodIn_app (goodIn_of _ (by decide +kernel)) ggX3_count_X2_at
theorem dX3_count_0 : decode cX3_count 0 = .ok (.aload_n 0, 1) := by decide +kernel
theorem dX3_count_1 : decode cX3_count 1 = .ok (.getfield 41, 3) := by decide +kernel
theorem dX3_count_4 : decode cX3_count 4 = .ok (.iload_n 1, 1) := by decide +kernel
theorem dX3_count_5 : decode cX3_count 5 = .ok (.iconst 4, 1) := by decide +kernel
theorem dX3_count_6 : decode cX3_count 6 = .ok (.imul, 1) := by decide +kernel
theorem dX3_count_7 : decode cX3_count 7 = .ok (.iload_n 2, 1) := by decide +kernel
theorem dX3_count_8 : decode cX3_count 8 = .ok (.iadd, 1) := by decide +kernel
theorem dX3_count_9 : decode cX3_count 9 = .ok (.invokevirtual 54, 3) := by decide +kernel
theorem dX3_count_12 : decode cX3_count 12 = .ok (.ireturn, 1) := by decide +kernel
set_option maxRecDepth 20000 in
theorem ggX3_lack_X2_at : GoodIn wsX3_lack wsX2_at := goodIn_r _ [8, 9, 21] (by decide +kernel) (by decide +kernel)
set_option maxRecDepth 20000 in
theorem gX3_lack_X2_at : GoodIn wsX3_lack (wsV RX3 54 RX2 yX2_at wsX2_at) := goodIn_app (goodIn_of _ (by decide +kernel)) ggX3_lack_X2_at
theorem dX3_lack_0 : decode cX3_lack 0 = .ok (.aload_n 0, 1) := by decide +kernel
theorem dX3_lack_1 : decode cX3_lack 1 = .ok (.getfield 26, 3) := by decide +kernel
theorem dX3_lack_4 : decode cX3_lack 4 = .ok (.aload_n 0, 1) := by decide +kernel
theorem dX3_lack_5 : decode cX3_lack 5 = .ok (.getfield 29, 3) := by decide +kernel
theorem dX3_lack_8 : decode cX3_lack 8 = .ok (.iload_n 1, 1) := by decide +kernel
theorem dX3_lack_9 : decode cX3_lack 9 = .ok (.invokevirtual 54, 3) := by decide +kernel
theorem dX3_lack_12 : decode cX3_lack 12 = .ok (.iconst 4, 1) := by decide +kernel
theorem dX3_lack_13 : decode cX3_lack 13 = .ok (.imul, 1) := by decide +kernel
theorem dX3_lack_14 : decode cX3_lack 14 = .ok (.iload_n 2, 1) := by decide +kernel
theorem dX3_lack_15 : decode cX3_lack 15 = .ok (.iadd, 1) := by decide +kernel
theorem dX3_lack_16 : decode cX3_lack 16 = .ok (.invokevirtual 54, 3) := by decide +kernel
theorem dX3_lack_19 : decode cX3_lack 19 = .ok (.aload_n 0, 1) := by decide +kernel
theorem dX3_lack_20 : decode cX3_lack 20 = .ok (.getfield 41, 3) := by decide +kernel
theorem dX3_lack_23 : decode cX3_lack 23 = .ok (.iload_n 1, 1) := by decide +kernel
theorem dX3_lack_24 : decode cX3_lack 24 = .ok (.iconst 4, 1) := by decide +kernel
theorem dX3_lack_25 : decode cX3_lack 25 = .ok (.imul, 1) := by decide +kernel
theorem dX3_lack_26 : decode cX3_lack 26 = .ok (.iload_n 2, 1) := by decide +kernel
theorem dX3_lack_27 : decode cX3_lack 27 = .ok (.iadd, 1) := by decide +kernel
theorem dX3_lack_28 : decode cX3_lack 28 = .ok (.invokevirtual 54, 3) := by decide +kernel
theorem dX3_lack_31 : decode cX3_lack 31 = .ok (.isub, 1) := by decide +kernel
theorem dX3_lack_32 : decode cX3_lack 32 = .ok (.ireturn, 1) := by decide +kernel
set_option maxRecDepth 20000 in
theorem ggX3_change_X3_count : GoodIn wsX3_change wsX3_count := goodIn_r _ [6, 1, 7, 8, 9, 10, 11, 12, 17, 18, 19, 20, 21, 22, 23, 24, 25, 26, 27, 28] (by decide +kernel) (by decide +kernel)
set_option maxRecDepth 20000 in
theorem gX3_change_X3_count : GoodIn wsX3_change (wsV RX3 58 RX3 yX3_count wsX3_count) := goodIn_app (goodIn_of _ (by decide +kernel)) ggX3_change_X3_count
set_option maxRecDepth 20000 in
theorem ggX3_change_X2_put : GoodIn wsX3_change wsX2_put := goodIn_r _ [16, 12, 28] (by decide +kernel) (by decide +kernel)
set_option maxRecDepth 20000 in
theorem gX3_change_X2_put : GoodIn wsX3_change (wsV RX3 48 RX2 yX2_put wsX2_put) := goodIn_app (goodIn_of _ (by decide +kernel)) ggX3_change_X2_put
theorem dX3_change_0 : decode cX3_change 0 = .ok (.aload_n 0, 1) := by decide +kernel
theorem dX3_change_1 : decode cX3_change 1 = .ok (.getfield 41, 3) := by decide +kernel
theorem dX3_change_4 : decode cX3_change 4 = .ok (.iload_n 1, 1) := by decide +kernel
theorem dX3_change_5 : decode cX3_change 5 = .ok (.iconst 4, 1) := by decide +kernel
theorem dX3_change_6 : decode cX3_change 6 = .ok (.imul, 1) := by decide +kernel
theorem dX3_change_7 : decode cX3_change 7 = .ok (.iload_n 2, 1) := by decide +kernel
theorem dX3_change_8 : decode cX3_change 8 = .ok (.iadd, 1) := by decide +kernel
theorem dX3_change_9 : decode cX3_change 9 = .ok (.aload_n 0, 1) := by decide +kernel
theorem dX3_change_10 : decode cX3_change 10 = .ok (.iload_n 1, 1) := by decide +kernel
theorem dX3_change_11 : decode cX3_change 11 = .ok (.iload_n 2, 1) := by decide +kernel
theorem dX3_change_12 : decode cX3_change 12 = .ok (.invokevirtual 58, 3) := by decide +kernel
theorem dX3_change_15 : decode cX3_change 15 = .ok (.iload_n 3, 1) := by decide +kernel
theorem dX3_change_16 : decode cX3_change 16 = .ok (.iadd, 1) := by decide +kernel
theorem dX3_change_17 : decode cX3_change 17 = .ok (.invokevirtual 48, 3) := by decide +kernel
theorem dX3_change_20 : decode cX3_change 20 = .ok (.return_, 1) := by decide +kernel
set_option maxRecDepth 20000 in
theorem ggX3_suits_X2_at : GoodIn wsX3_suits wsX2_at := goodIn_r _ [8, 9, 21] (by decide +kernel) (by decide +kernel)
set_option maxRecDepth 20000 in
theorem gX3_suits_X2_at : GoodIn wsX3_suits (wsV RX3 54 RX2 yX2_at wsX2_at) := goodIn_app (goodIn_of _ (by decide +kernel)) ggX3_suits_X2_at
theorem dX3_suits_0 : decode cX3_suits 0 = .ok (.iload_n 2, 1) := by decide +kernel
theorem dX3_suits_1 : decode cX3_suits 1 = .ok (.aload_n 0, 1) := by decide +kernel
theorem dX3_suits_2 : decode cX3_suits 2 = .ok (.getfield 14, 3) := by decide +kernel
theorem dX3_suits_5 : decode cX3_suits 5 = .ok (.iload_n 1, 1) := by decide +kernel
theorem dX3_suits_6 : decode cX3_suits 6 = .ok (.invokevirtual 54, 3) := by decide +kernel
theorem dX3_suits_9 : decode cX3_suits 9 = .ok (.if_icmp .lt 31, 3) := by decide +kernel
theorem dX3_suits_12 : decode cX3_suits 12 = .ok (.iload_n 2, 1) := by decide +kernel
theorem dX3_suits_13 : decode cX3_suits 13 = .ok (.aload_n 0, 1) := by decide +kernel
theorem dX3_suits_14 : decode cX3_suits 14 = .ok (.getfield 20, 3) := by decide +kernel
theorem dX3_suits_17 : decode cX3_suits 17 = .ok (.iload_n 1, 1) := by decide +kernel
theorem dX3_suits_18 : decode cX3_suits 18 = .ok (.invokevirtual 54, 3) := by decide +kernel
theorem dX3_suits_21 : decode cX3_suits 21 = .ok (.if_icmp .gt 19, 3) := by decide +kernel
theorem dX3_suits_24 : decode cX3_suits 24 = .ok (.iload_n 3, 1) := by decide +kernel
theorem dX3_suits_25 : decode cX3_suits 25 = .ok (.aload_n 0, 1) := by decide +kernel
theorem dX3_suits_26 : decode cX3_suits 26 = .ok (.getfield 23, 3) := by decide +kernel
theorem dX3_suits_29 : decode cX3_suits 29 = .ok (.iload_n 1, 1) := by decide +kernel
theorem dX3_suits_30 : decode cX3_suits 30 = .ok (.invokevirtual 54, 3) := by decide +kernel
theorem dX3_suits_33 : decode cX3_suits 33 = .ok (.if_icmp .lt 7, 3) := by decide +kernel
theorem dX3_suits_36 : decode cX3_suits 36 = .ok (.iconst 1, 1) := by decide +kernel
theorem dX3_suits_37 : decode cX3_suits 37 = .ok (.goto 4, 3) := by decide +kernel
theorem dX3_suits_40 : decode cX3_suits 40 = .ok (.iconst 0, 1) := by decide +kernel
theorem dX3_suits_41 : decode cX3_suits 41 = .ok (.ireturn, 1) := by decide +kernel
set_option maxRecDepth 20000 in
theorem ggX3_titleInPlace_X4_contains : GoodIn wsX3_titleInPlace wsX4_contains := goodIn_r _ [4] (by decide +kernel) (by decide +kernel)
set_option maxRecDepth 20000 in
theorem gX3_titleInPlace_X4_contains_n62 : GoodIn wsX3_titleInPlace (wsX4_contains) := ggX3_titleInPlace_X4_contains
set_option maxRecDepth 20000 in
theorem ggX3_titleInPlace_X3_countAhead : GoodIn wsX3_titleInPlace wsX3_countAhead := goodIn_r _ [9, 1, 10, 11, 12, 13, 14, 15, 16, 2, 3, 4, 17, 18, 19, 20, 21, 22, 23, 24, 25, 26, 27, 28] (by decide +kernel) (by decide +kernel)
set_option maxRecDepth 20000 in
theorem gX3_titleInPlace_X3_countAhead : GoodIn wsX3_titleInPlace (wsV RX3 66 RX3 yX3_countAhead wsX3_countAhead) := goodIn_app (goodIn_of _ (by decide +kernel)) ggX3_titleInPlace_X3_countAhead
theorem dX3_titleInPlace_0 : decode cX3_titleInPlace 0 = .ok (.iconst 0, 1) := by decide +kernel
theorem dX3_titleInPlace_1 : decode cX3_titleInPlace 1 = .ok (.istore_n 3, 1) := by decide +kernel
theorem dX3_titleInPlace_2 : decode cX3_titleInPlace 2 = .ok (.iload_n 3, 1) := by decide +kernel
theorem dX3_titleInPlace_3 : decode cX3_titleInPlace 3 = .ok (.aload_n 0, 1) := by decide +kernel
theorem dX3_titleInPlace_4 : decode cX3_titleInPlace 4 = .ok (.getfield 44, 3) := by decide +kernel
theorem dX3_titleInPlace_7 : decode cX3_titleInPlace 7 = .ok (.if_icmp .ge 29, 3) := by decide +kernel
theorem dX3_titleInPlace_10 : decode cX3_titleInPlace 10 = .ok (.iload_n 1, 1) := by decide +kernel
theorem dX3_titleInPlace_11 : decode cX3_titleInPlace 11 = .ok (.iload_n 3, 1) := by decide +kernel
theorem dX3_titleInPlace_12 : decode cX3_titleInPlace 12 = .ok (.invokestatic 62, 3) := by decide +kernel
theorem dX3_titleInPlace_15 : decode cX3_titleInPlace 15 = .ok (.ifCond .eq 15, 3) := by decide +kernel
theorem dX3_titleInPlace_18 : decode cX3_titleInPlace 18 = .ok (.aload_n 0, 1) := by decide +kernel
theorem dX3_titleInPlace_19 : decode cX3_titleInPlace 19 = .ok (.iload_n 1, 1) := by decide +kernel
theorem dX3_titleInPlace_20 : decode cX3_titleInPlace 20 = .ok (.iload_n 3, 1) := by decide +kernel
theorem dX3_titleInPlace_21 : decode cX3_titleInPlace 21 = .ok (.invokevirtual 66, 3) := by decide +kernel
theorem dX3_titleInPlace_24 : decode cX3_titleInPlace 24 = .ok (.iload_n 2, 1) := by decide +kernel
theorem dX3_titleInPlace_25 : decode cX3_titleInPlace 25 = .ok (.if_icmp .ne 5, 3) := by decide +kernel
theorem dX3_titleInPlace_28 : decode cX3_titleInPlace 28 = .ok (.iload_n 3, 1) := by decide +kernel
theorem dX3_titleInPlace_29 : decode cX3_titleInPlace 29 = .ok (.ireturn, 1) := by decide +kernel
theorem dX3_titleInPlace_30 : decode cX3_titleInPlace 30 = .ok (.iinc 3 1, 3) := by decide +kernel
theorem dX3_titleInPlace_33 : decode cX3_titleInPlace 33 = .ok (.goto (-31), 3) := by decide +kernel
theorem dX3_titleInPlace_36 : decode cX3_titleInPlace 36 = .ok (.iconst (-1), 1) := by decide +kernel
theorem dX3_titleInPlace_37 : decode cX3_titleInPlace 37 = .ok (.ireturn, 1) := by decide +kernel
set_option maxRecDepth 20000 in
theorem ggX3_countAhead_X2_at : GoodIn wsX3_countAhead wsX2_at := goodIn_r _ [7, 8, 23] (by decide +kernel) (by decide +kernel)
