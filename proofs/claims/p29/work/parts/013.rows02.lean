set_option maxRecDepth 20000 in
theorem gX3_countAhead_X2_at : GoodIn wsX3_countAhead (wsV RX3 54 RX2 yX2_at wsX2_at) := goodIn_app (goodIn_of _ (by decide +kernel)) ggX3_countAhead_X2_at
set_option maxRecDepth 20000 in
theorem ggX3_countAhead_X4_contains : GoodIn wsX3_countAhead wsX4_contains := goodIn_r _ [11] (by decide +kernel) (by decide +kernel)
set_option maxRecDepth 20000 in
theorem gX3_countAhead_X4_contains_n62 : GoodIn wsX3_countAhead (wsX4_contains) := ggX3_countAhead_X4_contains
theorem dX3_countAhead_0 : decode cX3_countAhead 0 = .ok (.iconst 0, 1) := by decide +kernel
theorem dX3_countAhead_1 : decode cX3_countAhead 1 = .ok (.istore_n 3, 1) := by decide +kernel
theorem dX3_countAhead_2 : decode cX3_countAhead 2 = .ok (.iconst 0, 1) := by decide +kernel
theorem dX3_countAhead_3 : decode cX3_countAhead 3 = .ok (.istore 4, 2) := by decide +kernel
theorem dX3_countAhead_5 : decode cX3_countAhead 5 = .ok (.iload 4, 2) := by decide +kernel
theorem dX3_countAhead_7 : decode cX3_countAhead 7 = .ok (.aload_n 0, 1) := by decide +kernel
theorem dX3_countAhead_8 : decode cX3_countAhead 8 = .ok (.getfield 44, 3) := by decide +kernel
theorem dX3_countAhead_11 : decode cX3_countAhead 11 = .ok (.if_icmp .ge 57, 3) := by decide +kernel
theorem dX3_countAhead_14 : decode cX3_countAhead 14 = .ok (.aload_n 0, 1) := by decide +kernel
theorem dX3_countAhead_15 : decode cX3_countAhead 15 = .ok (.getfield 23, 3) := by decide +kernel
theorem dX3_countAhead_18 : decode cX3_countAhead 18 = .ok (.iload 4, 2) := by decide +kernel
theorem dX3_countAhead_20 : decode cX3_countAhead 20 = .ok (.invokevirtual 54, 3) := by decide +kernel
theorem dX3_countAhead_23 : decode cX3_countAhead 23 = .ok (.aload_n 0, 1) := by decide +kernel
theorem dX3_countAhead_24 : decode cX3_countAhead 24 = .ok (.getfield 23, 3) := by decide +kernel
theorem dX3_countAhead_27 : decode cX3_countAhead 27 = .ok (.iload_n 2, 1) := by decide +kernel
theorem dX3_countAhead_28 : decode cX3_countAhead 28 = .ok (.invokevirtual 54, 3) := by decide +kernel
theorem dX3_countAhead_31 : decode cX3_countAhead 31 = .ok (.isub, 1) := by decide +kernel
theorem dX3_countAhead_32 : decode cX3_countAhead 32 = .ok (.istore 5, 2) := by decide +kernel
theorem dX3_countAhead_34 : decode cX3_countAhead 34 = .ok (.iload_n 1, 1) := by decide +kernel
theorem dX3_countAhead_35 : decode cX3_countAhead 35 = .ok (.iload 4, 2) := by decide +kernel
theorem dX3_countAhead_37 : decode cX3_countAhead 37 = .ok (.invokestatic 62, 3) := by decide +kernel
theorem dX3_countAhead_40 : decode cX3_countAhead 40 = .ok (.ifCond .eq 22, 3) := by decide +kernel
theorem dX3_countAhead_43 : decode cX3_countAhead 43 = .ok (.iload 5, 2) := by decide +kernel
theorem dX3_countAhead_45 : decode cX3_countAhead 45 = .ok (.ifCond .gt 14, 3) := by decide +kernel
theorem dX3_countAhead_48 : decode cX3_countAhead 48 = .ok (.iload 5, 2) := by decide +kernel
theorem dX3_countAhead_50 : decode cX3_countAhead 50 = .ok (.ifCond .ne 12, 3) := by decide +kernel
theorem dX3_countAhead_53 : decode cX3_countAhead 53 = .ok (.iload 4, 2) := by decide +kernel
theorem dX3_countAhead_55 : decode cX3_countAhead 55 = .ok (.iload_n 2, 1) := by decide +kernel
theorem dX3_countAhead_56 : decode cX3_countAhead 56 = .ok (.if_icmp .ge 6, 3) := by decide +kernel
theorem dX3_countAhead_59 : decode cX3_countAhead 59 = .ok (.iinc 3 1, 3) := by decide +kernel
theorem dX3_countAhead_62 : decode cX3_countAhead 62 = .ok (.iinc 4 1, 3) := by decide +kernel
theorem dX3_countAhead_65 : decode cX3_countAhead 65 = .ok (.goto (-60), 3) := by decide +kernel
theorem dX3_countAhead_68 : decode cX3_countAhead 68 = .ok (.iload_n 3, 1) := by decide +kernel
theorem dX3_countAhead_69 : decode cX3_countAhead 69 = .ok (.ireturn, 1) := by decide +kernel
set_option maxRecDepth 20000 in
theorem ggX3_bestCopy_X2_at : GoodIn wsX3_bestCopy wsX2_at := goodIn_r _ [7, 8, 56] (by decide +kernel) (by decide +kernel)
set_option maxRecDepth 20000 in
theorem gX3_bestCopy_X2_at : GoodIn wsX3_bestCopy (wsV RX3 54 RX2 yX2_at wsX2_at) := goodIn_app (goodIn_of _ (by decide +kernel)) ggX3_bestCopy_X2_at
set_option maxRecDepth 20000 in
theorem ggX3_bestCopy_X3_countLenders : GoodIn wsX3_bestCopy wsX3_countLenders := goodIn_r _ [13, 1, 14, 15, 16, 17, 18, 19, 20, 12, 21, 22, 23, 3, 4, 5, 6, 7, 8, 24, 25, 26, 27, 28, 2, 29, 30, 31, 32, 33, 34, 35, 36, 37, 38, 39, 40, 41, 42, 43, 44, 45, 46, 47, 48, 49, 50, 51, 52, 53, 54, 55, 56] (by decide +kernel) (by decide +kernel)
set_option maxRecDepth 20000 in
theorem gX3_bestCopy_X3_countLenders : GoodIn wsX3_bestCopy (wsV RX3 69 RX3 yX3_countLenders wsX3_countLenders) := goodIn_app (goodIn_of _ (by decide +kernel)) ggX3_bestCopy_X3_countLenders
theorem dX3_bestCopy_0 : decode cX3_bestCopy 0 = .ok (.iconst (-1), 1) := by decide +kernel
theorem dX3_bestCopy_1 : decode cX3_bestCopy 1 = .ok (.istore_n 2, 1) := by decide +kernel
theorem dX3_bestCopy_2 : decode cX3_bestCopy 2 = .ok (.bipush 16, 2) := by decide +kernel
theorem dX3_bestCopy_4 : decode cX3_bestCopy 4 = .ok (.istore_n 3, 1) := by decide +kernel
theorem dX3_bestCopy_5 : decode cX3_bestCopy 5 = .ok (.iconst 0, 1) := by decide +kernel
theorem dX3_bestCopy_6 : decode cX3_bestCopy 6 = .ok (.istore 4, 2) := by decide +kernel
theorem dX3_bestCopy_8 : decode cX3_bestCopy 8 = .ok (.iload 4, 2) := by decide +kernel
theorem dX3_bestCopy_10 : decode cX3_bestCopy 10 = .ok (.aload_n 0, 1) := by decide +kernel
theorem dX3_bestCopy_11 : decode cX3_bestCopy 11 = .ok (.getfield 51, 3) := by decide +kernel
theorem dX3_bestCopy_14 : decode cX3_bestCopy 14 = .ok (.if_icmp .ge 52, 3) := by decide +kernel
theorem dX3_bestCopy_17 : decode cX3_bestCopy 17 = .ok (.aload_n 0, 1) := by decide +kernel
theorem dX3_bestCopy_18 : decode cX3_bestCopy 18 = .ok (.getfield 29, 3) := by decide +kernel
theorem dX3_bestCopy_21 : decode cX3_bestCopy 21 = .ok (.iload 4, 2) := by decide +kernel
theorem dX3_bestCopy_23 : decode cX3_bestCopy 23 = .ok (.invokevirtual 54, 3) := by decide +kernel
theorem dX3_bestCopy_26 : decode cX3_bestCopy 26 = .ok (.iload_n 1, 1) := by decide +kernel
theorem dX3_bestCopy_27 : decode cX3_bestCopy 27 = .ok (.if_icmp .ne 12, 3) := by decide +kernel
theorem dX3_bestCopy_30 : decode cX3_bestCopy 30 = .ok (.aload_n 0, 1) := by decide +kernel
theorem dX3_bestCopy_31 : decode cX3_bestCopy 31 = .ok (.iload 4, 2) := by decide +kernel
theorem dX3_bestCopy_33 : decode cX3_bestCopy 33 = .ok (.invokevirtual 69, 3) := by decide +kernel
theorem dX3_bestCopy_36 : decode cX3_bestCopy 36 = .ok (.goto 4, 3) := by decide +kernel
theorem dX3_bestCopy_39 : decode cX3_bestCopy 39 = .ok (.iconst (-1), 1) := by decide +kernel
theorem dX3_bestCopy_40 : decode cX3_bestCopy 40 = .ok (.istore 5, 2) := by decide +kernel
theorem dX3_bestCopy_42 : decode cX3_bestCopy 42 = .ok (.iload 5, 2) := by decide +kernel
theorem dX3_bestCopy_44 : decode cX3_bestCopy 44 = .ok (.iconst (-1), 1) := by decide +kernel
theorem dX3_bestCopy_45 : decode cX3_bestCopy 45 = .ok (.if_icmp .eq 15, 3) := by decide +kernel
theorem dX3_bestCopy_48 : decode cX3_bestCopy 48 = .ok (.iload 5, 2) := by decide +kernel
theorem dX3_bestCopy_50 : decode cX3_bestCopy 50 = .ok (.iload_n 3, 1) := by decide +kernel
theorem dX3_bestCopy_51 : decode cX3_bestCopy 51 = .ok (.if_icmp .ge 9, 3) := by decide +kernel
theorem dX3_bestCopy_54 : decode cX3_bestCopy 54 = .ok (.iload 4, 2) := by decide +kernel
theorem dX3_bestCopy_56 : decode cX3_bestCopy 56 = .ok (.istore_n 2, 1) := by decide +kernel
theorem dX3_bestCopy_57 : decode cX3_bestCopy 57 = .ok (.iload 5, 2) := by decide +kernel
theorem dX3_bestCopy_59 : decode cX3_bestCopy 59 = .ok (.istore_n 3, 1) := by decide +kernel
theorem dX3_bestCopy_60 : decode cX3_bestCopy 60 = .ok (.iinc 4 1, 3) := by decide +kernel
theorem dX3_bestCopy_63 : decode cX3_bestCopy 63 = .ok (.goto (-55), 3) := by decide +kernel
theorem dX3_bestCopy_66 : decode cX3_bestCopy 66 = .ok (.iload_n 2, 1) := by decide +kernel
theorem dX3_bestCopy_67 : decode cX3_bestCopy 67 = .ok (.ireturn, 1) := by decide +kernel
set_option maxRecDepth 20000 in
theorem ggX3_countLenders_X3_place : GoodIn wsX3_countLenders wsX3_place := goodIn_r _ [10, 11, 12, 13, 14, 15, 16, 17, 18, 41, 42, 43, 44, 45, 46, 47, 48, 49, 50, 51, 52] (by decide +kernel) (by decide +kernel)
set_option maxRecDepth 20000 in
theorem gX3_countLenders_X3_place : GoodIn wsX3_countLenders (wsV RX3 72 RX3 yX3_place wsX3_place) := goodIn_app (goodIn_of _ (by decide +kernel)) ggX3_countLenders_X3_place
set_option maxRecDepth 20000 in
theorem ggX3_countLenders_X3_lack : GoodIn wsX3_countLenders wsX3_lack := goodIn_r _ [22, 23, 24, 25, 13, 14, 15, 16, 17, 18, 41, 42, 43, 44, 45, 46, 47, 48, 49, 50, 51, 52] (by decide +kernel) (by decide +kernel)
set_option maxRecDepth 20000 in
theorem gX3_countLenders_X3_lack : GoodIn wsX3_countLenders (wsV RX3 75 RX3 yX3_lack wsX3_lack) := goodIn_app (goodIn_of _ (by decide +kernel)) ggX3_countLenders_X3_lack
set_option maxRecDepth 20000 in
theorem ggX3_countLenders_X3_mayLend : GoodIn wsX3_countLenders wsX3_mayLend := goodIn_r _ [29, 24, 11, 12, 13, 14, 15, 16, 17, 18, 41, 42, 43, 44, 45, 46, 47, 48, 49, 50, 51, 52] (by decide +kernel) (by decide +kernel)
set_option maxRecDepth 20000 in
theorem gX3_countLenders_X3_mayLend : GoodIn wsX3_countLenders (wsV RX3 78 RX3 yX3_mayLend wsX3_mayLend) := goodIn_app (goodIn_of _ (by decide +kernel)) ggX3_countLenders_X3_mayLend
set_option maxRecDepth 20000 in
theorem ggX3_countLenders_X3_count : GoodIn wsX3_countLenders wsX3_count := goodIn_r _ [33, 25, 13, 14, 15, 16, 17, 18, 41, 42, 43, 44, 45, 46, 47, 48, 49, 50, 51, 52] (by decide +kernel) (by decide +kernel)
set_option maxRecDepth 20000 in
theorem gX3_countLenders_X3_count : GoodIn wsX3_countLenders (wsV RX3 58 RX3 yX3_count wsX3_count) := goodIn_app (goodIn_of _ (by decide +kernel)) ggX3_countLenders_X3_count
set_option maxRecDepth 20000 in
theorem ggX3_countLenders_J6_bitCount_0f7a4 : GoodIn wsX3_countLenders wsJ6_bitCount_0f7a4 := goodIn_r _ [37, 38, 39, 40] (by decide +kernel) (by decide +kernel)
set_option maxRecDepth 20000 in
theorem gX3_countLenders_J6_bitCount_0f7a4 : GoodIn wsX3_countLenders (va_wsS RX3 86 yJ6_bitCount_0f7a4 wsJ6_bitCount_0f7a4) := goodIn_app (goodIn_of _ (by decide +kernel)) ggX3_countLenders_J6_bitCount_0f7a4
theorem dX3_countLenders_0 : decode cX3_countLenders 0 = .ok (.aload_n 0, 1) := by decide +kernel
theorem dX3_countLenders_1 : decode cX3_countLenders 1 = .ok (.iload_n 1, 1) := by decide +kernel
theorem dX3_countLenders_2 : decode cX3_countLenders 2 = .ok (.invokevirtual 72, 3) := by decide +kernel
theorem dX3_countLenders_5 : decode cX3_countLenders 5 = .ok (.ifCond .eq 5, 3) := by decide +kernel
theorem dX3_countLenders_8 : decode cX3_countLenders 8 = .ok (.iconst (-1), 1) := by decide +kernel
theorem dX3_countLenders_9 : decode cX3_countLenders 9 = .ok (.ireturn, 1) := by decide +kernel
theorem dX3_countLenders_10 : decode cX3_countLenders 10 = .ok (.iconst 0, 1) := by decide +kernel
theorem dX3_countLenders_11 : decode cX3_countLenders 11 = .ok (.istore_n 2, 1) := by decide +kernel
theorem dX3_countLenders_12 : decode cX3_countLenders 12 = .ok (.iconst 0, 1) := by decide +kernel
theorem dX3_countLenders_13 : decode cX3_countLenders 13 = .ok (.istore_n 3, 1) := by decide +kernel
theorem dX3_countLenders_14 : decode cX3_countLenders 14 = .ok (.iload_n 3, 1) := by decide +kernel
theorem dX3_countLenders_15 : decode cX3_countLenders 15 = .ok (.iconst 4, 1) := by decide +kernel
theorem dX3_countLenders_16 : decode cX3_countLenders 16 = .ok (.if_icmp .ge 91, 3) := by decide +kernel
theorem dX3_countLenders_19 : decode cX3_countLenders 19 = .ok (.aload_n 0, 1) := by decide +kernel
theorem dX3_countLenders_20 : decode cX3_countLenders 20 = .ok (.iload_n 1, 1) := by decide +kernel
theorem dX3_countLenders_21 : decode cX3_countLenders 21 = .ok (.iload_n 3, 1) := by decide +kernel
theorem dX3_countLenders_22 : decode cX3_countLenders 22 = .ok (.invokevirtual 75, 3) := by decide +kernel
theorem dX3_countLenders_25 : decode cX3_countLenders 25 = .ok (.istore 4, 2) := by decide +kernel
theorem dX3_countLenders_27 : decode cX3_countLenders 27 = .ok (.iconst 0, 1) := by decide +kernel
theorem dX3_countLenders_28 : decode cX3_countLenders 28 = .ok (.istore 5, 2) := by decide +kernel
theorem dX3_countLenders_30 : decode cX3_countLenders 30 = .ok (.iload 5, 2) := by decide +kernel
theorem dX3_countLenders_32 : decode cX3_countLenders 32 = .ok (.aload_n 0, 1) := by decide +kernel
theorem dX3_countLenders_33 : decode cX3_countLenders 33 = .ok (.getfield 51, 3) := by decide +kernel
theorem dX3_countLenders_36 : decode cX3_countLenders 36 = .ok (.if_icmp .ge 58, 3) := by decide +kernel
theorem dX3_countLenders_39 : decode cX3_countLenders 39 = .ok (.iload 4, 2) := by decide +kernel
theorem dX3_countLenders_41 : decode cX3_countLenders 41 = .ok (.ifCond .le 53, 3) := by decide +kernel
theorem dX3_countLenders_44 : decode cX3_countLenders 44 = .ok (.aload_n 0, 1) := by decide +kernel
theorem dX3_countLenders_45 : decode cX3_countLenders 45 = .ok (.iload 5, 2) := by decide +kernel
theorem dX3_countLenders_47 : decode cX3_countLenders 47 = .ok (.iload_n 1, 1) := by decide +kernel
theorem dX3_countLenders_48 : decode cX3_countLenders 48 = .ok (.invokevirtual 78, 3) := by decide +kernel
theorem dX3_countLenders_51 : decode cX3_countLenders 51 = .ok (.ifCond .eq 37, 3) := by decide +kernel
theorem dX3_countLenders_54 : decode cX3_countLenders 54 = .ok (.aload_n 0, 1) := by decide +kernel
theorem dX3_countLenders_55 : decode cX3_countLenders 55 = .ok (.iload 5, 2) := by decide +kernel
theorem dX3_countLenders_57 : decode cX3_countLenders 57 = .ok (.iload_n 3, 1) := by decide +kernel
theorem dX3_countLenders_58 : decode cX3_countLenders 58 = .ok (.invokevirtual 58, 3) := by decide +kernel
theorem dX3_countLenders_61 : decode cX3_countLenders 61 = .ok (.ifCond .le 27, 3) := by decide +kernel
theorem dX3_countLenders_64 : decode cX3_countLenders 64 = .ok (.iload_n 2, 1) := by decide +kernel
theorem dX3_countLenders_65 : decode cX3_countLenders 65 = .ok (.iconst 1, 1) := by decide +kernel
theorem dX3_countLenders_66 : decode cX3_countLenders 66 = .ok (.iload 5, 2) := by decide +kernel
theorem dX3_countLenders_68 : decode cX3_countLenders 68 = .ok (.ishl, 1) := by decide +kernel
theorem dX3_countLenders_69 : decode cX3_countLenders 69 = .ok (.ior, 1) := by decide +kernel
theorem dX3_countLenders_70 : decode cX3_countLenders 70 = .ok (.istore_n 2, 1) := by decide +kernel
theorem dX3_countLenders_71 : decode cX3_countLenders 71 = .ok (.iload 4, 2) := by decide +kernel
theorem dX3_countLenders_73 : decode cX3_countLenders 73 = .ok (.iload 4, 2) := by decide +kernel
theorem dX3_countLenders_75 : decode cX3_countLenders 75 = .ok (.aload_n 0, 1) := by decide +kernel
theorem dX3_countLenders_76 : decode cX3_countLenders 76 = .ok (.iload 5, 2) := by decide +kernel
theorem dX3_countLenders_78 : decode cX3_countLenders 78 = .ok (.iload_n 3, 1) := by decide +kernel
theorem dX3_countLenders_79 : decode cX3_countLenders 79 = .ok (.invokevirtual 58, 3) := by decide +kernel
theorem dX3_countLenders_82 : decode cX3_countLenders 82 = .ok (.invokestatic 81, 3) := by decide +kernel
theorem dX3_countLenders_85 : decode cX3_countLenders 85 = .ok (.isub, 1) := by decide +kernel
theorem dX3_countLenders_86 : decode cX3_countLenders 86 = .ok (.istore 4, 2) := by decide +kernel
theorem dX3_countLenders_88 : decode cX3_countLenders 88 = .ok (.iinc 5 1, 3) := by decide +kernel
theorem dX3_countLenders_91 : decode cX3_countLenders 91 = .ok (.goto (-61), 3) := by decide +kernel
theorem dX3_countLenders_94 : decode cX3_countLenders 94 = .ok (.iload 4, 2) := by decide +kernel
theorem dX3_countLenders_96 : decode cX3_countLenders 96 = .ok (.ifCond .le 5, 3) := by decide +kernel
theorem dX3_countLenders_99 : decode cX3_countLenders 99 = .ok (.iconst (-1), 1) := by decide +kernel
theorem dX3_countLenders_100 : decode cX3_countLenders 100 = .ok (.ireturn, 1) := by decide +kernel
theorem dX3_countLenders_101 : decode cX3_countLenders 101 = .ok (.iinc 3 1, 3) := by decide +kernel
theorem dX3_countLenders_104 : decode cX3_countLenders 104 = .ok (.goto (-90), 3) := by decide +kernel
theorem dX3_countLenders_107 : decode cX3_countLenders 107 = .ok (.iload_n 2, 1) := by decide +kernel
theorem dX3_countLenders_108 : decode cX3_countLenders 108 = .ok (.invokestatic 86, 3) := by decide +kernel
theorem dX3_countLenders_111 : decode cX3_countLenders 111 = .ok (.ireturn, 1) := by decide +kernel
set_option maxRecDepth 20000 in
theorem ggX3_mayLend_X2_at : GoodIn wsX3_mayLend wsX2_at := goodIn_r _ [8, 9, 21] (by decide +kernel) (by decide +kernel)
set_option maxRecDepth 20000 in
theorem gX3_mayLend_X2_at : GoodIn wsX3_mayLend (wsV RX3 54 RX2 yX2_at wsX2_at) := goodIn_app (goodIn_of _ (by decide +kernel)) ggX3_mayLend_X2_at
theorem dX3_mayLend_0 : decode cX3_mayLend 0 = .ok (.iload_n 1, 1) := by decide +kernel
theorem dX3_mayLend_1 : decode cX3_mayLend 1 = .ok (.iload_n 2, 1) := by decide +kernel
theorem dX3_mayLend_2 : decode cX3_mayLend 2 = .ok (.if_icmp .eq 62, 3) := by decide +kernel
theorem dX3_mayLend_5 : decode cX3_mayLend 5 = .ok (.aload_n 0, 1) := by decide +kernel
theorem dX3_mayLend_6 : decode cX3_mayLend 6 = .ok (.getfield 29, 3) := by decide +kernel
theorem dX3_mayLend_9 : decode cX3_mayLend 9 = .ok (.iload_n 1, 1) := by decide +kernel
theorem dX3_mayLend_10 : decode cX3_mayLend 10 = .ok (.invokevirtual 54, 3) := by decide +kernel
theorem dX3_mayLend_13 : decode cX3_mayLend 13 = .ok (.aload_n 0, 1) := by decide +kernel
theorem dX3_mayLend_14 : decode cX3_mayLend 14 = .ok (.getfield 29, 3) := by decide +kernel
theorem dX3_mayLend_17 : decode cX3_mayLend 17 = .ok (.iload_n 2, 1) := by decide +kernel
theorem dX3_mayLend_18 : decode cX3_mayLend 18 = .ok (.invokevirtual 54, 3) := by decide +kernel
theorem dX3_mayLend_21 : decode cX3_mayLend 21 = .ok (.if_icmp .ne 43, 3) := by decide +kernel
theorem dX3_mayLend_24 : decode cX3_mayLend 24 = .ok (.aload_n 0, 1) := by decide +kernel
theorem dX3_mayLend_25 : decode cX3_mayLend 25 = .ok (.getfield 32, 3) := by decide +kernel
theorem dX3_mayLend_28 : decode cX3_mayLend 28 = .ok (.iload_n 1, 1) := by decide +kernel
theorem dX3_mayLend_29 : decode cX3_mayLend 29 = .ok (.invokevirtual 54, 3) := by decide +kernel
theorem dX3_mayLend_32 : decode cX3_mayLend 32 = .ok (.iconst (-1), 1) := by decide +kernel
theorem dX3_mayLend_33 : decode cX3_mayLend 33 = .ok (.if_icmp .ne 31, 3) := by decide +kernel
theorem dX3_mayLend_36 : decode cX3_mayLend 36 = .ok (.aload_n 0, 1) := by decide +kernel
theorem dX3_mayLend_37 : decode cX3_mayLend 37 = .ok (.getfield 35, 3) := by decide +kernel
theorem dX3_mayLend_40 : decode cX3_mayLend 40 = .ok (.iload_n 1, 1) := by decide +kernel
theorem dX3_mayLend_41 : decode cX3_mayLend 41 = .ok (.invokevirtual 54, 3) := by decide +kernel
theorem dX3_mayLend_44 : decode cX3_mayLend 44 = .ok (.iconst (-1), 1) := by decide +kernel
theorem dX3_mayLend_45 : decode cX3_mayLend 45 = .ok (.if_icmp .eq 15, 3) := by decide +kernel
theorem dX3_mayLend_48 : decode cX3_mayLend 48 = .ok (.aload_n 0, 1) := by decide +kernel
theorem dX3_mayLend_49 : decode cX3_mayLend 49 = .ok (.getfield 35, 3) := by decide +kernel
theorem dX3_mayLend_52 : decode cX3_mayLend 52 = .ok (.iload_n 1, 1) := by decide +kernel
theorem dX3_mayLend_53 : decode cX3_mayLend 53 = .ok (.invokevirtual 54, 3) := by decide +kernel
theorem dX3_mayLend_56 : decode cX3_mayLend 56 = .ok (.iload_n 2, 1) := by decide +kernel
theorem dX3_mayLend_57 : decode cX3_mayLend 57 = .ok (.if_icmp .ne 7, 3) := by decide +kernel
theorem dX3_mayLend_60 : decode cX3_mayLend 60 = .ok (.iconst 1, 1) := by decide +kernel
theorem dX3_mayLend_61 : decode cX3_mayLend 61 = .ok (.goto 4, 3) := by decide +kernel
theorem dX3_mayLend_64 : decode cX3_mayLend 64 = .ok (.iconst 0, 1) := by decide +kernel
theorem dX3_mayLend_65 : decode cX3_mayLend 65 = .ok (.ireturn, 1) := by decide +kernel
set_option maxRecDepth 20000 in
theorem ggX3_handOut_X3_lack : GoodIn wsX3_handOut wsX3_lack := goodIn_r _ [11, 12, 13, 14, 15, 16, 17, 18, 19, 20, 43, 44, 45, 46, 47, 48, 49, 50, 51, 52, 53, 54] (by decide +kernel) (by decide +kernel)
set_option maxRecDepth 20000 in
theorem gX3_handOut_X3_lack : GoodIn wsX3_handOut (wsV RX3 75 RX3 yX3_lack wsX3_lack) := goodIn_app (goodIn_of _ (by decide +kernel)) ggX3_handOut_X3_lack
set_option maxRecDepth 20000 in
theorem ggX3_handOut_X3_count : GoodIn wsX3_handOut wsX3_count := goodIn_r _ [24, 14, 15, 16, 17, 18, 19, 20, 43, 44, 45, 46, 47, 48, 49, 50, 51, 52, 53, 54] (by decide +kernel) (by decide +kernel)
set_option maxRecDepth 20000 in
theorem gX3_handOut_X3_count : GoodIn wsX3_handOut (wsV RX3 58 RX3 yX3_count wsX3_count) := goodIn_app (goodIn_of _ (by decide +kernel)) ggX3_handOut_X3_count
set_option maxRecDepth 20000 in
theorem ggX3_handOut_X3_mayLend : GoodIn wsX3_handOut wsX3_mayLend := goodIn_r _ [28, 13, 6, 29, 15, 16, 17, 18, 19, 20, 43, 44, 45, 46, 47, 48, 49, 50, 51, 52, 53, 54] (by decide +kernel) (by decide +kernel)
set_option maxRecDepth 20000 in
theorem gX3_handOut_X3_mayLend : GoodIn wsX3_handOut (wsV RX3 78 RX3 yX3_mayLend wsX3_mayLend) := goodIn_app (goodIn_of _ (by decide +kernel)) ggX3_handOut_X3_mayLend
set_option maxRecDepth 20000 in
theorem ggX3_handOut_X3_lend : GoodIn wsX3_handOut wsX3_lend := goodIn_r _ [33, 29, 34, 35, 36, 37, 18, 38, 20, 39, 40, 41, 10, 42, 14, 21, 22, 23, 24, 15, 16, 17, 19, 43, 44, 45, 46, 47, 48, 49, 50, 51, 52, 53, 54] (by decide +kernel) (by decide +kernel)
set_option maxRecDepth 20000 in
theorem gX3_handOut_X3_lend : GoodIn wsX3_handOut (wsV RX3 91 RX3 yX3_lend wsX3_lend) := goodIn_app (goodIn_of _ (by decide +kernel)) ggX3_handOut_X3_lend
set_option maxRecDepth 20000 in
theorem ggX3_handOut_X2_put : GoodIn wsX3_handOut wsX2_put := goodIn_r _ [38, 20, 54] (by decide +kernel) (by decide +kernel)
set_option maxRecDepth 20000 in
theorem gX3_handOut_X2_put : GoodIn wsX3_handOut (wsV RX3 48 RX2 yX2_put wsX2_put) := goodIn_app (goodIn_of _ (by decide +kernel)) ggX3_handOut_X2_put
theorem dX3_handOut_0 : decode cX3_handOut 0 = .ok (.iconst 0, 1) := by decide +kernel
theorem dX3_handOut_1 : decode cX3_handOut 1 = .ok (.istore_n 3, 1) := by decide +kernel
theorem dX3_handOut_2 : decode cX3_handOut 2 = .ok (.iload_n 3, 1) := by decide +kernel
theorem dX3_handOut_3 : decode cX3_handOut 3 = .ok (.iconst 4, 1) := by decide +kernel
theorem dX3_handOut_4 : decode cX3_handOut 4 = .ok (.if_icmp .ge 70, 3) := by decide +kernel
theorem dX3_handOut_7 : decode cX3_handOut 7 = .ok (.iconst 0, 1) := by decide +kernel
theorem dX3_handOut_8 : decode cX3_handOut 8 = .ok (.istore 4, 2) := by decide +kernel
theorem dX3_handOut_10 : decode cX3_handOut 10 = .ok (.iload 4, 2) := by decide +kernel
theorem dX3_handOut_12 : decode cX3_handOut 12 = .ok (.aload_n 0, 1) := by decide +kernel
theorem dX3_handOut_13 : decode cX3_handOut 13 = .ok (.getfield 51, 3) := by decide +kernel
theorem dX3_handOut_16 : decode cX3_handOut 16 = .ok (.if_icmp .ge 52, 3) := by decide +kernel
theorem dX3_handOut_19 : decode cX3_handOut 19 = .ok (.aload_n 0, 1) := by decide +kernel
theorem dX3_handOut_20 : decode cX3_handOut 20 = .ok (.iload_n 1, 1) := by decide +kernel
theorem dX3_handOut_21 : decode cX3_handOut 21 = .ok (.iload_n 3, 1) := by decide +kernel
theorem dX3_handOut_22 : decode cX3_handOut 22 = .ok (.invokevirtual 75, 3) := by decide +kernel
theorem dX3_handOut_25 : decode cX3_handOut 25 = .ok (.aload_n 0, 1) := by decide +kernel
theorem dX3_handOut_26 : decode cX3_handOut 26 = .ok (.iload 4, 2) := by decide +kernel
theorem dX3_handOut_28 : decode cX3_handOut 28 = .ok (.iload_n 3, 1) := by decide +kernel
theorem dX3_handOut_29 : decode cX3_handOut 29 = .ok (.invokevirtual 58, 3) := by decide +kernel
theorem dX3_handOut_32 : decode cX3_handOut 32 = .ok (.invokestatic 81, 3) := by decide +kernel
theorem dX3_handOut_35 : decode cX3_handOut 35 = .ok (.istore 5, 2) := by decide +kernel
theorem dX3_handOut_37 : decode cX3_handOut 37 = .ok (.aload_n 0, 1) := by decide +kernel
theorem dX3_handOut_38 : decode cX3_handOut 38 = .ok (.iload 4, 2) := by decide +kernel
theorem dX3_handOut_40 : decode cX3_handOut 40 = .ok (.iload_n 1, 1) := by decide +kernel
theorem dX3_handOut_41 : decode cX3_handOut 41 = .ok (.invokevirtual 78, 3) := by decide +kernel
theorem dX3_handOut_44 : decode cX3_handOut 44 = .ok (.ifCond .eq 18, 3) := by decide +kernel
theorem dX3_handOut_47 : decode cX3_handOut 47 = .ok (.iload 5, 2) := by decide +kernel
theorem dX3_handOut_49 : decode cX3_handOut 49 = .ok (.ifCond .le 13, 3) := by decide +kernel
theorem dX3_handOut_52 : decode cX3_handOut 52 = .ok (.aload_n 0, 1) := by decide +kernel
theorem dX3_handOut_53 : decode cX3_handOut 53 = .ok (.iload 4, 2) := by decide +kernel
theorem dX3_handOut_55 : decode cX3_handOut 55 = .ok (.iload_n 1, 1) := by decide +kernel
theorem dX3_handOut_56 : decode cX3_handOut 56 = .ok (.iload_n 3, 1) := by decide +kernel
theorem dX3_handOut_57 : decode cX3_handOut 57 = .ok (.iload 5, 2) := by decide +kernel
theorem dX3_handOut_59 : decode cX3_handOut 59 = .ok (.invokevirtual 91, 3) := by decide +kernel
theorem dX3_handOut_62 : decode cX3_handOut 62 = .ok (.iinc 4 1, 3) := by decide +kernel
theorem dX3_handOut_65 : decode cX3_handOut 65 = .ok (.goto (-55), 3) := by decide +kernel
theorem dX3_handOut_68 : decode cX3_handOut 68 = .ok (.iinc 3 1, 3) := by decide +kernel
theorem dX3_handOut_71 : decode cX3_handOut 71 = .ok (.goto (-69), 3) := by decide +kernel
theorem dX3_handOut_74 : decode cX3_handOut 74 = .ok (.aload_n 0, 1) := by decide +kernel
theorem dX3_handOut_75 : decode cX3_handOut 75 = .ok (.getfield 32, 3) := by decide +kernel
theorem dX3_handOut_78 : decode cX3_handOut 78 = .ok (.iload_n 1, 1) := by decide +kernel
theorem dX3_handOut_79 : decode cX3_handOut 79 = .ok (.iload_n 2, 1) := by decide +kernel
theorem dX3_handOut_80 : decode cX3_handOut 80 = .ok (.invokevirtual 48, 3) := by decide +kernel
theorem dX3_handOut_83 : decode cX3_handOut 83 = .ok (.return_, 1) := by decide +kernel
set_option maxRecDepth 20000 in
theorem ggX3_lend_X2_put : GoodIn wsX3_lend wsX2_put := goodIn_r _ [7, 8, 34] (by decide +kernel) (by decide +kernel)
set_option maxRecDepth 20000 in
theorem gX3_lend_X2_put : GoodIn wsX3_lend (wsV RX3 48 RX2 yX2_put wsX2_put) := goodIn_app (goodIn_of _ (by decide +kernel)) ggX3_lend_X2_put
set_option maxRecDepth 20000 in
theorem ggX3_lend_X3_change : GoodIn wsX3_lend wsX3_change := goodIn_r _ [13, 14, 15, 16, 17, 12, 18, 19, 20, 21, 6, 22, 8, 3, 4, 5, 7, 23, 24, 25, 26, 27, 28, 29, 30, 31, 32, 33, 34] (by decide +kernel) (by decide +kernel)
set_option maxRecDepth 20000 in
theorem gX3_lend_X3_change : GoodIn wsX3_lend (wsV RX3 95 RX3 yX3_change wsX3_change) := goodIn_app (goodIn_of _ (by decide +kernel)) ggX3_lend_X3_change
theorem dX3_lend_0 : decode cX3_lend 0 = .ok (.aload_n 0, 1) := by decide +kernel
theorem dX3_lend_1 : decode cX3_lend 1 = .ok (.getfield 35, 3) := by decide +kernel
theorem dX3_lend_4 : decode cX3_lend 4 = .ok (.iload_n 1, 1) := by decide +kernel
theorem dX3_lend_5 : decode cX3_lend 5 = .ok (.iload_n 2, 1) := by decide +kernel
theorem dX3_lend_6 : decode cX3_lend 6 = .ok (.invokevirtual 48, 3) := by decide +kernel
theorem dX3_lend_9 : decode cX3_lend 9 = .ok (.aload_n 0, 1) := by decide +kernel
theorem dX3_lend_10 : decode cX3_lend 10 = .ok (.getfield 38, 3) := by decide +kernel
theorem dX3_lend_13 : decode cX3_lend 13 = .ok (.iload_n 1, 1) := by decide +kernel
theorem dX3_lend_14 : decode cX3_lend 14 = .ok (.iconst 4, 1) := by decide +kernel
theorem dX3_lend_15 : decode cX3_lend 15 = .ok (.imul, 1) := by decide +kernel
theorem dX3_lend_16 : decode cX3_lend 16 = .ok (.iload_n 3, 1) := by decide +kernel
theorem dX3_lend_17 : decode cX3_lend 17 = .ok (.iadd, 1) := by decide +kernel
theorem dX3_lend_18 : decode cX3_lend 18 = .ok (.iload 4, 2) := by decide +kernel
theorem dX3_lend_20 : decode cX3_lend 20 = .ok (.invokevirtual 48, 3) := by decide +kernel
theorem dX3_lend_23 : decode cX3_lend 23 = .ok (.aload_n 0, 1) := by decide +kernel
theorem dX3_lend_24 : decode cX3_lend 24 = .ok (.iload_n 1, 1) := by decide +kernel
theorem dX3_lend_25 : decode cX3_lend 25 = .ok (.iload_n 3, 1) := by decide +kernel
theorem dX3_lend_26 : decode cX3_lend 26 = .ok (.iload 4, 2) := by decide +kernel
theorem dX3_lend_28 : decode cX3_lend 28 = .ok (.ineg, 1) := by decide +kernel
theorem dX3_lend_29 : decode cX3_lend 29 = .ok (.invokevirtual 95, 3) := by decide +kernel
theorem dX3_lend_32 : decode cX3_lend 32 = .ok (.aload_n 0, 1) := by decide +kernel
theorem dX3_lend_33 : decode cX3_lend 33 = .ok (.iload_n 2, 1) := by decide +kernel
theorem dX3_lend_34 : decode cX3_lend 34 = .ok (.iload_n 3, 1) := by decide +kernel
theorem dX3_lend_35 : decode cX3_lend 35 = .ok (.iload 4, 2) := by decide +kernel
theorem dX3_lend_37 : decode cX3_lend 37 = .ok (.invokevirtual 95, 3) := by decide +kernel
theorem dX3_lend_40 : decode cX3_lend 40 = .ok (.return_, 1) := by decide +kernel
set_option maxRecDepth 20000 in
theorem ggX3_takeBack_X3_change : GoodIn wsX3_takeBack wsX3_change := goodIn_r _ [8, 9, 10, 11, 12, 7, 13, 14, 15, 16, 17, 18, 19, 20, 21, 22, 23, 33, 34, 35, 36, 37, 38, 39, 40, 41, 42, 43, 44] (by decide +kernel) (by decide +kernel)
set_option maxRecDepth 20000 in
theorem gX3_takeBack_X3_change : GoodIn wsX3_takeBack (wsV RX3 95 RX3 yX3_change wsX3_change) := goodIn_app (goodIn_of _ (by decide +kernel)) ggX3_takeBack_X3_change
set_option maxRecDepth 20000 in
theorem ggX3_takeBack_X3_closeLoans : GoodIn wsX3_takeBack wsX3_closeLoans := goodIn_r _ [27, 1, 28, 2, 29, 30, 31, 32, 14, 15, 16, 17, 18, 19, 10, 11, 12, 7, 13, 9, 4, 5, 6, 8, 20, 21, 22, 23, 33, 34, 35, 36, 37, 38, 39, 40, 41, 42, 43, 44] (by decide +kernel) (by decide +kernel)
set_option maxRecDepth 20000 in
theorem gX3_takeBack_X3_closeLoans : GoodIn wsX3_takeBack (wsV RX3 99 RX3 yX3_closeLoans wsX3_closeLoans) := goodIn_app (goodIn_of _ (by decide +kernel)) ggX3_takeBack_X3_closeLoans
set_option maxRecDepth 20000 in
theorem ggX3_takeBack_X2_at : GoodIn wsX3_takeBack wsX2_at := goodIn_r _ [18, 19, 44] (by decide +kernel) (by decide +kernel)
set_option maxRecDepth 20000 in
theorem gX3_takeBack_X2_at : GoodIn wsX3_takeBack (wsV RX3 54 RX2 yX2_at wsX2_at) := goodIn_app (goodIn_of _ (by decide +kernel)) ggX3_takeBack_X2_at
set_option maxRecDepth 20000 in
theorem ggX3_takeBack_X2_put : GoodIn wsX3_takeBack wsX2_put := goodIn_r _ [23, 19, 44] (by decide +kernel) (by decide +kernel)
set_option maxRecDepth 20000 in
theorem gX3_takeBack_X2_put : GoodIn wsX3_takeBack (wsV RX3 48 RX2 yX2_put wsX2_put) := goodIn_app (goodIn_of _ (by decide +kernel)) ggX3_takeBack_X2_put
theorem dX3_takeBack_0 : decode cX3_takeBack 0 = .ok (.aload_n 0, 1) := by decide +kernel
theorem dX3_takeBack_1 : decode cX3_takeBack 1 = .ok (.iload_n 1, 1) := by decide +kernel
theorem dX3_takeBack_2 : decode cX3_takeBack 2 = .ok (.iload_n 2, 1) := by decide +kernel
theorem dX3_takeBack_3 : decode cX3_takeBack 3 = .ok (.iload_n 3, 1) := by decide +kernel
theorem dX3_takeBack_4 : decode cX3_takeBack 4 = .ok (.ineg, 1) := by decide +kernel
theorem dX3_takeBack_5 : decode cX3_takeBack 5 = .ok (.invokevirtual 95, 3) := by decide +kernel
theorem dX3_takeBack_8 : decode cX3_takeBack 8 = .ok (.aload_n 0, 1) := by decide +kernel
theorem dX3_takeBack_9 : decode cX3_takeBack 9 = .ok (.iload_n 1, 1) := by decide +kernel
theorem dX3_takeBack_10 : decode cX3_takeBack 10 = .ok (.invokevirtual 99, 3) := by decide +kernel
theorem dX3_takeBack_13 : decode cX3_takeBack 13 = .ok (.istore 4, 2) := by decide +kernel
theorem dX3_takeBack_15 : decode cX3_takeBack 15 = .ok (.iconst 0, 1) := by decide +kernel
theorem dX3_takeBack_16 : decode cX3_takeBack 16 = .ok (.istore 5, 2) := by decide +kernel
theorem dX3_takeBack_18 : decode cX3_takeBack 18 = .ok (.iload 5, 2) := by decide +kernel
theorem dX3_takeBack_20 : decode cX3_takeBack 20 = .ok (.aload_n 0, 1) := by decide +kernel
theorem dX3_takeBack_21 : decode cX3_takeBack 21 = .ok (.getfield 51, 3) := by decide +kernel
theorem dX3_takeBack_24 : decode cX3_takeBack 24 = .ok (.if_icmp .ge 32, 3) := by decide +kernel
theorem dX3_takeBack_27 : decode cX3_takeBack 27 = .ok (.aload_n 0, 1) := by decide +kernel
theorem dX3_takeBack_28 : decode cX3_takeBack 28 = .ok (.getfield 35, 3) := by decide +kernel
theorem dX3_takeBack_31 : decode cX3_takeBack 31 = .ok (.iload 5, 2) := by decide +kernel
theorem dX3_takeBack_33 : decode cX3_takeBack 33 = .ok (.invokevirtual 54, 3) := by decide +kernel
theorem dX3_takeBack_36 : decode cX3_takeBack 36 = .ok (.iload_n 1, 1) := by decide +kernel
theorem dX3_takeBack_37 : decode cX3_takeBack 37 = .ok (.if_icmp .ne 13, 3) := by decide +kernel
theorem dX3_takeBack_40 : decode cX3_takeBack 40 = .ok (.aload_n 0, 1) := by decide +kernel
theorem dX3_takeBack_41 : decode cX3_takeBack 41 = .ok (.getfield 35, 3) := by decide +kernel
theorem dX3_takeBack_44 : decode cX3_takeBack 44 = .ok (.iload 5, 2) := by decide +kernel
theorem dX3_takeBack_46 : decode cX3_takeBack 46 = .ok (.iconst (-1), 1) := by decide +kernel
theorem dX3_takeBack_47 : decode cX3_takeBack 47 = .ok (.invokevirtual 48, 3) := by decide +kernel
theorem dX3_takeBack_50 : decode cX3_takeBack 50 = .ok (.iinc 5 1, 3) := by decide +kernel
theorem dX3_takeBack_53 : decode cX3_takeBack 53 = .ok (.goto (-35), 3) := by decide +kernel
theorem dX3_takeBack_56 : decode cX3_takeBack 56 = .ok (.aload_n 0, 1) := by decide +kernel
theorem dX3_takeBack_57 : decode cX3_takeBack 57 = .ok (.getfield 32, 3) := by decide +kernel
theorem dX3_takeBack_60 : decode cX3_takeBack 60 = .ok (.iload_n 1, 1) := by decide +kernel
theorem dX3_takeBack_61 : decode cX3_takeBack 61 = .ok (.iconst (-1), 1) := by decide +kernel
theorem dX3_takeBack_62 : decode cX3_takeBack 62 = .ok (.invokevirtual 48, 3) := by decide +kernel
theorem dX3_takeBack_65 : decode cX3_takeBack 65 = .ok (.iload 4, 2) := by decide +kernel
theorem dX3_takeBack_67 : decode cX3_takeBack 67 = .ok (.ireturn, 1) := by decide +kernel
set_option maxRecDepth 20000 in
theorem ggX3_closeLoans_X2_at : GoodIn wsX3_closeLoans wsX2_at := goodIn_r _ [12, 13, 39] (by decide +kernel) (by decide +kernel)
set_option maxRecDepth 20000 in
theorem gX3_closeLoans_X2_at : GoodIn wsX3_closeLoans (wsV RX3 54 RX2 yX2_at wsX2_at) := goodIn_app (goodIn_of _ (by decide +kernel)) ggX3_closeLoans_X2_at
set_option maxRecDepth 20000 in
theorem ggX3_closeLoans_X3_count : GoodIn wsX3_closeLoans wsX3_count := goodIn_r _ [18, 19, 8, 9, 10, 11, 12, 13, 28, 29, 30, 31, 32, 33, 34, 35, 36, 37, 38, 39] (by decide +kernel) (by decide +kernel)
set_option maxRecDepth 20000 in
theorem gX3_closeLoans_X3_count : GoodIn wsX3_closeLoans (wsV RX3 58 RX3 yX3_count wsX3_count) := goodIn_app (goodIn_of _ (by decide +kernel)) ggX3_closeLoans_X3_count
set_option maxRecDepth 20000 in
theorem ggX3_closeLoans_X3_change : GoodIn wsX3_closeLoans wsX3_change := goodIn_r _ [23, 19, 14, 15, 16, 17, 18, 8, 9, 10, 11, 12, 13, 24, 25, 26, 27, 28, 29, 30, 31, 32, 33, 34, 35, 36, 37, 38, 39] (by decide +kernel) (by decide +kernel)
set_option maxRecDepth 20000 in
theorem gX3_closeLoans_X3_change : GoodIn wsX3_closeLoans (wsV RX3 95 RX3 yX3_change wsX3_change) := goodIn_app (goodIn_of _ (by decide +kernel)) ggX3_closeLoans_X3_change
set_option maxRecDepth 20000 in
theorem ggX3_closeLoans_X2_put : GoodIn wsX3_closeLoans wsX2_put := goodIn_r _ [27, 13, 39] (by decide +kernel) (by decide +kernel)
set_option maxRecDepth 20000 in
theorem gX3_closeLoans_X2_put : GoodIn wsX3_closeLoans (wsV RX3 48 RX2 yX2_put wsX2_put) := goodIn_app (goodIn_of _ (by decide +kernel)) ggX3_closeLoans_X2_put
theorem dX3_closeLoans_0 : decode cX3_closeLoans 0 = .ok (.iconst 0, 1) := by decide +kernel
theorem dX3_closeLoans_1 : decode cX3_closeLoans 1 = .ok (.istore_n 2, 1) := by decide +kernel
theorem dX3_closeLoans_2 : decode cX3_closeLoans 2 = .ok (.iconst 3, 1) := by decide +kernel
theorem dX3_closeLoans_3 : decode cX3_closeLoans 3 = .ok (.istore_n 3, 1) := by decide +kernel
theorem dX3_closeLoans_4 : decode cX3_closeLoans 4 = .ok (.iload_n 3, 1) := by decide +kernel
theorem dX3_closeLoans_5 : decode cX3_closeLoans 5 = .ok (.ifCond .lt 109, 3) := by decide +kernel
theorem dX3_closeLoans_8 : decode cX3_closeLoans 8 = .ok (.aload_n 0, 1) := by decide +kernel
theorem dX3_closeLoans_9 : decode cX3_closeLoans 9 = .ok (.getfield 51, 3) := by decide +kernel
theorem dX3_closeLoans_12 : decode cX3_closeLoans 12 = .ok (.iconst 1, 1) := by decide +kernel
theorem dX3_closeLoans_13 : decode cX3_closeLoans 13 = .ok (.isub, 1) := by decide +kernel
theorem dX3_closeLoans_14 : decode cX3_closeLoans 14 = .ok (.istore 4, 2) := by decide +kernel
theorem dX3_closeLoans_16 : decode cX3_closeLoans 16 = .ok (.iload 4, 2) := by decide +kernel
theorem dX3_closeLoans_18 : decode cX3_closeLoans 18 = .ok (.ifCond .lt 90, 3) := by decide +kernel
theorem dX3_closeLoans_21 : decode cX3_closeLoans 21 = .ok (.aload_n 0, 1) := by decide +kernel
theorem dX3_closeLoans_22 : decode cX3_closeLoans 22 = .ok (.getfield 38, 3) := by decide +kernel
theorem dX3_closeLoans_25 : decode cX3_closeLoans 25 = .ok (.iload 4, 2) := by decide +kernel
theorem dX3_closeLoans_27 : decode cX3_closeLoans 27 = .ok (.iconst 4, 1) := by decide +kernel
theorem dX3_closeLoans_28 : decode cX3_closeLoans 28 = .ok (.imul, 1) := by decide +kernel
theorem dX3_closeLoans_29 : decode cX3_closeLoans 29 = .ok (.iload_n 3, 1) := by decide +kernel
theorem dX3_closeLoans_30 : decode cX3_closeLoans 30 = .ok (.iadd, 1) := by decide +kernel
theorem dX3_closeLoans_31 : decode cX3_closeLoans 31 = .ok (.invokevirtual 54, 3) := by decide +kernel
theorem dX3_closeLoans_34 : decode cX3_closeLoans 34 = .ok (.istore 5, 2) := by decide +kernel
theorem dX3_closeLoans_36 : decode cX3_closeLoans 36 = .ok (.aload_n 0, 1) := by decide +kernel
theorem dX3_closeLoans_37 : decode cX3_closeLoans 37 = .ok (.getfield 35, 3) := by decide +kernel
theorem dX3_closeLoans_40 : decode cX3_closeLoans 40 = .ok (.iload 4, 2) := by decide +kernel
theorem dX3_closeLoans_42 : decode cX3_closeLoans 42 = .ok (.invokevirtual 54, 3) := by decide +kernel
theorem dX3_closeLoans_45 : decode cX3_closeLoans 45 = .ok (.iload_n 1, 1) := by decide +kernel
theorem dX3_closeLoans_46 : decode cX3_closeLoans 46 = .ok (.if_icmp .ne 56, 3) := by decide +kernel
theorem dX3_closeLoans_49 : decode cX3_closeLoans 49 = .ok (.iload 5, 2) := by decide +kernel
theorem dX3_closeLoans_51 : decode cX3_closeLoans 51 = .ok (.ifCond .le 51, 3) := by decide +kernel
theorem dX3_closeLoans_54 : decode cX3_closeLoans 54 = .ok (.iload 5, 2) := by decide +kernel
theorem dX3_closeLoans_56 : decode cX3_closeLoans 56 = .ok (.aload_n 0, 1) := by decide +kernel
theorem dX3_closeLoans_57 : decode cX3_closeLoans 57 = .ok (.iload_n 1, 1) := by decide +kernel
theorem dX3_closeLoans_58 : decode cX3_closeLoans 58 = .ok (.iload_n 3, 1) := by decide +kernel
theorem dX3_closeLoans_59 : decode cX3_closeLoans 59 = .ok (.invokevirtual 58, 3) := by decide +kernel
theorem dX3_closeLoans_62 : decode cX3_closeLoans 62 = .ok (.invokestatic 81, 3) := by decide +kernel
theorem dX3_closeLoans_65 : decode cX3_closeLoans 65 = .ok (.istore 6, 2) := by decide +kernel
theorem dX3_closeLoans_67 : decode cX3_closeLoans 67 = .ok (.aload_n 0, 1) := by decide +kernel
theorem dX3_closeLoans_68 : decode cX3_closeLoans 68 = .ok (.iload_n 1, 1) := by decide +kernel
theorem dX3_closeLoans_69 : decode cX3_closeLoans 69 = .ok (.iload_n 3, 1) := by decide +kernel
theorem dX3_closeLoans_70 : decode cX3_closeLoans 70 = .ok (.iload 6, 2) := by decide +kernel
theorem dX3_closeLoans_72 : decode cX3_closeLoans 72 = .ok (.ineg, 1) := by decide +kernel
theorem dX3_closeLoans_73 : decode cX3_closeLoans 73 = .ok (.invokevirtual 95, 3) := by decide +kernel
theorem dX3_closeLoans_76 : decode cX3_closeLoans 76 = .ok (.aload_n 0, 1) := by decide +kernel
theorem dX3_closeLoans_77 : decode cX3_closeLoans 77 = .ok (.iload 4, 2) := by decide +kernel
theorem dX3_closeLoans_79 : decode cX3_closeLoans 79 = .ok (.iload_n 3, 1) := by decide +kernel
theorem dX3_closeLoans_80 : decode cX3_closeLoans 80 = .ok (.iload 6, 2) := by decide +kernel
theorem dX3_closeLoans_82 : decode cX3_closeLoans 82 = .ok (.invokevirtual 95, 3) := by decide +kernel
theorem dX3_closeLoans_85 : decode cX3_closeLoans 85 = .ok (.aload_n 0, 1) := by decide +kernel
theorem dX3_closeLoans_86 : decode cX3_closeLoans 86 = .ok (.getfield 38, 3) := by decide +kernel
theorem dX3_closeLoans_89 : decode cX3_closeLoans 89 = .ok (.iload 4, 2) := by decide +kernel
theorem dX3_closeLoans_91 : decode cX3_closeLoans 91 = .ok (.iconst 4, 1) := by decide +kernel
theorem dX3_closeLoans_92 : decode cX3_closeLoans 92 = .ok (.imul, 1) := by decide +kernel
theorem dX3_closeLoans_93 : decode cX3_closeLoans 93 = .ok (.iload_n 3, 1) := by decide +kernel
theorem dX3_closeLoans_94 : decode cX3_closeLoans 94 = .ok (.iadd, 1) := by decide +kernel
theorem dX3_closeLoans_95 : decode cX3_closeLoans 95 = .ok (.iconst 0, 1) := by decide +kernel
theorem dX3_closeLoans_96 : decode cX3_closeLoans 96 = .ok (.invokevirtual 48, 3) := by decide +kernel
theorem dX3_closeLoans_99 : decode cX3_closeLoans 99 = .ok (.iinc 2 1, 3) := by decide +kernel
theorem dX3_closeLoans_102 : decode cX3_closeLoans 102 = .ok (.iinc 4 (-1), 3) := by decide +kernel
theorem dX3_closeLoans_105 : decode cX3_closeLoans 105 = .ok (.goto (-89), 3) := by decide +kernel
theorem dX3_closeLoans_108 : decode cX3_closeLoans 108 = .ok (.iinc 3 (-1), 3) := by decide +kernel
theorem dX3_closeLoans_111 : decode cX3_closeLoans 111 = .ok (.goto (-107), 3) := by decide +kernel
theorem dX3_closeLoans_114 : decode cX3_closeLoans 114 = .ok (.iload_n 2, 1) := by decide +kernel
theorem dX3_closeLoans_115 : decode cX3_closeLoans 115 = .ok (.ireturn, 1) := by decide +kernel
set_option maxRecDepth 20000 in
theorem ggX3_piecesLentTo_X2_at : GoodIn wsX3_piecesLentTo wsX2_at := goodIn_r _ [8, 9, 21] (by decide +kernel) (by decide +kernel)
set_option maxRecDepth 20000 in
theorem gX3_piecesLentTo_X2_at : GoodIn wsX3_piecesLentTo (wsV RX3 54 RX2 yX2_at wsX2_at) := goodIn_app (goodIn_of _ (by decide +kernel)) ggX3_piecesLentTo_X2_at
theorem dX3_piecesLentTo_0 : decode cX3_piecesLentTo 0 = .ok (.iconst 0, 1) := by decide +kernel
theorem dX3_piecesLentTo_1 : decode cX3_piecesLentTo 1 = .ok (.istore_n 2, 1) := by decide +kernel
theorem dX3_piecesLentTo_2 : decode cX3_piecesLentTo 2 = .ok (.iconst 0, 1) := by decide +kernel
theorem dX3_piecesLentTo_3 : decode cX3_piecesLentTo 3 = .ok (.istore_n 3, 1) := by decide +kernel
theorem dX3_piecesLentTo_4 : decode cX3_piecesLentTo 4 = .ok (.iload_n 3, 1) := by decide +kernel
theorem dX3_piecesLentTo_5 : decode cX3_piecesLentTo 5 = .ok (.aload_n 0, 1) := by decide +kernel
theorem dX3_piecesLentTo_6 : decode cX3_piecesLentTo 6 = .ok (.getfield 51, 3) := by decide +kernel
theorem dX3_piecesLentTo_9 : decode cX3_piecesLentTo 9 = .ok (.if_icmp .ge 52, 3) := by decide +kernel
theorem dX3_piecesLentTo_12 : decode cX3_piecesLentTo 12 = .ok (.iconst 0, 1) := by decide +kernel
theorem dX3_piecesLentTo_13 : decode cX3_piecesLentTo 13 = .ok (.istore 4, 2) := by decide +kernel
theorem dX3_piecesLentTo_15 : decode cX3_piecesLentTo 15 = .ok (.iload 4, 2) := by decide +kernel
theorem dX3_piecesLentTo_17 : decode cX3_piecesLentTo 17 = .ok (.iconst 4, 1) := by decide +kernel
theorem dX3_piecesLentTo_18 : decode cX3_piecesLentTo 18 = .ok (.if_icmp .ge 37, 3) := by decide +kernel
theorem dX3_piecesLentTo_21 : decode cX3_piecesLentTo 21 = .ok (.aload_n 0, 1) := by decide +kernel
theorem dX3_piecesLentTo_22 : decode cX3_piecesLentTo 22 = .ok (.getfield 35, 3) := by decide +kernel
theorem dX3_piecesLentTo_25 : decode cX3_piecesLentTo 25 = .ok (.iload_n 3, 1) := by decide +kernel
theorem dX3_piecesLentTo_26 : decode cX3_piecesLentTo 26 = .ok (.invokevirtual 54, 3) := by decide +kernel
theorem dX3_piecesLentTo_29 : decode cX3_piecesLentTo 29 = .ok (.iload_n 1, 1) := by decide +kernel
theorem dX3_piecesLentTo_30 : decode cX3_piecesLentTo 30 = .ok (.if_icmp .ne 25, 3) := by decide +kernel
theorem dX3_piecesLentTo_33 : decode cX3_piecesLentTo 33 = .ok (.iload_n 2, 1) := by decide +kernel
theorem dX3_piecesLentTo_34 : decode cX3_piecesLentTo 34 = .ok (.aload_n 0, 1) := by decide +kernel
theorem dX3_piecesLentTo_35 : decode cX3_piecesLentTo 35 = .ok (.getfield 38, 3) := by decide +kernel
theorem dX3_piecesLentTo_38 : decode cX3_piecesLentTo 38 = .ok (.iload_n 3, 1) := by decide +kernel
theorem dX3_piecesLentTo_39 : decode cX3_piecesLentTo 39 = .ok (.iconst 4, 1) := by decide +kernel
theorem dX3_piecesLentTo_40 : decode cX3_piecesLentTo 40 = .ok (.imul, 1) := by decide +kernel
theorem dX3_piecesLentTo_41 : decode cX3_piecesLentTo 41 = .ok (.iload 4, 2) := by decide +kernel
theorem dX3_piecesLentTo_43 : decode cX3_piecesLentTo 43 = .ok (.iadd, 1) := by decide +kernel
theorem dX3_piecesLentTo_44 : decode cX3_piecesLentTo 44 = .ok (.invokevirtual 54, 3) := by decide +kernel
theorem dX3_piecesLentTo_47 : decode cX3_piecesLentTo 47 = .ok (.iadd, 1) := by decide +kernel
theorem dX3_piecesLentTo_48 : decode cX3_piecesLentTo 48 = .ok (.istore_n 2, 1) := by decide +kernel
theorem dX3_piecesLentTo_49 : decode cX3_piecesLentTo 49 = .ok (.iinc 4 1, 3) := by decide +kernel
theorem dX3_piecesLentTo_52 : decode cX3_piecesLentTo 52 = .ok (.goto (-37), 3) := by decide +kernel
theorem dX3_piecesLentTo_55 : decode cX3_piecesLentTo 55 = .ok (.iinc 3 1, 3) := by decide +kernel
theorem dX3_piecesLentTo_58 : decode cX3_piecesLentTo 58 = .ok (.goto (-54), 3) := by decide +kernel
theorem dX3_piecesLentTo_61 : decode cX3_piecesLentTo 61 = .ok (.iload_n 2, 1) := by decide +kernel
theorem dX3_piecesLentTo_62 : decode cX3_piecesLentTo 62 = .ok (.ireturn, 1) := by decide +kernel
set_option maxRecDepth 20000 in
theorem ggX4_init_X0_init : GoodIn wsX4_init wsX0_init := goodIn_r _ [17, 18, 2, 3, 19, 20, 21, 22, 23, 24, 25, 26, 27, 28, 29, 30, 31, 32, 33, 34, 35, 36, 37, 90, 62, 63, 64, 65, 66, 67, 68, 69, 70] (by decide +kernel) (by decide +kernel)
set_option maxRecDepth 20000 in
theorem gX4_init_X0_init_n9 : GoodIn wsX4_init (wsX0_init) := ggX4_init_X0_init
set_option maxRecDepth 20000 in
theorem ggX4_init_X3_init : GoodIn wsX4_init wsX3_init := goodIn_r _ [39, 40, 2, 3, 41, 20, 21, 42, 43, 44, 45, 46, 47, 48, 49, 50, 51, 29, 30, 31, 32, 33, 34, 35, 36, 37, 90, 74, 75, 76, 77, 78, 79, 80, 81, 82, 83, 84] (by decide +kernel) (by decide +kernel)
set_option maxRecDepth 20000 in
theorem gX4_init_X3_init_n18 : GoodIn wsX4_init (wsX3_init) := ggX4_init_X3_init
set_option maxRecDepth 20000 in
theorem ggX4_init_X1_init : GoodIn wsX4_init wsX1_init := goodIn_r _ [53, 54, 2, 3, 55, 20, 21, 56, 57, 58, 59, 60, 61, 29, 30, 31, 32, 33, 34, 35, 36, 37, 90, 85, 86, 87, 88, 89] (by decide +kernel) (by decide +kernel)
set_option maxRecDepth 20000 in
theorem gX4_init_X1_init_n25 : GoodIn wsX4_init (wsX1_init) := ggX4_init_X1_init
theorem dX4_init_0 : decode cX4_init 0 = .ok (.aload_n 0, 1) := by decide +kernel
theorem dX4_init_1 : decode cX4_init 1 = .ok (.invokespecial 1, 3) := by decide +kernel
theorem dX4_init_4 : decode cX4_init 4 = .ok (.aload_n 0, 1) := by decide +kernel
theorem dX4_init_5 : decode cX4_init 5 = .ok (.new 7, 3) := by decide +kernel
theorem dX4_init_8 : decode cX4_init 8 = .ok (.dup, 1) := by decide +kernel
theorem dX4_init_9 : decode cX4_init 9 = .ok (.invokespecial 9, 3) := by decide +kernel
theorem dX4_init_12 : decode cX4_init 12 = .ok (.putfield 10, 3) := by decide +kernel
theorem dX4_init_15 : decode cX4_init 15 = .ok (.aload_n 0, 1) := by decide +kernel
theorem dX4_init_16 : decode cX4_init 16 = .ok (.new 16, 3) := by decide +kernel
theorem dX4_init_19 : decode cX4_init 19 = .ok (.dup, 1) := by decide +kernel
theorem dX4_init_20 : decode cX4_init 20 = .ok (.invokespecial 18, 3) := by decide +kernel
theorem dX4_init_23 : decode cX4_init 23 = .ok (.putfield 19, 3) := by decide +kernel
theorem dX4_init_26 : decode cX4_init 26 = .ok (.aload_n 0, 1) := by decide +kernel
theorem dX4_init_27 : decode cX4_init 27 = .ok (.new 23, 3) := by decide +kernel
theorem dX4_init_30 : decode cX4_init 30 = .ok (.dup, 1) := by decide +kernel
theorem dX4_init_31 : decode cX4_init 31 = .ok (.invokespecial 25, 3) := by decide +kernel
theorem dX4_init_34 : decode cX4_init 34 = .ok (.putfield 26, 3) := by decide +kernel
theorem dX4_init_37 : decode cX4_init 37 = .ok (.return_, 1) := by decide +kernel
set_option maxRecDepth 20000 in
theorem ggX4_pass_X4_checkRange : GoodIn wsX4_pass wsX4_checkRange := goodIn_ca (goodIn_r _ [5, 6, 7] (by decide +kernel) (by decide +kernel)) (goodIn_sub (fun _ h => List.mem_cons_of_mem _ (List.mem_append_left _ (List.mem_append_right _ h))) (by decide +kernel))
set_option maxRecDepth 20000 in
theorem gX4_pass_X4_checkRange : GoodIn wsX4_pass (va_wsS RX4 30 yX4_checkRange wsX4_checkRange) := goodIn_app (goodIn_of _ (by decide +kernel)) ggX4_pass_X4_checkRange
set_option maxRecDepth 20000 in
theorem ggX4_pass_X4_checkState : GoodIn wsX4_pass wsX4_checkState := goodIn_ca (goodIn_r _ [10, 11, 12] (by decide +kernel) (by decide +kernel)) (goodIn_sub (fun _ h => List.mem_cons_of_mem _ (List.mem_append_right _ h)) (by decide +kernel))
set_option maxRecDepth 20000 in
theorem gX4_pass_X4_checkState : GoodIn wsX4_pass (va_wsS RX4 38 yX4_checkState wsX4_checkState) := goodIn_app (goodIn_of _ (by decide +kernel)) ggX4_pass_X4_checkState
theorem dX4_pass_0 : decode cX4_pass 0 = .ok (.iload_n 1, 1) := by decide +kernel
theorem dX4_pass_1 : decode cX4_pass 1 = .ok (.iconst 1, 1) := by decide +kernel
theorem dX4_pass_2 : decode cX4_pass 2 = .ok (.sipush 500, 3) := by decide +kernel
theorem dX4_pass_5 : decode cX4_pass 5 = .ok (.invokestatic 30, 3) := by decide +kernel
theorem dX4_pass_8 : decode cX4_pass 8 = .ok (.aload_n 0, 1) := by decide +kernel
theorem dX4_pass_9 : decode cX4_pass 9 = .ok (.getfield 10, 3) := by decide +kernel
theorem dX4_pass_12 : decode cX4_pass 12 = .ok (.getfield 34, 3) := by decide +kernel
theorem dX4_pass_15 : decode cX4_pass 15 = .ok (.iload_n 1, 1) := by decide +kernel
theorem dX4_pass_16 : decode cX4_pass 16 = .ok (.iadd, 1) := by decide +kernel
theorem dX4_pass_17 : decode cX4_pass 17 = .ok (.sipush 20000, 3) := by decide +kernel
theorem dX4_pass_20 : decode cX4_pass 20 = .ok (.if_icmp .gt 7, 3) := by decide +kernel
theorem dX4_pass_23 : decode cX4_pass 23 = .ok (.iconst 1, 1) := by decide +kernel
theorem dX4_pass_24 : decode cX4_pass 24 = .ok (.goto 4, 3) := by decide +kernel
theorem dX4_pass_27 : decode cX4_pass 27 = .ok (.iconst 0, 1) := by decide +kernel
theorem dX4_pass_28 : decode cX4_pass 28 = .ok (.invokestatic 38, 3) := by decide +kernel
theorem dX4_pass_31 : decode cX4_pass 31 = .ok (.aload_n 0, 1) := by decide +kernel
theorem dX4_pass_32 : decode cX4_pass 32 = .ok (.getfield 10, 3) := by decide +kernel
theorem dX4_pass_35 : decode cX4_pass 35 = .ok (.dup, 1) := by decide +kernel
theorem dX4_pass_36 : decode cX4_pass 36 = .ok (.getfield 34, 3) := by decide +kernel
theorem dX4_pass_39 : decode cX4_pass 39 = .ok (.iload_n 1, 1) := by decide +kernel
theorem dX4_pass_40 : decode cX4_pass 40 = .ok (.iadd, 1) := by decide +kernel
theorem dX4_pass_41 : decode cX4_pass 41 = .ok (.putfield 34, 3) := by decide +kernel
theorem dX4_pass_44 : decode cX4_pass 44 = .ok (.aload_n 0, 1) := by decide +kernel
theorem dX4_pass_45 : decode cX4_pass 45 = .ok (.getfield 10, 3) := by decide +kernel
theorem dX4_pass_48 : decode cX4_pass 48 = .ok (.getfield 34, 3) := by decide +kernel
theorem dX4_pass_51 : decode cX4_pass 51 = .ok (.ireturn, 1) := by decide +kernel
theorem dX4_now_0 : decode cX4_now 0 = .ok (.aload_n 0, 1) := by decide +kernel
theorem dX4_now_1 : decode cX4_now 1 = .ok (.getfield 10, 3) := by decide +kernel
theorem dX4_now_4 : decode cX4_now 4 = .ok (.getfield 34, 3) := by decide +kernel
theorem dX4_now_7 : decode cX4_now 7 = .ok (.ireturn, 1) := by decide +kernel
set_option maxRecDepth 20000 in
theorem ggX4_addTable_X4_checkRange : GoodIn wsX4_addTable wsX4_checkRange := goodIn_ca (goodIn_r _ [5, 6, 7] (by decide +kernel) (by decide +kernel)) (goodIn_sub (fun _ h => List.mem_cons_of_mem _ (List.mem_append_left _ (List.mem_append_right _ h))) (by decide +kernel))
set_option maxRecDepth 20000 in
theorem gX4_addTable_X4_checkRange : GoodIn wsX4_addTable (va_wsS RX4 30 yX4_checkRange wsX4_checkRange) := goodIn_app (goodIn_of _ (by decide +kernel)) ggX4_addTable_X4_checkRange
set_option maxRecDepth 20000 in
theorem ggX4_addTable_X4_checkState : GoodIn wsX4_addTable wsX4_checkState := goodIn_ca (goodIn_r _ [10, 11, 12] (by decide +kernel) (by decide +kernel)) (goodIn_sub (fun _ h => List.mem_cons_of_mem _ (List.mem_append_right _ h)) (by decide +kernel))
set_option maxRecDepth 20000 in
theorem gX4_addTable_X4_checkState : GoodIn wsX4_addTable (va_wsS RX4 38 yX4_checkState wsX4_checkState) := goodIn_app (goodIn_of _ (by decide +kernel)) ggX4_addTable_X4_checkState
set_option maxRecDepth 20000 in
theorem ggX4_addTable_X0_putTable : GoodIn wsX4_addTable wsX0_putTable := goodIn_r _ [17, 18, 19, 20, 21, 22, 23, 24, 25, 29, 30, 31, 32, 33, 34, 35, 36, 37, 38] (by decide +kernel) (by decide +kernel)
set_option maxRecDepth 20000 in
theorem gX4_addTable_X0_putTable : GoodIn wsX4_addTable (wsV RX4 45 RX0 yX0_putTable wsX0_putTable) := goodIn_app (goodIn_of _ (by decide +kernel)) ggX4_addTable_X0_putTable
theorem dX4_addTable_0 : decode cX4_addTable 0 = .ok (.iload_n 1, 1) := by decide +kernel
theorem dX4_addTable_1 : decode cX4_addTable 1 = .ok (.iconst 2, 1) := by decide +kernel
theorem dX4_addTable_2 : decode cX4_addTable 2 = .ok (.bipush 6, 2) := by decide +kernel
theorem dX4_addTable_4 : decode cX4_addTable 4 = .ok (.invokestatic 30, 3) := by decide +kernel
theorem dX4_addTable_7 : decode cX4_addTable 7 = .ok (.aload_n 0, 1) := by decide +kernel
theorem dX4_addTable_8 : decode cX4_addTable 8 = .ok (.getfield 10, 3) := by decide +kernel
theorem dX4_addTable_11 : decode cX4_addTable 11 = .ok (.getfield 42, 3) := by decide +kernel
theorem dX4_addTable_14 : decode cX4_addTable 14 = .ok (.bipush 10, 2) := by decide +kernel
theorem dX4_addTable_16 : decode cX4_addTable 16 = .ok (.if_icmp .ge 7, 3) := by decide +kernel
theorem dX4_addTable_19 : decode cX4_addTable 19 = .ok (.iconst 1, 1) := by decide +kernel
theorem dX4_addTable_20 : decode cX4_addTable 20 = .ok (.goto 4, 3) := by decide +kernel
theorem dX4_addTable_23 : decode cX4_addTable 23 = .ok (.iconst 0, 1) := by decide +kernel
theorem dX4_addTable_24 : decode cX4_addTable 24 = .ok (.invokestatic 38, 3) := by decide +kernel
theorem dX4_addTable_27 : decode cX4_addTable 27 = .ok (.aload_n 0, 1) := by decide +kernel
theorem dX4_addTable_28 : decode cX4_addTable 28 = .ok (.getfield 10, 3) := by decide +kernel
theorem dX4_addTable_31 : decode cX4_addTable 31 = .ok (.iload_n 1, 1) := by decide +kernel
theorem dX4_addTable_32 : decode cX4_addTable 32 = .ok (.invokevirtual 45, 3) := by decide +kernel
theorem dX4_addTable_35 : decode cX4_addTable 35 = .ok (.ireturn, 1) := by decide +kernel
set_option maxRecDepth 20000 in
theorem ggX4_addTitle_X4_checkRange : GoodIn wsX4_addTitle wsX4_checkRange := goodIn_ca (goodIn_r _ [5, 6, 7] (by decide +kernel) (by decide +kernel)) (goodIn_sub (fun _ h => List.mem_cons_of_mem _ (List.mem_append_left _ (List.mem_append_right _ h))) (by decide +kernel))
set_option maxRecDepth 20000 in
theorem gX4_addTitle_X4_checkRange : GoodIn wsX4_addTitle (va_wsS RX4 30 yX4_checkRange wsX4_checkRange) := goodIn_app (goodIn_of _ (by decide +kernel)) ggX4_addTitle_X4_checkRange
set_option maxRecDepth 20000 in
theorem ggX4_addTitle_X4_checkState : GoodIn wsX4_addTitle wsX4_checkState := goodIn_ca (goodIn_r _ [10, 11, 12] (by decide +kernel) (by decide +kernel)) (goodIn_sub (fun _ h => List.mem_cons_of_mem _ (List.mem_append_right _ h)) (by decide +kernel))
set_option maxRecDepth 20000 in
theorem gX4_addTitle_X4_checkState : GoodIn wsX4_addTitle (va_wsS RX4 38 yX4_checkState wsX4_checkState) := goodIn_app (goodIn_of _ (by decide +kernel)) ggX4_addTitle_X4_checkState
set_option maxRecDepth 20000 in
theorem ggX4_addTitle_X3_putTitle : GoodIn wsX4_addTitle wsX3_putTitle := goodIn_r _ [17, 18, 19, 20, 21, 22, 23, 24, 25, 26, 27, 36, 37, 38, 39, 40, 41, 42, 43, 44, 45, 46, 47] (by decide +kernel) (by decide +kernel)
set_option maxRecDepth 20000 in
theorem gX4_addTitle_X3_putTitle : GoodIn wsX4_addTitle (wsV RX4 52 RX3 yX3_putTitle wsX3_putTitle) := goodIn_app (goodIn_of _ (by decide +kernel)) ggX4_addTitle_X3_putTitle
set_option maxRecDepth 20000 in
theorem ggX4_addTitle_X3_setFull : GoodIn wsX4_addTitle wsX3_setFull := goodIn_r _ [31, 32, 22, 23, 24, 25, 26, 27, 36, 37, 38, 39, 40, 41, 42, 43, 44, 45, 46, 47] (by decide +kernel) (by decide +kernel)
set_option maxRecDepth 20000 in
theorem gX4_addTitle_X3_setFull : GoodIn wsX4_addTitle (wsV RX4 56 RX3 yX3_setFull wsX3_setFull) := goodIn_app (goodIn_of _ (by decide +kernel)) ggX4_addTitle_X3_setFull
theorem dX4_addTitle_0 : decode cX4_addTitle 0 = .ok (.iload_n 1, 1) := by decide +kernel
theorem dX4_addTitle_1 : decode cX4_addTitle 1 = .ok (.iconst 1, 1) := by decide +kernel
theorem dX4_addTitle_2 : decode cX4_addTitle 2 = .ok (.bipush 12, 2) := by decide +kernel
theorem dX4_addTitle_4 : decode cX4_addTitle 4 = .ok (.invokestatic 30, 3) := by decide +kernel
theorem dX4_addTitle_7 : decode cX4_addTitle 7 = .ok (.iload_n 2, 1) := by decide +kernel
theorem dX4_addTitle_8 : decode cX4_addTitle 8 = .ok (.iload_n 1, 1) := by decide +kernel
theorem dX4_addTitle_9 : decode cX4_addTitle 9 = .ok (.bipush 12, 2) := by decide +kernel
theorem dX4_addTitle_11 : decode cX4_addTitle 11 = .ok (.invokestatic 30, 3) := by decide +kernel
theorem dX4_addTitle_14 : decode cX4_addTitle 14 = .ok (.iload_n 3, 1) := by decide +kernel
theorem dX4_addTitle_15 : decode cX4_addTitle 15 = .ok (.iconst 5, 1) := by decide +kernel
theorem dX4_addTitle_16 : decode cX4_addTitle 16 = .ok (.sipush 300, 3) := by decide +kernel
theorem dX4_addTitle_19 : decode cX4_addTitle 19 = .ok (.invokestatic 30, 3) := by decide +kernel
theorem dX4_addTitle_22 : decode cX4_addTitle 22 = .ok (.iload 4, 2) := by decide +kernel
theorem dX4_addTitle_24 : decode cX4_addTitle 24 = .ok (.iconst 0, 1) := by decide +kernel
theorem dX4_addTitle_25 : decode cX4_addTitle 25 = .ok (.bipush 9, 2) := by decide +kernel
theorem dX4_addTitle_27 : decode cX4_addTitle 27 = .ok (.invokestatic 30, 3) := by decide +kernel
theorem dX4_addTitle_30 : decode cX4_addTitle 30 = .ok (.iload 5, 2) := by decide +kernel
theorem dX4_addTitle_32 : decode cX4_addTitle 32 = .ok (.iconst 0, 1) := by decide +kernel
theorem dX4_addTitle_33 : decode cX4_addTitle 33 = .ok (.bipush 9, 2) := by decide +kernel
theorem dX4_addTitle_35 : decode cX4_addTitle 35 = .ok (.invokestatic 30, 3) := by decide +kernel
theorem dX4_addTitle_38 : decode cX4_addTitle 38 = .ok (.iload 6, 2) := by decide +kernel
theorem dX4_addTitle_40 : decode cX4_addTitle 40 = .ok (.iconst 0, 1) := by decide +kernel
theorem dX4_addTitle_41 : decode cX4_addTitle 41 = .ok (.bipush 9, 2) := by decide +kernel
theorem dX4_addTitle_43 : decode cX4_addTitle 43 = .ok (.invokestatic 30, 3) := by decide +kernel
theorem dX4_addTitle_46 : decode cX4_addTitle 46 = .ok (.iload 7, 2) := by decide +kernel
theorem dX4_addTitle_48 : decode cX4_addTitle 48 = .ok (.iconst 0, 1) := by decide +kernel
theorem dX4_addTitle_49 : decode cX4_addTitle 49 = .ok (.bipush 9, 2) := by decide +kernel
theorem dX4_addTitle_51 : decode cX4_addTitle 51 = .ok (.invokestatic 30, 3) := by decide +kernel
theorem dX4_addTitle_54 : decode cX4_addTitle 54 = .ok (.aload_n 0, 1) := by decide +kernel
theorem dX4_addTitle_55 : decode cX4_addTitle 55 = .ok (.getfield 19, 3) := by decide +kernel
theorem dX4_addTitle_58 : decode cX4_addTitle 58 = .ok (.getfield 49, 3) := by decide +kernel
theorem dX4_addTitle_61 : decode cX4_addTitle 61 = .ok (.bipush 8, 2) := by decide +kernel
theorem dX4_addTitle_63 : decode cX4_addTitle 63 = .ok (.if_icmp .ge 7, 3) := by decide +kernel
theorem dX4_addTitle_66 : decode cX4_addTitle 66 = .ok (.iconst 1, 1) := by decide +kernel
theorem dX4_addTitle_67 : decode cX4_addTitle 67 = .ok (.goto 4, 3) := by decide +kernel
theorem dX4_addTitle_70 : decode cX4_addTitle 70 = .ok (.iconst 0, 1) := by decide +kernel
theorem dX4_addTitle_71 : decode cX4_addTitle 71 = .ok (.invokestatic 38, 3) := by decide +kernel
theorem dX4_addTitle_74 : decode cX4_addTitle 74 = .ok (.aload_n 0, 1) := by decide +kernel
theorem dX4_addTitle_75 : decode cX4_addTitle 75 = .ok (.getfield 19, 3) := by decide +kernel
theorem dX4_addTitle_78 : decode cX4_addTitle 78 = .ok (.iload_n 1, 1) := by decide +kernel
theorem dX4_addTitle_79 : decode cX4_addTitle 79 = .ok (.iload_n 2, 1) := by decide +kernel
theorem dX4_addTitle_80 : decode cX4_addTitle 80 = .ok (.iload_n 3, 1) := by decide +kernel
theorem dX4_addTitle_81 : decode cX4_addTitle 81 = .ok (.invokevirtual 52, 3) := by decide +kernel
theorem dX4_addTitle_84 : decode cX4_addTitle 84 = .ok (.istore 8, 2) := by decide +kernel
theorem dX4_addTitle_86 : decode cX4_addTitle 86 = .ok (.aload_n 0, 1) := by decide +kernel
theorem dX4_addTitle_87 : decode cX4_addTitle 87 = .ok (.getfield 19, 3) := by decide +kernel
theorem dX4_addTitle_90 : decode cX4_addTitle 90 = .ok (.iload 8, 2) := by decide +kernel
theorem dX4_addTitle_92 : decode cX4_addTitle 92 = .ok (.iconst 0, 1) := by decide +kernel
theorem dX4_addTitle_93 : decode cX4_addTitle 93 = .ok (.iload 4, 2) := by decide +kernel
theorem dX4_addTitle_95 : decode cX4_addTitle 95 = .ok (.invokevirtual 56, 3) := by decide +kernel
theorem dX4_addTitle_98 : decode cX4_addTitle 98 = .ok (.aload_n 0, 1) := by decide +kernel
theorem dX4_addTitle_99 : decode cX4_addTitle 99 = .ok (.getfield 19, 3) := by decide +kernel
theorem dX4_addTitle_102 : decode cX4_addTitle 102 = .ok (.iload 8, 2) := by decide +kernel
theorem dX4_addTitle_104 : decode cX4_addTitle 104 = .ok (.iconst 1, 1) := by decide +kernel
theorem dX4_addTitle_105 : decode cX4_addTitle 105 = .ok (.iload 5, 2) := by decide +kernel
theorem dX4_addTitle_107 : decode cX4_addTitle 107 = .ok (.invokevirtual 56, 3) := by decide +kernel
theorem dX4_addTitle_110 : decode cX4_addTitle 110 = .ok (.aload_n 0, 1) := by decide +kernel
theorem dX4_addTitle_111 : decode cX4_addTitle 111 = .ok (.getfield 19, 3) := by decide +kernel
theorem dX4_addTitle_114 : decode cX4_addTitle 114 = .ok (.iload 8, 2) := by decide +kernel
theorem dX4_addTitle_116 : decode cX4_addTitle 116 = .ok (.iconst 2, 1) := by decide +kernel
theorem dX4_addTitle_117 : decode cX4_addTitle 117 = .ok (.iload 6, 2) := by decide +kernel
theorem dX4_addTitle_119 : decode cX4_addTitle 119 = .ok (.invokevirtual 56, 3) := by decide +kernel
theorem dX4_addTitle_122 : decode cX4_addTitle 122 = .ok (.aload_n 0, 1) := by decide +kernel
theorem dX4_addTitle_123 : decode cX4_addTitle 123 = .ok (.getfield 19, 3) := by decide +kernel
theorem dX4_addTitle_126 : decode cX4_addTitle 126 = .ok (.iload 8, 2) := by decide +kernel
theorem dX4_addTitle_128 : decode cX4_addTitle 128 = .ok (.iconst 3, 1) := by decide +kernel
theorem dX4_addTitle_129 : decode cX4_addTitle 129 = .ok (.iload 7, 2) := by decide +kernel
theorem dX4_addTitle_131 : decode cX4_addTitle 131 = .ok (.invokevirtual 56, 3) := by decide +kernel
theorem dX4_addTitle_134 : decode cX4_addTitle 134 = .ok (.iload 8, 2) := by decide +kernel
theorem dX4_addTitle_136 : decode cX4_addTitle 136 = .ok (.ireturn, 1) := by decide +kernel
set_option maxRecDepth 20000 in
theorem ggX4_addCopy_X4_checkIndex : GoodIn wsX4_addCopy wsX4_checkIndex := goodIn_ca (goodIn_r _ [5, 6, 7] (by decide +kernel) (by decide +kernel)) (goodIn_sub (fun _ h => List.mem_cons_of_mem _ (List.mem_append_left _ (List.mem_append_right _ h))) (by decide +kernel))
set_option maxRecDepth 20000 in
theorem gX4_addCopy_X4_checkIndex : GoodIn wsX4_addCopy (va_wsS RX4 59 yX4_checkIndex wsX4_checkIndex) := goodIn_app (goodIn_of _ (by decide +kernel)) ggX4_addCopy_X4_checkIndex
set_option maxRecDepth 20000 in
theorem ggX4_addCopy_X4_checkState : GoodIn wsX4_addCopy wsX4_checkState := goodIn_ca (goodIn_r _ [10, 11, 12] (by decide +kernel) (by decide +kernel)) (goodIn_sub (fun _ h => List.mem_cons_of_mem _ (List.mem_append_right _ h)) (by decide +kernel))
set_option maxRecDepth 20000 in
theorem gX4_addCopy_X4_checkState : GoodIn wsX4_addCopy (va_wsS RX4 38 yX4_checkState wsX4_checkState) := goodIn_app (goodIn_of _ (by decide +kernel)) ggX4_addCopy_X4_checkState
set_option maxRecDepth 20000 in
theorem ggX4_addCopy_X3_putCopy : GoodIn wsX4_addCopy wsX3_putCopy := goodIn_r _ [17, 18, 19, 20, 21, 22, 23, 24, 25, 26, 27, 28, 29, 30, 31, 35, 36, 37, 38, 39, 40, 41, 42, 43, 44, 45, 46] (by decide +kernel) (by decide +kernel)
set_option maxRecDepth 20000 in
theorem gX4_addCopy_X3_putCopy : GoodIn wsX4_addCopy (wsV RX4 66 RX3 yX3_putCopy wsX3_putCopy) := goodIn_app (goodIn_of _ (by decide +kernel)) ggX4_addCopy_X3_putCopy
theorem dX4_addCopy_0 : decode cX4_addCopy 0 = .ok (.iload_n 1, 1) := by decide +kernel
theorem dX4_addCopy_1 : decode cX4_addCopy 1 = .ok (.aload_n 0, 1) := by decide +kernel
theorem dX4_addCopy_2 : decode cX4_addCopy 2 = .ok (.getfield 19, 3) := by decide +kernel
theorem dX4_addCopy_5 : decode cX4_addCopy 5 = .ok (.getfield 49, 3) := by decide +kernel
theorem dX4_addCopy_8 : decode cX4_addCopy 8 = .ok (.invokestatic 59, 3) := by decide +kernel
theorem dX4_addCopy_11 : decode cX4_addCopy 11 = .ok (.aload_n 0, 1) := by decide +kernel
theorem dX4_addCopy_12 : decode cX4_addCopy 12 = .ok (.getfield 19, 3) := by decide +kernel
theorem dX4_addCopy_15 : decode cX4_addCopy 15 = .ok (.getfield 63, 3) := by decide +kernel
theorem dX4_addCopy_18 : decode cX4_addCopy 18 = .ok (.bipush 16, 2) := by decide +kernel
theorem dX4_addCopy_20 : decode cX4_addCopy 20 = .ok (.if_icmp .ge 7, 3) := by decide +kernel
theorem dX4_addCopy_23 : decode cX4_addCopy 23 = .ok (.iconst 1, 1) := by decide +kernel
theorem dX4_addCopy_24 : decode cX4_addCopy 24 = .ok (.goto 4, 3) := by decide +kernel
theorem dX4_addCopy_27 : decode cX4_addCopy 27 = .ok (.iconst 0, 1) := by decide +kernel
theorem dX4_addCopy_28 : decode cX4_addCopy 28 = .ok (.invokestatic 38, 3) := by decide +kernel
theorem dX4_addCopy_31 : decode cX4_addCopy 31 = .ok (.aload_n 0, 1) := by decide +kernel
theorem dX4_addCopy_32 : decode cX4_addCopy 32 = .ok (.getfield 19, 3) := by decide +kernel
theorem dX4_addCopy_35 : decode cX4_addCopy 35 = .ok (.iload_n 1, 1) := by decide +kernel
theorem dX4_addCopy_36 : decode cX4_addCopy 36 = .ok (.invokevirtual 66, 3) := by decide +kernel
theorem dX4_addCopy_39 : decode cX4_addCopy 39 = .ok (.ireturn, 1) := by decide +kernel
set_option maxRecDepth 20000 in
theorem ggX4_addRule_X4_checkIndex : GoodIn wsX4_addRule wsX4_checkIndex := goodIn_ca (goodIn_r _ [6, 7, 8] (by decide +kernel) (by decide +kernel)) (goodIn_sub (fun _ h => List.mem_cons_of_mem _ (List.mem_append_left _ (List.mem_append_left _ (List.mem_append_right _ h)))) (by decide +kernel))
set_option maxRecDepth 20000 in
theorem gX4_addRule_X4_checkIndex : GoodIn wsX4_addRule (va_wsS RX4 59 yX4_checkIndex wsX4_checkIndex) := goodIn_app (goodIn_of _ (by decide +kernel)) ggX4_addRule_X4_checkIndex
set_option maxRecDepth 20000 in
theorem ggX4_addRule_X1_rulesOf : GoodIn wsX4_addRule wsX1_rulesOf := goodIn_r _ [13, 14, 15, 16, 17, 18, 19, 20, 57, 58, 59, 60, 61, 62] (by decide +kernel) (by decide +kernel)
set_option maxRecDepth 20000 in
theorem gX4_addRule_X1_rulesOf : GoodIn wsX4_addRule (wsV RX4 69 RX1 yX1_rulesOf wsX1_rulesOf) := goodIn_app (goodIn_of _ (by decide +kernel)) ggX4_addRule_X1_rulesOf
set_option maxRecDepth 20000 in
theorem ggX4_addRule_X4_checkRange : GoodIn wsX4_addRule wsX4_checkRange := goodIn_ca (goodIn_r _ [23, 24, 25] (by decide +kernel) (by decide +kernel)) (goodIn_sub (fun _ h => List.mem_cons_of_mem _ (List.mem_append_left _ (List.mem_append_right _ h))) (by decide +kernel))
set_option maxRecDepth 20000 in
theorem gX4_addRule_X4_checkRange : GoodIn wsX4_addRule (va_wsS RX4 30 yX4_checkRange wsX4_checkRange) := goodIn_app (goodIn_of _ (by decide +kernel)) ggX4_addRule_X4_checkRange
set_option maxRecDepth 20000 in
theorem ggX4_addRule_X4_checkState : GoodIn wsX4_addRule wsX4_checkState := goodIn_ca (goodIn_r _ [28, 29, 30] (by decide +kernel) (by decide +kernel)) (goodIn_sub (fun _ h => List.mem_cons_of_mem _ (List.mem_append_right _ h)) (by decide +kernel))
set_option maxRecDepth 20000 in
theorem gX4_addRule_X4_checkState : GoodIn wsX4_addRule (va_wsS RX4 38 yX4_checkState wsX4_checkState) := goodIn_app (goodIn_of _ (by decide +kernel)) ggX4_addRule_X4_checkState
set_option maxRecDepth 20000 in
theorem ggX4_addRule_X1_putRule : GoodIn wsX4_addRule wsX1_putRule := goodIn_r _ [34, 14, 35, 36, 37, 38, 15, 16, 17, 18, 19, 20, 39, 40, 41, 42, 57, 58, 59, 60, 61, 62] (by decide +kernel) (by decide +kernel)
set_option maxRecDepth 20000 in
theorem gX4_addRule_X1_putRule : GoodIn wsX4_addRule (wsV RX4 72 RX1 yX1_putRule wsX1_putRule) := goodIn_app (goodIn_of _ (by decide +kernel)) ggX4_addRule_X1_putRule
theorem dX4_addRule_0 : decode cX4_addRule 0 = .ok (.iload_n 1, 1) := by decide +kernel
theorem dX4_addRule_1 : decode cX4_addRule 1 = .ok (.aload_n 0, 1) := by decide +kernel
theorem dX4_addRule_2 : decode cX4_addRule 2 = .ok (.getfield 19, 3) := by decide +kernel
theorem dX4_addRule_5 : decode cX4_addRule 5 = .ok (.getfield 49, 3) := by decide +kernel
theorem dX4_addRule_8 : decode cX4_addRule 8 = .ok (.invokestatic 59, 3) := by decide +kernel
theorem dX4_addRule_11 : decode cX4_addRule 11 = .ok (.iload_n 2, 1) := by decide +kernel
theorem dX4_addRule_12 : decode cX4_addRule 12 = .ok (.iconst (-1), 1) := by decide +kernel
theorem dX4_addRule_13 : decode cX4_addRule 13 = .ok (.if_icmp .eq 15, 3) := by decide +kernel
theorem dX4_addRule_16 : decode cX4_addRule 16 = .ok (.iload_n 2, 1) := by decide +kernel
theorem dX4_addRule_17 : decode cX4_addRule 17 = .ok (.aload_n 0, 1) := by decide +kernel
theorem dX4_addRule_18 : decode cX4_addRule 18 = .ok (.getfield 26, 3) := by decide +kernel
theorem dX4_addRule_21 : decode cX4_addRule 21 = .ok (.iload_n 1, 1) := by decide +kernel
theorem dX4_addRule_22 : decode cX4_addRule 22 = .ok (.invokevirtual 69, 3) := by decide +kernel
theorem dX4_addRule_25 : decode cX4_addRule 25 = .ok (.invokestatic 59, 3) := by decide +kernel
theorem dX4_addRule_28 : decode cX4_addRule 28 = .ok (.iload_n 3, 1) := by decide +kernel
theorem dX4_addRule_29 : decode cX4_addRule 29 = .ok (.iconst 0, 1) := by decide +kernel
theorem dX4_addRule_30 : decode cX4_addRule 30 = .ok (.iconst 3, 1) := by decide +kernel
theorem dX4_addRule_31 : decode cX4_addRule 31 = .ok (.invokestatic 30, 3) := by decide +kernel
theorem dX4_addRule_34 : decode cX4_addRule 34 = .ok (.iload 4, 2) := by decide +kernel
theorem dX4_addRule_36 : decode cX4_addRule 36 = .ok (.iconst 1, 1) := by decide +kernel
theorem dX4_addRule_37 : decode cX4_addRule 37 = .ok (.sipush 300, 3) := by decide +kernel
theorem dX4_addRule_40 : decode cX4_addRule 40 = .ok (.invokestatic 30, 3) := by decide +kernel
theorem dX4_addRule_43 : decode cX4_addRule 43 = .ok (.iload 5, 2) := by decide +kernel
theorem dX4_addRule_45 : decode cX4_addRule 45 = .ok (.iconst 0, 1) := by decide +kernel
theorem dX4_addRule_46 : decode cX4_addRule 46 = .ok (.bipush 99, 2) := by decide +kernel
theorem dX4_addRule_48 : decode cX4_addRule 48 = .ok (.invokestatic 30, 3) := by decide +kernel
theorem dX4_addRule_51 : decode cX4_addRule 51 = .ok (.aload_n 0, 1) := by decide +kernel
theorem dX4_addRule_52 : decode cX4_addRule 52 = .ok (.getfield 26, 3) := by decide +kernel
theorem dX4_addRule_55 : decode cX4_addRule 55 = .ok (.iload_n 1, 1) := by decide +kernel
theorem dX4_addRule_56 : decode cX4_addRule 56 = .ok (.invokevirtual 69, 3) := by decide +kernel
theorem dX4_addRule_59 : decode cX4_addRule 59 = .ok (.bipush 12, 2) := by decide +kernel
theorem dX4_addRule_61 : decode cX4_addRule 61 = .ok (.if_icmp .ge 7, 3) := by decide +kernel
theorem dX4_addRule_64 : decode cX4_addRule 64 = .ok (.iconst 1, 1) := by decide +kernel
theorem dX4_addRule_65 : decode cX4_addRule 65 = .ok (.goto 4, 3) := by decide +kernel
theorem dX4_addRule_68 : decode cX4_addRule 68 = .ok (.iconst 0, 1) := by decide +kernel
theorem dX4_addRule_69 : decode cX4_addRule 69 = .ok (.invokestatic 38, 3) := by decide +kernel
theorem dX4_addRule_72 : decode cX4_addRule 72 = .ok (.aload_n 0, 1) := by decide +kernel
theorem dX4_addRule_73 : decode cX4_addRule 73 = .ok (.getfield 26, 3) := by decide +kernel
theorem dX4_addRule_76 : decode cX4_addRule 76 = .ok (.iload_n 1, 1) := by decide +kernel
theorem dX4_addRule_77 : decode cX4_addRule 77 = .ok (.iload_n 2, 1) := by decide +kernel
theorem dX4_addRule_78 : decode cX4_addRule 78 = .ok (.iload_n 3, 1) := by decide +kernel
theorem dX4_addRule_79 : decode cX4_addRule 79 = .ok (.iload 4, 2) := by decide +kernel
theorem dX4_addRule_81 : decode cX4_addRule 81 = .ok (.iload 5, 2) := by decide +kernel
theorem dX4_addRule_83 : decode cX4_addRule 83 = .ok (.invokevirtual 72, 3) := by decide +kernel
theorem dX4_addRule_86 : decode cX4_addRule 86 = .ok (.ireturn, 1) := by decide +kernel
set_option maxRecDepth 20000 in
theorem ggX4_arrive_X4_checkRange : GoodIn wsX4_arrive wsX4_checkRange := goodIn_ca (goodIn_r _ [5, 6, 7] (by decide +kernel) (by decide +kernel)) (goodIn_sub (fun _ h => List.mem_cons_of_mem _ (List.mem_append_left _ (List.mem_append_right _ h))) (by decide +kernel))
set_option maxRecDepth 20000 in
theorem gX4_arrive_X4_checkRange : GoodIn wsX4_arrive (va_wsS RX4 30 yX4_checkRange wsX4_checkRange) := goodIn_app (goodIn_of _ (by decide +kernel)) ggX4_arrive_X4_checkRange
set_option maxRecDepth 20000 in
theorem ggX4_arrive_X4_checkState : GoodIn wsX4_arrive wsX4_checkState := goodIn_ca (goodIn_r _ [10, 11, 12] (by decide +kernel) (by decide +kernel)) (goodIn_sub (fun _ h => List.mem_cons_of_mem _ (List.mem_append_right _ h)) (by decide +kernel))
set_option maxRecDepth 20000 in
theorem gX4_arrive_X4_checkState : GoodIn wsX4_arrive (va_wsS RX4 38 yX4_checkState wsX4_checkState) := goodIn_app (goodIn_of _ (by decide +kernel)) ggX4_arrive_X4_checkState
set_option maxRecDepth 20000 in
theorem ggX4_arrive_X0_welcome : GoodIn wsX4_arrive wsX0_welcome := goodIn_r _ [17, 18, 19, 20, 21, 22, 23, 24, 25, 26, 27, 28, 29, 16, 30, 31, 32, 33, 34, 35, 36, 37, 38, 39, 40, 41, 42, 43, 44, 45, 46, 47, 48, 49, 50, 51, 52, 53, 54, 55, 56, 57, 58, 59, 60, 61, 62, 66, 67, 68, 69, 70, 71, 72, 73, 74, 75] (by decide +kernel) (by decide +kernel)
set_option maxRecDepth 20000 in
theorem gX4_arrive_X0_welcome : GoodIn wsX4_arrive (wsV RX4 79 RX0 yX0_welcome wsX0_welcome) := goodIn_app (goodIn_of _ (by decide +kernel)) ggX4_arrive_X0_welcome
theorem dX4_arrive_0 : decode cX4_arrive 0 = .ok (.iload_n 1, 1) := by decide +kernel
theorem dX4_arrive_1 : decode cX4_arrive 1 = .ok (.iconst 1, 1) := by decide +kernel
theorem dX4_arrive_2 : decode cX4_arrive 2 = .ok (.bipush 12, 2) := by decide +kernel
theorem dX4_arrive_4 : decode cX4_arrive 4 = .ok (.invokestatic 30, 3) := by decide +kernel
theorem dX4_arrive_7 : decode cX4_arrive 7 = .ok (.iload_n 2, 1) := by decide +kernel
theorem dX4_arrive_8 : decode cX4_arrive 8 = .ok (.bipush 10, 2) := by decide +kernel
theorem dX4_arrive_10 : decode cX4_arrive 10 = .ok (.sipush 600, 3) := by decide +kernel
theorem dX4_arrive_13 : decode cX4_arrive 13 = .ok (.invokestatic 30, 3) := by decide +kernel
theorem dX4_arrive_16 : decode cX4_arrive 16 = .ok (.aload_n 0, 1) := by decide +kernel
theorem dX4_arrive_17 : decode cX4_arrive 17 = .ok (.getfield 10, 3) := by decide +kernel
theorem dX4_arrive_20 : decode cX4_arrive 20 = .ok (.getfield 76, 3) := by decide +kernel
theorem dX4_arrive_23 : decode cX4_arrive 23 = .ok (.bipush 30, 2) := by decide +kernel
theorem dX4_arrive_25 : decode cX4_arrive 25 = .ok (.if_icmp .ge 7, 3) := by decide +kernel
theorem dX4_arrive_28 : decode cX4_arrive 28 = .ok (.iconst 1, 1) := by decide +kernel
theorem dX4_arrive_29 : decode cX4_arrive 29 = .ok (.goto 4, 3) := by decide +kernel
theorem dX4_arrive_32 : decode cX4_arrive 32 = .ok (.iconst 0, 1) := by decide +kernel
theorem dX4_arrive_33 : decode cX4_arrive 33 = .ok (.invokestatic 38, 3) := by decide +kernel
theorem dX4_arrive_36 : decode cX4_arrive 36 = .ok (.aload_n 0, 1) := by decide +kernel
theorem dX4_arrive_37 : decode cX4_arrive 37 = .ok (.getfield 10, 3) := by decide +kernel
theorem dX4_arrive_40 : decode cX4_arrive 40 = .ok (.iload_n 1, 1) := by decide +kernel
theorem dX4_arrive_41 : decode cX4_arrive 41 = .ok (.iload_n 2, 1) := by decide +kernel
theorem dX4_arrive_42 : decode cX4_arrive 42 = .ok (.invokevirtual 79, 3) := by decide +kernel
theorem dX4_arrive_45 : decode cX4_arrive 45 = .ok (.ireturn, 1) := by decide +kernel
set_option maxRecDepth 20000 in
theorem ggX4_leave_X4_checkIndex : GoodIn wsX4_leave wsX4_checkIndex := goodIn_ca (goodIn_r _ [6, 7, 8] (by decide +kernel) (by decide +kernel)) (goodIn_sub (fun _ h => List.mem_cons_of_mem _ (List.mem_append_left _ (List.mem_append_right _ h))) (by decide +kernel))
set_option maxRecDepth 20000 in
theorem gX4_leave_X4_checkIndex : GoodIn wsX4_leave (va_wsS RX4 59 yX4_checkIndex wsX4_checkIndex) := goodIn_app (goodIn_of _ (by decide +kernel)) ggX4_leave_X4_checkIndex
set_option maxRecDepth 20000 in
theorem ggX4_leave_X3_heldBy : GoodIn wsX4_leave wsX3_heldBy := goodIn_r _ [13, 14, 15, 16, 17, 18, 19, 20, 21, 92, 93, 94, 95, 96, 97, 98, 99, 100, 101, 102, 103] (by decide +kernel) (by decide +kernel)
set_option maxRecDepth 20000 in
theorem gX4_leave_X3_heldBy : GoodIn wsX4_leave (wsV RX4 83 RX3 yX3_heldBy wsX3_heldBy) := goodIn_app (goodIn_of _ (by decide +kernel)) ggX4_leave_X3_heldBy
set_option maxRecDepth 20000 in
theorem ggX4_leave_X0_isGone : GoodIn wsX4_leave wsX0_isGone := goodIn_r _ [26, 27, 28, 17, 18, 19, 20, 21, 83, 84, 85, 86, 87, 88, 89, 90, 91, 103] (by decide +kernel) (by decide +kernel)
set_option maxRecDepth 20000 in
theorem gX4_leave_X0_isGone : GoodIn wsX4_leave (wsV RX4 86 RX0 yX0_isGone wsX0_isGone) := goodIn_app (goodIn_of _ (by decide +kernel)) ggX4_leave_X0_isGone
set_option maxRecDepth 20000 in
theorem ggX4_leave_X4_checkState : GoodIn wsX4_leave wsX4_checkState := goodIn_ca (goodIn_r _ [31, 32, 33] (by decide +kernel) (by decide +kernel)) (goodIn_sub (fun _ h => List.mem_cons_of_mem _ (List.mem_append_right _ h)) (by decide +kernel))
set_option maxRecDepth 20000 in
theorem gX4_leave_X4_checkState : GoodIn wsX4_leave (va_wsS RX4 38 yX4_checkState wsX4_checkState) := goodIn_app (goodIn_of _ (by decide +kernel)) ggX4_leave_X4_checkState
set_option maxRecDepth 20000 in
theorem ggX4_leave_X0_dismiss : GoodIn wsX4_leave wsX0_dismiss := goodIn_r _ [37, 27, 38, 39, 40, 41, 42, 19, 43, 21, 28, 17, 18, 20, 44, 45, 46, 25, 47, 48, 49, 50, 51, 52, 53, 54, 55, 56, 57, 58, 59, 60, 61, 62, 63, 64, 65, 66, 67, 68, 69, 70, 71, 72, 73, 74, 75, 76, 77, 78, 79, 83, 84, 85, 86, 87, 88, 89, 90, 91, 103] (by decide +kernel) (by decide +kernel)
set_option maxRecDepth 20000 in
theorem gX4_leave_X0_dismiss : GoodIn wsX4_leave (wsV RX4 90 RX0 yX0_dismiss wsX0_dismiss) := goodIn_app (goodIn_of _ (by decide +kernel)) ggX4_leave_X0_dismiss
theorem dX4_leave_0 : decode cX4_leave 0 = .ok (.iload_n 1, 1) := by decide +kernel
theorem dX4_leave_1 : decode cX4_leave 1 = .ok (.aload_n 0, 1) := by decide +kernel
theorem dX4_leave_2 : decode cX4_leave 2 = .ok (.getfield 10, 3) := by decide +kernel
theorem dX4_leave_5 : decode cX4_leave 5 = .ok (.getfield 76, 3) := by decide +kernel
theorem dX4_leave_8 : decode cX4_leave 8 = .ok (.invokestatic 59, 3) := by decide +kernel
theorem dX4_leave_11 : decode cX4_leave 11 = .ok (.aload_n 0, 1) := by decide +kernel
theorem dX4_leave_12 : decode cX4_leave 12 = .ok (.getfield 19, 3) := by decide +kernel
theorem dX4_leave_15 : decode cX4_leave 15 = .ok (.iload_n 1, 1) := by decide +kernel
theorem dX4_leave_16 : decode cX4_leave 16 = .ok (.invokevirtual 83, 3) := by decide +kernel
theorem dX4_leave_19 : decode cX4_leave 19 = .ok (.iconst (-1), 1) := by decide +kernel
theorem dX4_leave_20 : decode cX4_leave 20 = .ok (.if_icmp .ne 18, 3) := by decide +kernel
theorem dX4_leave_23 : decode cX4_leave 23 = .ok (.aload_n 0, 1) := by decide +kernel
theorem dX4_leave_24 : decode cX4_leave 24 = .ok (.getfield 10, 3) := by decide +kernel
theorem dX4_leave_27 : decode cX4_leave 27 = .ok (.iload_n 1, 1) := by decide +kernel
theorem dX4_leave_28 : decode cX4_leave 28 = .ok (.invokevirtual 86, 3) := by decide +kernel
theorem dX4_leave_31 : decode cX4_leave 31 = .ok (.ifCond .ne 7, 3) := by decide +kernel
theorem dX4_leave_34 : decode cX4_leave 34 = .ok (.iconst 1, 1) := by decide +kernel
theorem dX4_leave_35 : decode cX4_leave 35 = .ok (.goto 4, 3) := by decide +kernel
theorem dX4_leave_38 : decode cX4_leave 38 = .ok (.iconst 0, 1) := by decide +kernel
theorem dX4_leave_39 : decode cX4_leave 39 = .ok (.invokestatic 38, 3) := by decide +kernel
theorem dX4_leave_42 : decode cX4_leave 42 = .ok (.aload_n 0, 1) := by decide +kernel
theorem dX4_leave_43 : decode cX4_leave 43 = .ok (.getfield 10, 3) := by decide +kernel
theorem dX4_leave_46 : decode cX4_leave 46 = .ok (.iload_n 1, 1) := by decide +kernel
theorem dX4_leave_47 : decode cX4_leave 47 = .ok (.invokevirtual 90, 3) := by decide +kernel
theorem dX4_leave_50 : decode cX4_leave 50 = .ok (.ireturn, 1) := by decide +kernel
set_option maxRecDepth 20000 in
theorem ggX4_tableOf_X4_checkIndex : GoodIn wsX4_tableOf wsX4_checkIndex := goodIn_ca (goodIn_r _ [5, 6, 7] (by decide +kernel) (by decide +kernel)) (goodIn_sub (fun _ h => List.mem_cons_of_mem _ (List.mem_append_right _ h)) (by decide +kernel))
set_option maxRecDepth 20000 in
theorem gX4_tableOf_X4_checkIndex : GoodIn wsX4_tableOf (va_wsS RX4 59 yX4_checkIndex wsX4_checkIndex) := goodIn_app (goodIn_of _ (by decide +kernel)) ggX4_tableOf_X4_checkIndex
set_option maxRecDepth 20000 in
theorem ggX4_tableOf_X0_firstTable : GoodIn wsX4_tableOf wsX0_firstTable := goodIn_r _ [12, 13, 14, 15, 16, 17, 18, 19, 20, 24, 25, 26, 27, 28, 29, 30, 31, 32, 33] (by decide +kernel) (by decide +kernel)
set_option maxRecDepth 20000 in
theorem gX4_tableOf_X0_firstTable : GoodIn wsX4_tableOf (wsV RX4 93 RX0 yX0_firstTable wsX0_firstTable) := goodIn_app (goodIn_of _ (by decide +kernel)) ggX4_tableOf_X0_firstTable
theorem dX4_tableOf_0 : decode cX4_tableOf 0 = .ok (.iload_n 1, 1) := by decide +kernel
theorem dX4_tableOf_1 : decode cX4_tableOf 1 = .ok (.aload_n 0, 1) := by decide +kernel
theorem dX4_tableOf_2 : decode cX4_tableOf 2 = .ok (.getfield 10, 3) := by decide +kernel
theorem dX4_tableOf_5 : decode cX4_tableOf 5 = .ok (.getfield 76, 3) := by decide +kernel
theorem dX4_tableOf_8 : decode cX4_tableOf 8 = .ok (.invokestatic 59, 3) := by decide +kernel
theorem dX4_tableOf_11 : decode cX4_tableOf 11 = .ok (.aload_n 0, 1) := by decide +kernel
theorem dX4_tableOf_12 : decode cX4_tableOf 12 = .ok (.getfield 10, 3) := by decide +kernel
theorem dX4_tableOf_15 : decode cX4_tableOf 15 = .ok (.iload_n 1, 1) := by decide +kernel
theorem dX4_tableOf_16 : decode cX4_tableOf 16 = .ok (.invokevirtual 93, 3) := by decide +kernel
theorem dX4_tableOf_19 : decode cX4_tableOf 19 = .ok (.ireturn, 1) := by decide +kernel
set_option maxRecDepth 20000 in
theorem ggX4_tablesOf_X4_checkIndex : GoodIn wsX4_tablesOf wsX4_checkIndex := goodIn_ca (goodIn_r _ [5, 6, 7] (by decide +kernel) (by decide +kernel)) (goodIn_sub (fun _ h => List.mem_cons_of_mem _ (List.mem_append_right _ h)) (by decide +kernel))
set_option maxRecDepth 20000 in
theorem gX4_tablesOf_X4_checkIndex : GoodIn wsX4_tablesOf (va_wsS RX4 59 yX4_checkIndex wsX4_checkIndex) := goodIn_app (goodIn_of _ (by decide +kernel)) ggX4_tablesOf_X4_checkIndex
set_option maxRecDepth 20000 in
theorem ggX4_tablesOf_X0_countTables : GoodIn wsX4_tablesOf wsX0_countTables := goodIn_r _ [12, 13, 14, 15, 16, 17, 18, 19, 20, 24, 25, 26, 27, 28, 29, 30, 31, 32, 33] (by decide +kernel) (by decide +kernel)
set_option maxRecDepth 20000 in
theorem gX4_tablesOf_X0_countTables : GoodIn wsX4_tablesOf (wsV RX4 96 RX0 yX0_countTables wsX0_countTables) := goodIn_app (goodIn_of _ (by decide +kernel)) ggX4_tablesOf_X0_countTables
theorem dX4_tablesOf_0 : decode cX4_tablesOf 0 = .ok (.iload_n 1, 1) := by decide +kernel
theorem dX4_tablesOf_1 : decode cX4_tablesOf 1 = .ok (.aload_n 0, 1) := by decide +kernel
theorem dX4_tablesOf_2 : decode cX4_tablesOf 2 = .ok (.getfield 10, 3) := by decide +kernel
theorem dX4_tablesOf_5 : decode cX4_tablesOf 5 = .ok (.getfield 76, 3) := by decide +kernel
theorem dX4_tablesOf_8 : decode cX4_tablesOf 8 = .ok (.invokestatic 59, 3) := by decide +kernel
theorem dX4_tablesOf_11 : decode cX4_tablesOf 11 = .ok (.aload_n 0, 1) := by decide +kernel
theorem dX4_tablesOf_12 : decode cX4_tablesOf 12 = .ok (.getfield 10, 3) := by decide +kernel
theorem dX4_tablesOf_15 : decode cX4_tablesOf 15 = .ok (.iload_n 1, 1) := by decide +kernel
theorem dX4_tablesOf_16 : decode cX4_tablesOf 16 = .ok (.invokevirtual 96, 3) := by decide +kernel
theorem dX4_tablesOf_19 : decode cX4_tablesOf 19 = .ok (.ireturn, 1) := by decide +kernel
set_option maxRecDepth 20000 in
theorem ggX4_waiting_X0_countWaiting : GoodIn wsX4_waiting wsX0_countWaiting := goodIn_r _ [6, 7, 8, 9, 10, 11, 12, 13, 14, 18, 19, 20, 21, 22, 23, 24, 25, 26, 27] (by decide +kernel) (by decide +kernel)
set_option maxRecDepth 20000 in
theorem gX4_waiting_X0_countWaiting : GoodIn wsX4_waiting (wsV RX4 99 RX0 yX0_countWaiting wsX0_countWaiting) := goodIn_app (goodIn_of _ (by decide +kernel)) ggX4_waiting_X0_countWaiting
theorem dX4_waiting_0 : decode cX4_waiting 0 = .ok (.aload_n 0, 1) := by decide +kernel
theorem dX4_waiting_1 : decode cX4_waiting 1 = .ok (.getfield 10, 3) := by decide +kernel
theorem dX4_waiting_4 : decode cX4_waiting 4 = .ok (.invokevirtual 99, 3) := by decide +kernel
theorem dX4_waiting_7 : decode cX4_waiting 7 = .ok (.ireturn, 1) := by decide +kernel
set_option maxRecDepth 20000 in
theorem ggX4_waste_X4_checkRange : GoodIn wsX4_waste wsX4_checkRange := goodIn_ca (goodIn_r _ [5, 6, 7] (by decide +kernel) (by decide +kernel)) (goodIn_sub (fun _ h => List.mem_cons_of_mem _ (List.mem_append_right _ h)) (by decide +kernel))
set_option maxRecDepth 20000 in
theorem gX4_waste_X4_checkRange : GoodIn wsX4_waste (va_wsS RX4 30 yX4_checkRange wsX4_checkRange) := goodIn_app (goodIn_of _ (by decide +kernel)) ggX4_waste_X4_checkRange
set_option maxRecDepth 20000 in
theorem ggX4_waste_X0_leastWaste : GoodIn wsX4_waste wsX0_leastWaste := goodIn_r _ [12, 13, 14, 15, 16, 11, 17, 18, 19, 20, 21, 22, 23, 24, 25, 26, 27, 28, 29, 30, 31, 32, 33, 34, 35, 39, 40, 41, 42, 43, 44, 45, 46, 47, 48] (by decide +kernel) (by decide +kernel)
set_option maxRecDepth 20000 in
theorem gX4_waste_X0_leastWaste : GoodIn wsX4_waste (wsV RX4 103 RX0 yX0_leastWaste wsX0_leastWaste) := goodIn_app (goodIn_of _ (by decide +kernel)) ggX4_waste_X0_leastWaste
theorem dX4_waste_0 : decode cX4_waste 0 = .ok (.iload_n 1, 1) := by decide +kernel
theorem dX4_waste_1 : decode cX4_waste 1 = .ok (.iconst 1, 1) := by decide +kernel
theorem dX4_waste_2 : decode cX4_waste 2 = .ok (.bipush 12, 2) := by decide +kernel
theorem dX4_waste_4 : decode cX4_waste 4 = .ok (.invokestatic 30, 3) := by decide +kernel
theorem dX4_waste_7 : decode cX4_waste 7 = .ok (.aload_n 0, 1) := by decide +kernel
theorem dX4_waste_8 : decode cX4_waste 8 = .ok (.getfield 10, 3) := by decide +kernel
theorem dX4_waste_11 : decode cX4_waste 11 = .ok (.iload_n 1, 1) := by decide +kernel
theorem dX4_waste_12 : decode cX4_waste 12 = .ok (.invokevirtual 103, 3) := by decide +kernel
theorem dX4_waste_15 : decode cX4_waste 15 = .ok (.ireturn, 1) := by decide +kernel
set_option maxRecDepth 20000 in
theorem ggX4_wasteByAll_X4_checkRange : GoodIn wsX4_wasteByAll wsX4_checkRange := goodIn_ca (goodIn_r _ [5, 6, 7] (by decide +kernel) (by decide +kernel)) (goodIn_sub (fun _ h => List.mem_cons_of_mem _ (List.mem_append_right _ h)) (by decide +kernel))
set_option maxRecDepth 20000 in
theorem gX4_wasteByAll_X4_checkRange : GoodIn wsX4_wasteByAll (va_wsS RX4 30 yX4_checkRange wsX4_checkRange) := goodIn_app (goodIn_of _ (by decide +kernel)) ggX4_wasteByAll_X4_checkRange
set_option maxRecDepth 20000 in
theorem ggX4_wasteByAll_X0_leastWasteOfSets : GoodIn wsX4_wasteByAll wsX0_leastWasteOfSets := goodIn_r _ [12, 13, 14, 15, 16, 11, 17, 18, 19, 20, 4, 21, 22, 23, 24, 25, 26, 27, 28, 29, 30, 31, 32, 33, 34, 35, 36, 37, 41, 42, 43, 44, 45, 46, 47, 48, 49, 50] (by decide +kernel) (by decide +kernel)
set_option maxRecDepth 20000 in
theorem gX4_wasteByAll_X0_leastWasteOfSets : GoodIn wsX4_wasteByAll (wsV RX4 106 RX0 yX0_leastWasteOfSets wsX0_leastWasteOfSets) := goodIn_app (goodIn_of _ (by decide +kernel)) ggX4_wasteByAll_X0_leastWasteOfSets
theorem dX4_wasteByAll_0 : decode cX4_wasteByAll 0 = .ok (.iload_n 1, 1) := by decide +kernel
theorem dX4_wasteByAll_1 : decode cX4_wasteByAll 1 = .ok (.iconst 1, 1) := by decide +kernel
theorem dX4_wasteByAll_2 : decode cX4_wasteByAll 2 = .ok (.bipush 12, 2) := by decide +kernel
theorem dX4_wasteByAll_4 : decode cX4_wasteByAll 4 = .ok (.invokestatic 30, 3) := by decide +kernel
theorem dX4_wasteByAll_7 : decode cX4_wasteByAll 7 = .ok (.aload_n 0, 1) := by decide +kernel
theorem dX4_wasteByAll_8 : decode cX4_wasteByAll 8 = .ok (.getfield 10, 3) := by decide +kernel
theorem dX4_wasteByAll_11 : decode cX4_wasteByAll 11 = .ok (.iload_n 1, 1) := by decide +kernel
theorem dX4_wasteByAll_12 : decode cX4_wasteByAll 12 = .ok (.invokevirtual 106, 3) := by decide +kernel
theorem dX4_wasteByAll_15 : decode cX4_wasteByAll 15 = .ok (.ireturn, 1) := by decide +kernel
set_option maxRecDepth 20000 in
theorem ggX4_left_X4_checkIndex : GoodIn wsX4_left wsX4_checkIndex := goodIn_ca (goodIn_r _ [5, 6, 7] (by decide +kernel) (by decide +kernel)) (goodIn_sub (fun _ h => List.mem_cons_of_mem _ (List.mem_append_left _ (List.mem_append_right _ h))) (by decide +kernel))
set_option maxRecDepth 20000 in
theorem gX4_left_X4_checkIndex : GoodIn wsX4_left (va_wsS RX4 59 yX4_checkIndex wsX4_checkIndex) := goodIn_app (goodIn_of _ (by decide +kernel)) ggX4_left_X4_checkIndex
set_option maxRecDepth 20000 in
theorem ggX4_left_X0_isSeated : GoodIn wsX4_left wsX0_isSeated := goodIn_r _ [12, 13, 14, 15, 16, 17, 18, 19, 38, 39, 40, 41, 42, 43, 44, 45, 46, 47] (by decide +kernel) (by decide +kernel)
set_option maxRecDepth 20000 in
theorem gX4_left_X0_isSeated : GoodIn wsX4_left (wsV RX4 109 RX0 yX0_isSeated wsX0_isSeated) := goodIn_app (goodIn_of _ (by decide +kernel)) ggX4_left_X0_isSeated
set_option maxRecDepth 20000 in
theorem ggX4_left_X4_checkState : GoodIn wsX4_left wsX4_checkState := goodIn_ca (goodIn_r _ [22, 23, 24] (by decide +kernel) (by decide +kernel)) (goodIn_sub (fun _ h => List.mem_cons_of_mem _ (List.mem_append_right _ h)) (by decide +kernel))
set_option maxRecDepth 20000 in
theorem gX4_left_X4_checkState : GoodIn wsX4_left (va_wsS RX4 38 yX4_checkState wsX4_checkState) := goodIn_app (goodIn_of _ (by decide +kernel)) ggX4_left_X4_checkState
set_option maxRecDepth 20000 in
theorem ggX4_left_X0_minutesLeft : GoodIn wsX4_left wsX0_minutesLeft := goodIn_r _ [28, 29, 30, 31, 32, 33, 34, 14, 15, 16, 17, 18, 19, 38, 39, 40, 41, 42, 43, 44, 45, 46, 47] (by decide +kernel) (by decide +kernel)
set_option maxRecDepth 20000 in
theorem gX4_left_X0_minutesLeft : GoodIn wsX4_left (wsV RX4 112 RX0 yX0_minutesLeft wsX0_minutesLeft) := goodIn_app (goodIn_of _ (by decide +kernel)) ggX4_left_X0_minutesLeft
theorem dX4_left_0 : decode cX4_left 0 = .ok (.iload_n 1, 1) := by decide +kernel
theorem dX4_left_1 : decode cX4_left 1 = .ok (.aload_n 0, 1) := by decide +kernel
theorem dX4_left_2 : decode cX4_left 2 = .ok (.getfield 10, 3) := by decide +kernel
theorem dX4_left_5 : decode cX4_left 5 = .ok (.getfield 76, 3) := by decide +kernel
theorem dX4_left_8 : decode cX4_left 8 = .ok (.invokestatic 59, 3) := by decide +kernel
theorem dX4_left_11 : decode cX4_left 11 = .ok (.aload_n 0, 1) := by decide +kernel
theorem dX4_left_12 : decode cX4_left 12 = .ok (.getfield 10, 3) := by decide +kernel
theorem dX4_left_15 : decode cX4_left 15 = .ok (.iload_n 1, 1) := by decide +kernel
theorem dX4_left_16 : decode cX4_left 16 = .ok (.invokevirtual 109, 3) := by decide +kernel
theorem dX4_left_19 : decode cX4_left 19 = .ok (.invokestatic 38, 3) := by decide +kernel
theorem dX4_left_22 : decode cX4_left 22 = .ok (.aload_n 0, 1) := by decide +kernel
theorem dX4_left_23 : decode cX4_left 23 = .ok (.getfield 10, 3) := by decide +kernel
theorem dX4_left_26 : decode cX4_left 26 = .ok (.iload_n 1, 1) := by decide +kernel
theorem dX4_left_27 : decode cX4_left 27 = .ok (.invokevirtual 112, 3) := by decide +kernel
theorem dX4_left_30 : decode cX4_left 30 = .ok (.ireturn, 1) := by decide +kernel
set_option maxRecDepth 20000 in
theorem ggX4_offers_X4_checkIndex : GoodIn wsX4_offers wsX4_checkIndex := goodIn_ca (goodIn_r _ [5, 6, 7] (by decide +kernel) (by decide +kernel)) (goodIn_sub (fun _ h => List.mem_cons_of_mem _ (List.mem_append_right _ h)) (by decide +kernel))
set_option maxRecDepth 20000 in
theorem gX4_offers_X4_checkIndex : GoodIn wsX4_offers (va_wsS RX4 59 yX4_checkIndex wsX4_checkIndex) := goodIn_app (goodIn_of _ (by decide +kernel)) ggX4_offers_X4_checkIndex
set_option maxRecDepth 20000 in
theorem ggX4_offers_X4_offeredTitles : GoodIn wsX4_offers wsX4_offeredTitles := goodIn_r _ [11, 12, 13, 14, 15, 4, 16, 1, 17, 18, 19, 20, 21, 22, 23, 24, 25, 26, 27, 28, 29, 30, 31, 32, 33, 34, 35, 36, 37, 38, 39, 40, 41, 42, 43, 44, 45, 46, 47, 48, 49, 50, 51, 52, 53, 54, 55, 56, 57, 58, 59, 60, 61, 62, 63, 64, 65, 66, 67, 68, 69, 70, 71, 72, 73, 74, 75, 76, 77, 78, 79, 80, 81, 82, 83, 84, 85, 86, 87, 88, 89, 90, 91, 92, 94, 95, 96, 106, 107, 108, 109, 110, 111, 112, 113, 114, 115, 116, 97, 98, 99, 100, 101, 102, 103, 104, 105, 117] (by decide +kernel) (by decide +kernel)
set_option maxRecDepth 20000 in
theorem gX4_offers_X4_offeredTitles : GoodIn wsX4_offers (wsV RX4 115 RX4 yX4_offeredTitles wsX4_offeredTitles) := goodIn_app (goodIn_of _ (by decide +kernel)) ggX4_offers_X4_offeredTitles
set_option maxRecDepth 20000 in
theorem ggX4_offers_J6_bitCount_0f7a4 : GoodIn wsX4_offers wsJ6_bitCount_0f7a4 := goodIn_r _ [89, 90, 91, 92] (by decide +kernel) (by decide +kernel)
set_option maxRecDepth 20000 in
theorem gX4_offers_J6_bitCount_0f7a4 : GoodIn wsX4_offers (va_wsS RX4 118 yJ6_bitCount_0f7a4 wsJ6_bitCount_0f7a4) := goodIn_app (goodIn_of _ (by decide +kernel)) ggX4_offers_J6_bitCount_0f7a4
theorem dX4_offers_0 : decode cX4_offers 0 = .ok (.iload_n 1, 1) := by decide +kernel
theorem dX4_offers_1 : decode cX4_offers 1 = .ok (.aload_n 0, 1) := by decide +kernel
theorem dX4_offers_2 : decode cX4_offers 2 = .ok (.getfield 10, 3) := by decide +kernel
theorem dX4_offers_5 : decode cX4_offers 5 = .ok (.getfield 76, 3) := by decide +kernel
theorem dX4_offers_8 : decode cX4_offers 8 = .ok (.invokestatic 59, 3) := by decide +kernel
theorem dX4_offers_11 : decode cX4_offers 11 = .ok (.aload_n 0, 1) := by decide +kernel
theorem dX4_offers_12 : decode cX4_offers 12 = .ok (.iload_n 1, 1) := by decide +kernel
theorem dX4_offers_13 : decode cX4_offers 13 = .ok (.invokevirtual 115, 3) := by decide +kernel
theorem dX4_offers_16 : decode cX4_offers 16 = .ok (.invokestatic 118, 3) := by decide +kernel
theorem dX4_offers_19 : decode cX4_offers 19 = .ok (.ireturn, 1) := by decide +kernel
set_option maxRecDepth 20000 in
theorem ggX4_offerAt_X4_checkIndex : GoodIn wsX4_offerAt wsX4_checkIndex := goodIn_ca (goodIn_r _ [6, 7, 8] (by decide +kernel) (by decide +kernel)) (goodIn_sub (fun _ h => List.mem_cons_of_mem _ (List.mem_append_right _ h)) (by decide +kernel))
set_option maxRecDepth 20000 in
theorem gX4_offerAt_X4_checkIndex : GoodIn wsX4_offerAt (va_wsS RX4 59 yX4_checkIndex wsX4_checkIndex) := goodIn_app (goodIn_of _ (by decide +kernel)) ggX4_offerAt_X4_checkIndex
set_option maxRecDepth 20000 in
theorem ggX4_offerAt_X4_offeredTitles : GoodIn wsX4_offerAt wsX4_offeredTitles := goodIn_r _ [12, 2, 13, 14, 15, 5, 16, 1, 17, 18, 19, 20, 21, 22, 23, 24, 25, 26, 27, 28, 29, 30, 31, 32, 33, 34, 35, 36, 37, 38, 39, 40, 41, 42, 43, 44, 45, 46, 47, 48, 49, 50, 51, 52, 53, 54, 55, 56, 57, 58, 59, 60, 61, 62, 63, 64, 65, 66, 67, 68, 69, 70, 71, 72, 73, 74, 75, 76, 77, 78, 79, 80, 81, 82, 83, 84, 85, 86, 87, 88, 89, 90, 91, 92, 105, 106, 107, 117, 118, 119, 120, 121, 122, 123, 124, 125, 126, 127, 108, 109, 110, 111, 112, 113, 114, 115, 116, 128] (by decide +kernel) (by decide +kernel)
set_option maxRecDepth 20000 in
theorem gX4_offerAt_X4_offeredTitles : GoodIn wsX4_offerAt (wsV RX4 115 RX4 yX4_offeredTitles wsX4_offeredTitles) := goodIn_app (goodIn_of _ (by decide +kernel)) ggX4_offerAt_X4_offeredTitles
set_option maxRecDepth 20000 in
theorem ggX4_offerAt_J6_bitCount_0f7a4 : GoodIn wsX4_offerAt wsJ6_bitCount_0f7a4 := goodIn_r _ [89, 90, 91, 92] (by decide +kernel) (by decide +kernel)
set_option maxRecDepth 20000 in
theorem gX4_offerAt_J6_bitCount_0f7a4 : GoodIn wsX4_offerAt (va_wsS RX4 118 yJ6_bitCount_0f7a4 wsJ6_bitCount_0f7a4) := goodIn_app (goodIn_of _ (by decide +kernel)) ggX4_offerAt_J6_bitCount_0f7a4
set_option maxRecDepth 20000 in
theorem ggX4_offerAt_X3_titleInPlace : GoodIn wsX4_offerAt wsX3_titleInPlace := goodIn_r _ [97, 98, 99, 5, 100, 101, 102, 103, 32, 104, 54, 36, 24, 25, 26, 27, 28, 117, 118, 119, 120, 121, 122, 123, 124, 125, 126, 127, 128] (by decide +kernel) (by decide +kernel)
set_option maxRecDepth 20000 in
theorem gX4_offerAt_X3_titleInPlace : GoodIn wsX4_offerAt (wsV RX4 123 RX3 yX3_titleInPlace wsX3_titleInPlace) := goodIn_app (goodIn_of _ (by decide +kernel)) ggX4_offerAt_X3_titleInPlace
theorem dX4_offerAt_0 : decode cX4_offerAt 0 = .ok (.iload_n 1, 1) := by decide +kernel
theorem dX4_offerAt_1 : decode cX4_offerAt 1 = .ok (.aload_n 0, 1) := by decide +kernel
theorem dX4_offerAt_2 : decode cX4_offerAt 2 = .ok (.getfield 10, 3) := by decide +kernel
theorem dX4_offerAt_5 : decode cX4_offerAt 5 = .ok (.getfield 76, 3) := by decide +kernel
theorem dX4_offerAt_8 : decode cX4_offerAt 8 = .ok (.invokestatic 59, 3) := by decide +kernel
theorem dX4_offerAt_11 : decode cX4_offerAt 11 = .ok (.aload_n 0, 1) := by decide +kernel
theorem dX4_offerAt_12 : decode cX4_offerAt 12 = .ok (.iload_n 1, 1) := by decide +kernel
theorem dX4_offerAt_13 : decode cX4_offerAt 13 = .ok (.invokevirtual 115, 3) := by decide +kernel
theorem dX4_offerAt_16 : decode cX4_offerAt 16 = .ok (.istore_n 3, 1) := by decide +kernel
theorem dX4_offerAt_17 : decode cX4_offerAt 17 = .ok (.iload_n 2, 1) := by decide +kernel
theorem dX4_offerAt_18 : decode cX4_offerAt 18 = .ok (.iload_n 3, 1) := by decide +kernel
theorem dX4_offerAt_19 : decode cX4_offerAt 19 = .ok (.invokestatic 118, 3) := by decide +kernel
theorem dX4_offerAt_22 : decode cX4_offerAt 22 = .ok (.invokestatic 59, 3) := by decide +kernel
theorem dX4_offerAt_25 : decode cX4_offerAt 25 = .ok (.aload_n 0, 1) := by decide +kernel
theorem dX4_offerAt_26 : decode cX4_offerAt 26 = .ok (.getfield 19, 3) := by decide +kernel
theorem dX4_offerAt_29 : decode cX4_offerAt 29 = .ok (.iload_n 3, 1) := by decide +kernel
theorem dX4_offerAt_30 : decode cX4_offerAt 30 = .ok (.iload_n 2, 1) := by decide +kernel
theorem dX4_offerAt_31 : decode cX4_offerAt 31 = .ok (.invokevirtual 123, 3) := by decide +kernel
theorem dX4_offerAt_34 : decode cX4_offerAt 34 = .ok (.ireturn, 1) := by decide +kernel
set_option maxRecDepth 20000 in
theorem ggX4_serve_X4_checkIndex : GoodIn wsX4_serve wsX4_checkIndex := goodIn_ca (goodIn_r _ [6, 7, 8] (by decide +kernel) (by decide +kernel)) (goodIn_sub (fun _ h => List.mem_cons_of_mem _ (List.mem_append_left _ (List.mem_append_right _ h))) (by decide +kernel))
set_option maxRecDepth 20000 in
theorem gX4_serve_X4_checkIndex : GoodIn wsX4_serve (va_wsS RX4 59 yX4_checkIndex wsX4_checkIndex) := goodIn_app (goodIn_of _ (by decide +kernel)) ggX4_serve_X4_checkIndex
set_option maxRecDepth 20000 in
theorem ggX4_serve_X4_isOffered : GoodIn wsX4_serve wsX4_isOffered := goodIn_r _ [12, 1, 2, 13, 14, 15, 16, 17, 18, 19, 20, 21, 22, 23, 24, 25, 26, 27, 28, 29, 30, 31, 32, 33, 34, 35, 36, 37, 38, 39, 40, 41, 42, 43, 44, 45, 46, 47, 48, 49, 50, 51, 52, 53, 54, 55, 56, 57, 58, 59, 60, 61, 62, 63, 64, 65, 66, 67, 68, 69, 70, 71, 72, 73, 74, 75, 76, 77, 78, 79, 80, 81, 82, 83, 84, 85, 86, 87, 88, 111, 112, 113, 114, 115, 116, 117, 118, 119, 120, 121, 122, 134, 123, 124, 125, 126, 127, 128, 129, 130, 131, 132, 133] (by decide +kernel) (by decide +kernel)
set_option maxRecDepth 20000 in
theorem gX4_serve_X4_isOffered : GoodIn wsX4_serve (wsV RX4 126 RX4 yX4_isOffered wsX4_isOffered) := goodIn_app (goodIn_of _ (by decide +kernel)) ggX4_serve_X4_isOffered
set_option maxRecDepth 20000 in
theorem ggX4_serve_X4_checkState : GoodIn wsX4_serve wsX4_checkState := goodIn_ca (goodIn_r _ [91, 92, 93] (by decide +kernel) (by decide +kernel)) (goodIn_sub (fun _ h => List.mem_cons_of_mem _ (List.mem_append_right _ h)) (by decide +kernel))
set_option maxRecDepth 20000 in
theorem gX4_serve_X4_checkState : GoodIn wsX4_serve (va_wsS RX4 38 yX4_checkState wsX4_checkState) := goodIn_app (goodIn_of _ (by decide +kernel)) ggX4_serve_X4_checkState
set_option maxRecDepth 20000 in
theorem ggX4_serve_X3_bestCopy : GoodIn wsX4_serve wsX3_bestCopy := goodIn_r _ [54, 30, 55, 32, 20, 21, 22, 23, 24, 56, 57, 58, 28, 59, 60, 61, 42, 62, 63, 64, 65, 66, 31, 67, 68, 69, 70, 71, 72, 73, 74, 75, 76, 77, 78, 79, 80, 81, 82, 83, 84, 85, 86, 87, 88, 123, 124, 125, 126, 127, 128, 129, 130, 131, 132, 133, 134] (by decide +kernel) (by decide +kernel)
set_option maxRecDepth 20000 in
theorem gX4_serve_X3_bestCopy : GoodIn wsX4_serve (wsV RX4 130 RX3 yX3_bestCopy wsX3_bestCopy) := goodIn_app (goodIn_of _ (by decide +kernel)) ggX4_serve_X3_bestCopy
set_option maxRecDepth 20000 in
theorem ggX4_serve_X3_handOut : GoodIn wsX4_serve wsX3_handOut := goodIn_r _ [97, 30, 60, 61, 42, 62, 31, 68, 69, 70, 28, 71, 72, 55, 73, 32, 20, 21, 22, 23, 24, 78, 79, 80, 81, 74, 75, 76, 77, 67, 98, 99, 100, 101, 102, 103, 104, 105, 106, 107, 108, 109, 110, 123, 124, 125, 126, 127, 128, 129, 130, 131, 132, 133, 134] (by decide +kernel) (by decide +kernel)
set_option maxRecDepth 20000 in
theorem gX4_serve_X3_handOut : GoodIn wsX4_serve (wsV RX4 133 RX3 yX3_handOut wsX3_handOut) := goodIn_app (goodIn_of _ (by decide +kernel)) ggX4_serve_X3_handOut
theorem dX4_serve_0 : decode cX4_serve 0 = .ok (.iload_n 1, 1) := by decide +kernel
theorem dX4_serve_1 : decode cX4_serve 1 = .ok (.aload_n 0, 1) := by decide +kernel
theorem dX4_serve_2 : decode cX4_serve 2 = .ok (.getfield 10, 3) := by decide +kernel
theorem dX4_serve_5 : decode cX4_serve 5 = .ok (.getfield 76, 3) := by decide +kernel
theorem dX4_serve_8 : decode cX4_serve 8 = .ok (.invokestatic 59, 3) := by decide +kernel
theorem dX4_serve_11 : decode cX4_serve 11 = .ok (.iload_n 2, 1) := by decide +kernel
theorem dX4_serve_12 : decode cX4_serve 12 = .ok (.aload_n 0, 1) := by decide +kernel
theorem dX4_serve_13 : decode cX4_serve 13 = .ok (.getfield 19, 3) := by decide +kernel
theorem dX4_serve_16 : decode cX4_serve 16 = .ok (.getfield 49, 3) := by decide +kernel
theorem dX4_serve_19 : decode cX4_serve 19 = .ok (.invokestatic 59, 3) := by decide +kernel
theorem dX4_serve_22 : decode cX4_serve 22 = .ok (.aload_n 0, 1) := by decide +kernel
theorem dX4_serve_23 : decode cX4_serve 23 = .ok (.iload_n 1, 1) := by decide +kernel
theorem dX4_serve_24 : decode cX4_serve 24 = .ok (.iload_n 2, 1) := by decide +kernel
theorem dX4_serve_25 : decode cX4_serve 25 = .ok (.invokevirtual 126, 3) := by decide +kernel
theorem dX4_serve_28 : decode cX4_serve 28 = .ok (.invokestatic 38, 3) := by decide +kernel
theorem dX4_serve_31 : decode cX4_serve 31 = .ok (.aload_n 0, 1) := by decide +kernel
theorem dX4_serve_32 : decode cX4_serve 32 = .ok (.getfield 19, 3) := by decide +kernel
theorem dX4_serve_35 : decode cX4_serve 35 = .ok (.iload_n 2, 1) := by decide +kernel
theorem dX4_serve_36 : decode cX4_serve 36 = .ok (.invokevirtual 130, 3) := by decide +kernel
theorem dX4_serve_39 : decode cX4_serve 39 = .ok (.istore_n 3, 1) := by decide +kernel
theorem dX4_serve_40 : decode cX4_serve 40 = .ok (.aload_n 0, 1) := by decide +kernel
theorem dX4_serve_41 : decode cX4_serve 41 = .ok (.getfield 19, 3) := by decide +kernel
theorem dX4_serve_44 : decode cX4_serve 44 = .ok (.iload_n 3, 1) := by decide +kernel
theorem dX4_serve_45 : decode cX4_serve 45 = .ok (.iload_n 1, 1) := by decide +kernel
theorem dX4_serve_46 : decode cX4_serve 46 = .ok (.invokevirtual 133, 3) := by decide +kernel
theorem dX4_serve_49 : decode cX4_serve 49 = .ok (.iload_n 3, 1) := by decide +kernel
theorem dX4_serve_50 : decode cX4_serve 50 = .ok (.ireturn, 1) := by decide +kernel
set_option maxRecDepth 20000 in
theorem ggX4_giveBack_X4_checkIndex : GoodIn wsX4_giveBack wsX4_checkIndex := goodIn_ca (goodIn_r _ [6, 7, 8] (by decide +kernel) (by decide +kernel)) (goodIn_sub (fun _ h => List.mem_cons_of_mem _ (List.mem_append_left _ (List.mem_append_left _ (List.mem_append_right _ h)))) (by decide +kernel))
set_option maxRecDepth 20000 in
theorem gX4_giveBack_X4_checkIndex : GoodIn wsX4_giveBack (va_wsS RX4 59 yX4_checkIndex wsX4_checkIndex) := goodIn_app (goodIn_of _ (by decide +kernel)) ggX4_giveBack_X4_checkIndex
set_option maxRecDepth 20000 in
theorem ggX4_giveBack_X4_checkRange : GoodIn wsX4_giveBack wsX4_checkRange := goodIn_ca (goodIn_r _ [11, 12, 13] (by decide +kernel) (by decide +kernel)) (goodIn_sub (fun _ h => List.mem_cons_of_mem _ (List.mem_append_left _ (List.mem_append_right _ h))) (by decide +kernel))
set_option maxRecDepth 20000 in
theorem gX4_giveBack_X4_checkRange : GoodIn wsX4_giveBack (va_wsS RX4 30 yX4_checkRange wsX4_checkRange) := goodIn_app (goodIn_of _ (by decide +kernel)) ggX4_giveBack_X4_checkRange
set_option maxRecDepth 20000 in
theorem ggX4_giveBack_X3_heldBy : GoodIn wsX4_giveBack wsX3_heldBy := goodIn_r _ [18, 19, 20, 21, 22, 23, 24, 25, 26, 72, 73, 74, 75, 76, 77, 78, 79, 80, 81, 82, 83] (by decide +kernel) (by decide +kernel)
set_option maxRecDepth 20000 in
theorem gX4_giveBack_X3_heldBy : GoodIn wsX4_giveBack (wsV RX4 83 RX3 yX3_heldBy wsX3_heldBy) := goodIn_app (goodIn_of _ (by decide +kernel)) ggX4_giveBack_X3_heldBy
set_option maxRecDepth 20000 in
theorem ggX4_giveBack_X3_count : GoodIn wsX4_giveBack wsX3_count := goodIn_r _ [30, 31, 21, 22, 23, 24, 25, 26, 72, 73, 74, 75, 76, 77, 78, 79, 80, 81, 82, 83] (by decide +kernel) (by decide +kernel)
set_option maxRecDepth 20000 in
theorem gX4_giveBack_X3_count : GoodIn wsX4_giveBack (wsV RX4 136 RX3 yX3_count wsX3_count) := goodIn_app (goodIn_of _ (by decide +kernel)) ggX4_giveBack_X3_count
set_option maxRecDepth 20000 in
theorem ggX4_giveBack_X4_checkState : GoodIn wsX4_giveBack wsX4_checkState := goodIn_ca (goodIn_r _ [34, 35, 36] (by decide +kernel) (by decide +kernel)) (goodIn_sub (fun _ h => List.mem_cons_of_mem _ (List.mem_append_right _ h)) (by decide +kernel))
set_option maxRecDepth 20000 in
theorem gX4_giveBack_X4_checkState : GoodIn wsX4_giveBack (va_wsS RX4 38 yX4_checkState wsX4_checkState) := goodIn_app (goodIn_of _ (by decide +kernel)) ggX4_giveBack_X4_checkState
set_option maxRecDepth 20000 in
theorem ggX4_giveBack_X3_takeBack : GoodIn wsX4_giveBack wsX3_takeBack := goodIn_r _ [40, 19, 41, 20, 42, 43, 44, 17, 45, 31, 46, 28, 29, 30, 21, 22, 23, 24, 25, 26, 47, 48, 49, 50, 51, 52, 53, 54, 55, 56, 57, 58, 59, 72, 73, 74, 75, 76, 77, 78, 79, 80, 81, 82, 83] (by decide +kernel) (by decide +kernel)
set_option maxRecDepth 20000 in
theorem gX4_giveBack_X3_takeBack : GoodIn wsX4_giveBack (wsV RX4 139 RX3 yX3_takeBack wsX3_takeBack) := goodIn_app (goodIn_of _ (by decide +kernel)) ggX4_giveBack_X3_takeBack
theorem dX4_giveBack_0 : decode cX4_giveBack 0 = .ok (.iload_n 1, 1) := by decide +kernel
theorem dX4_giveBack_1 : decode cX4_giveBack 1 = .ok (.aload_n 0, 1) := by decide +kernel
theorem dX4_giveBack_2 : decode cX4_giveBack 2 = .ok (.getfield 10, 3) := by decide +kernel
theorem dX4_giveBack_5 : decode cX4_giveBack 5 = .ok (.getfield 76, 3) := by decide +kernel
theorem dX4_giveBack_8 : decode cX4_giveBack 8 = .ok (.invokestatic 59, 3) := by decide +kernel
theorem dX4_giveBack_11 : decode cX4_giveBack 11 = .ok (.iload_n 2, 1) := by decide +kernel
theorem dX4_giveBack_12 : decode cX4_giveBack 12 = .ok (.iconst 4, 1) := by decide +kernel
theorem dX4_giveBack_13 : decode cX4_giveBack 13 = .ok (.invokestatic 59, 3) := by decide +kernel
theorem dX4_giveBack_16 : decode cX4_giveBack 16 = .ok (.iload_n 3, 1) := by decide +kernel
theorem dX4_giveBack_17 : decode cX4_giveBack 17 = .ok (.iconst 0, 1) := by decide +kernel
theorem dX4_giveBack_18 : decode cX4_giveBack 18 = .ok (.bipush 9, 2) := by decide +kernel
theorem dX4_giveBack_20 : decode cX4_giveBack 20 = .ok (.invokestatic 30, 3) := by decide +kernel
theorem dX4_giveBack_23 : decode cX4_giveBack 23 = .ok (.aload_n 0, 1) := by decide +kernel
theorem dX4_giveBack_24 : decode cX4_giveBack 24 = .ok (.getfield 19, 3) := by decide +kernel
theorem dX4_giveBack_27 : decode cX4_giveBack 27 = .ok (.iload_n 1, 1) := by decide +kernel
theorem dX4_giveBack_28 : decode cX4_giveBack 28 = .ok (.invokevirtual 83, 3) := by decide +kernel
theorem dX4_giveBack_31 : decode cX4_giveBack 31 = .ok (.istore 4, 2) := by decide +kernel
theorem dX4_giveBack_33 : decode cX4_giveBack 33 = .ok (.iload 4, 2) := by decide +kernel
theorem dX4_giveBack_35 : decode cX4_giveBack 35 = .ok (.iconst (-1), 1) := by decide +kernel
theorem dX4_giveBack_36 : decode cX4_giveBack 36 = .ok (.if_icmp .eq 21, 3) := by decide +kernel
theorem dX4_giveBack_39 : decode cX4_giveBack 39 = .ok (.aload_n 0, 1) := by decide +kernel
theorem dX4_giveBack_40 : decode cX4_giveBack 40 = .ok (.getfield 19, 3) := by decide +kernel
theorem dX4_giveBack_43 : decode cX4_giveBack 43 = .ok (.iload 4, 2) := by decide +kernel
theorem dX4_giveBack_45 : decode cX4_giveBack 45 = .ok (.iload_n 2, 1) := by decide +kernel
theorem dX4_giveBack_46 : decode cX4_giveBack 46 = .ok (.invokevirtual 136, 3) := by decide +kernel
theorem dX4_giveBack_49 : decode cX4_giveBack 49 = .ok (.iload_n 3, 1) := by decide +kernel
theorem dX4_giveBack_50 : decode cX4_giveBack 50 = .ok (.if_icmp .lt 7, 3) := by decide +kernel
theorem dX4_giveBack_53 : decode cX4_giveBack 53 = .ok (.iconst 1, 1) := by decide +kernel
theorem dX4_giveBack_54 : decode cX4_giveBack 54 = .ok (.goto 4, 3) := by decide +kernel
theorem dX4_giveBack_57 : decode cX4_giveBack 57 = .ok (.iconst 0, 1) := by decide +kernel
theorem dX4_giveBack_58 : decode cX4_giveBack 58 = .ok (.invokestatic 38, 3) := by decide +kernel
theorem dX4_giveBack_61 : decode cX4_giveBack 61 = .ok (.aload_n 0, 1) := by decide +kernel
theorem dX4_giveBack_62 : decode cX4_giveBack 62 = .ok (.getfield 19, 3) := by decide +kernel
theorem dX4_giveBack_65 : decode cX4_giveBack 65 = .ok (.iload 4, 2) := by decide +kernel
theorem dX4_giveBack_67 : decode cX4_giveBack 67 = .ok (.iload_n 2, 1) := by decide +kernel
theorem dX4_giveBack_68 : decode cX4_giveBack 68 = .ok (.iload_n 3, 1) := by decide +kernel
theorem dX4_giveBack_69 : decode cX4_giveBack 69 = .ok (.invokevirtual 139, 3) := by decide +kernel
theorem dX4_giveBack_72 : decode cX4_giveBack 72 = .ok (.ireturn, 1) := by decide +kernel
set_option maxRecDepth 20000 in
theorem ggX4_found_X4_checkIndex : GoodIn wsX4_found wsX4_checkIndex := goodIn_ca (goodIn_r _ [5, 6, 7] (by decide +kernel) (by decide +kernel)) (goodIn_sub (fun _ h => List.mem_cons_of_mem _ (List.mem_append_left _ (List.mem_append_left _ (List.mem_append_right _ h)))) (by decide +kernel))
set_option maxRecDepth 20000 in
theorem gX4_found_X4_checkIndex : GoodIn wsX4_found (va_wsS RX4 59 yX4_checkIndex wsX4_checkIndex) := goodIn_app (goodIn_of _ (by decide +kernel)) ggX4_found_X4_checkIndex
set_option maxRecDepth 20000 in
theorem ggX4_found_X4_checkRange : GoodIn wsX4_found wsX4_checkRange := goodIn_ca (goodIn_r _ [10, 11, 12] (by decide +kernel) (by decide +kernel)) (goodIn_sub (fun _ h => List.mem_cons_of_mem _ (List.mem_append_left _ (List.mem_append_right _ h))) (by decide +kernel))
set_option maxRecDepth 20000 in
theorem gX4_found_X4_checkRange : GoodIn wsX4_found (va_wsS RX4 30 yX4_checkRange wsX4_checkRange) := goodIn_app (goodIn_of _ (by decide +kernel)) ggX4_found_X4_checkRange
set_option maxRecDepth 20000 in
theorem ggX4_found_X3_place : GoodIn wsX4_found wsX3_place := goodIn_r _ [17, 18, 19, 20, 21, 22, 23, 24, 25, 54, 55, 56, 57, 58, 59, 60, 61, 62, 63, 64, 65] (by decide +kernel) (by decide +kernel)
set_option maxRecDepth 20000 in
theorem gX4_found_X3_place : GoodIn wsX4_found (wsV RX4 142 RX3 yX3_place wsX3_place) := goodIn_app (goodIn_of _ (by decide +kernel)) ggX4_found_X3_place
set_option maxRecDepth 20000 in
theorem ggX4_found_X3_lack : GoodIn wsX4_found wsX3_lack := goodIn_r _ [29, 30, 31, 32, 20, 21, 22, 23, 24, 25, 54, 55, 56, 57, 58, 59, 60, 61, 62, 63, 64, 65] (by decide +kernel) (by decide +kernel)
set_option maxRecDepth 20000 in
theorem gX4_found_X3_lack : GoodIn wsX4_found (wsV RX4 145 RX3 yX3_lack wsX3_lack) := goodIn_app (goodIn_of _ (by decide +kernel)) ggX4_found_X3_lack
set_option maxRecDepth 20000 in
theorem ggX4_found_X4_checkState : GoodIn wsX4_found wsX4_checkState := goodIn_ca (goodIn_r _ [35, 36, 37] (by decide +kernel) (by decide +kernel)) (goodIn_sub (fun _ h => List.mem_cons_of_mem _ (List.mem_append_right _ h)) (by decide +kernel))
set_option maxRecDepth 20000 in
theorem gX4_found_X4_checkState : GoodIn wsX4_found (va_wsS RX4 38 yX4_checkState wsX4_checkState) := goodIn_app (goodIn_of _ (by decide +kernel)) ggX4_found_X4_checkState
set_option maxRecDepth 20000 in
theorem ggX4_found_X3_change : GoodIn wsX4_found wsX3_change := goodIn_r _ [41, 32, 42, 43, 44, 16, 45, 20, 21, 22, 23, 24, 25, 46, 47, 48, 49, 54, 55, 56, 57, 58, 59, 60, 61, 62, 63, 64, 65] (by decide +kernel) (by decide +kernel)
set_option maxRecDepth 20000 in
theorem gX4_found_X3_change : GoodIn wsX4_found (wsV RX4 148 RX3 yX3_change wsX3_change) := goodIn_app (goodIn_of _ (by decide +kernel)) ggX4_found_X3_change
set_option maxRecDepth 20000 in
theorem ggX4_found_X3_count : GoodIn wsX4_found wsX3_count := goodIn_r _ [45, 32, 20, 21, 22, 23, 24, 25, 54, 55, 56, 57, 58, 59, 60, 61, 62, 63, 64, 65] (by decide +kernel) (by decide +kernel)
set_option maxRecDepth 20000 in
theorem gX4_found_X3_count : GoodIn wsX4_found (wsV RX4 136 RX3 yX3_count wsX3_count) := goodIn_app (goodIn_of _ (by decide +kernel)) ggX4_found_X3_count
theorem dX4_found_0 : decode cX4_found 0 = .ok (.iload_n 1, 1) := by decide +kernel
theorem dX4_found_1 : decode cX4_found 1 = .ok (.aload_n 0, 1) := by decide +kernel
theorem dX4_found_2 : decode cX4_found 2 = .ok (.getfield 19, 3) := by decide +kernel
theorem dX4_found_5 : decode cX4_found 5 = .ok (.getfield 63, 3) := by decide +kernel
theorem dX4_found_8 : decode cX4_found 8 = .ok (.invokestatic 59, 3) := by decide +kernel
theorem dX4_found_11 : decode cX4_found 11 = .ok (.iload_n 2, 1) := by decide +kernel
theorem dX4_found_12 : decode cX4_found 12 = .ok (.iconst 4, 1) := by decide +kernel
theorem dX4_found_13 : decode cX4_found 13 = .ok (.invokestatic 59, 3) := by decide +kernel
theorem dX4_found_16 : decode cX4_found 16 = .ok (.iload_n 3, 1) := by decide +kernel
theorem dX4_found_17 : decode cX4_found 17 = .ok (.iconst 1, 1) := by decide +kernel
theorem dX4_found_18 : decode cX4_found 18 = .ok (.bipush 9, 2) := by decide +kernel
theorem dX4_found_20 : decode cX4_found 20 = .ok (.invokestatic 30, 3) := by decide +kernel
theorem dX4_found_23 : decode cX4_found 23 = .ok (.aload_n 0, 1) := by decide +kernel
theorem dX4_found_24 : decode cX4_found 24 = .ok (.getfield 19, 3) := by decide +kernel
theorem dX4_found_27 : decode cX4_found 27 = .ok (.iload_n 1, 1) := by decide +kernel
theorem dX4_found_28 : decode cX4_found 28 = .ok (.invokevirtual 142, 3) := by decide +kernel
theorem dX4_found_31 : decode cX4_found 31 = .ok (.ifCond .ne 20, 3) := by decide +kernel
theorem dX4_found_34 : decode cX4_found 34 = .ok (.aload_n 0, 1) := by decide +kernel
theorem dX4_found_35 : decode cX4_found 35 = .ok (.getfield 19, 3) := by decide +kernel
theorem dX4_found_38 : decode cX4_found 38 = .ok (.iload_n 1, 1) := by decide +kernel
theorem dX4_found_39 : decode cX4_found 39 = .ok (.iload_n 2, 1) := by decide +kernel
theorem dX4_found_40 : decode cX4_found 40 = .ok (.invokevirtual 145, 3) := by decide +kernel
theorem dX4_found_43 : decode cX4_found 43 = .ok (.iload_n 3, 1) := by decide +kernel
theorem dX4_found_44 : decode cX4_found 44 = .ok (.if_icmp .lt 7, 3) := by decide +kernel
theorem dX4_found_47 : decode cX4_found 47 = .ok (.iconst 1, 1) := by decide +kernel
theorem dX4_found_48 : decode cX4_found 48 = .ok (.goto 4, 3) := by decide +kernel
theorem dX4_found_51 : decode cX4_found 51 = .ok (.iconst 0, 1) := by decide +kernel
theorem dX4_found_52 : decode cX4_found 52 = .ok (.invokestatic 38, 3) := by decide +kernel
theorem dX4_found_55 : decode cX4_found 55 = .ok (.aload_n 0, 1) := by decide +kernel
theorem dX4_found_56 : decode cX4_found 56 = .ok (.getfield 19, 3) := by decide +kernel
theorem dX4_found_59 : decode cX4_found 59 = .ok (.iload_n 1, 1) := by decide +kernel
theorem dX4_found_60 : decode cX4_found 60 = .ok (.iload_n 2, 1) := by decide +kernel
theorem dX4_found_61 : decode cX4_found 61 = .ok (.iload_n 3, 1) := by decide +kernel
theorem dX4_found_62 : decode cX4_found 62 = .ok (.invokevirtual 148, 3) := by decide +kernel
theorem dX4_found_65 : decode cX4_found 65 = .ok (.aload_n 0, 1) := by decide +kernel
theorem dX4_found_66 : decode cX4_found 66 = .ok (.getfield 19, 3) := by decide +kernel
theorem dX4_found_69 : decode cX4_found 69 = .ok (.iload_n 1, 1) := by decide +kernel
theorem dX4_found_70 : decode cX4_found 70 = .ok (.iload_n 2, 1) := by decide +kernel
theorem dX4_found_71 : decode cX4_found 71 = .ok (.invokevirtual 136, 3) := by decide +kernel
theorem dX4_found_74 : decode cX4_found 74 = .ok (.ireturn, 1) := by decide +kernel
set_option maxRecDepth 20000 in
theorem ggX4_pieces_X4_checkIndex : GoodIn wsX4_pieces wsX4_checkIndex := goodIn_ca (goodIn_r _ [5, 6, 7] (by decide +kernel) (by decide +kernel)) (goodIn_sub (fun _ h => List.mem_cons_of_mem _ (List.mem_append_right _ h)) (by decide +kernel))
set_option maxRecDepth 20000 in
theorem gX4_pieces_X4_checkIndex : GoodIn wsX4_pieces (va_wsS RX4 59 yX4_checkIndex wsX4_checkIndex) := goodIn_app (goodIn_of _ (by decide +kernel)) ggX4_pieces_X4_checkIndex
set_option maxRecDepth 20000 in
theorem ggX4_pieces_X3_count : GoodIn wsX4_pieces wsX3_count := goodIn_r _ [12, 13, 14, 15, 16, 17, 18, 19, 23, 24, 25, 26, 27, 28, 29, 30, 31, 32, 33, 34] (by decide +kernel) (by decide +kernel)
set_option maxRecDepth 20000 in
theorem gX4_pieces_X3_count : GoodIn wsX4_pieces (wsV RX4 136 RX3 yX3_count wsX3_count) := goodIn_app (goodIn_of _ (by decide +kernel)) ggX4_pieces_X3_count
theorem dX4_pieces_0 : decode cX4_pieces 0 = .ok (.iload_n 1, 1) := by decide +kernel
theorem dX4_pieces_1 : decode cX4_pieces 1 = .ok (.aload_n 0, 1) := by decide +kernel
theorem dX4_pieces_2 : decode cX4_pieces 2 = .ok (.getfield 19, 3) := by decide +kernel
theorem dX4_pieces_5 : decode cX4_pieces 5 = .ok (.getfield 63, 3) := by decide +kernel
theorem dX4_pieces_8 : decode cX4_pieces 8 = .ok (.invokestatic 59, 3) := by decide +kernel
theorem dX4_pieces_11 : decode cX4_pieces 11 = .ok (.iload_n 2, 1) := by decide +kernel
theorem dX4_pieces_12 : decode cX4_pieces 12 = .ok (.iconst 4, 1) := by decide +kernel
theorem dX4_pieces_13 : decode cX4_pieces 13 = .ok (.invokestatic 59, 3) := by decide +kernel
theorem dX4_pieces_16 : decode cX4_pieces 16 = .ok (.aload_n 0, 1) := by decide +kernel
theorem dX4_pieces_17 : decode cX4_pieces 17 = .ok (.getfield 19, 3) := by decide +kernel
theorem dX4_pieces_20 : decode cX4_pieces 20 = .ok (.iload_n 1, 1) := by decide +kernel
theorem dX4_pieces_21 : decode cX4_pieces 21 = .ok (.iload_n 2, 1) := by decide +kernel
theorem dX4_pieces_22 : decode cX4_pieces 22 = .ok (.invokevirtual 136, 3) := by decide +kernel
theorem dX4_pieces_25 : decode cX4_pieces 25 = .ok (.ireturn, 1) := by decide +kernel
set_option maxRecDepth 20000 in
theorem ggX4_stateOf_X4_checkIndex : GoodIn wsX4_stateOf wsX4_checkIndex := goodIn_ca (goodIn_r _ [5, 6, 7] (by decide +kernel) (by decide +kernel)) (goodIn_sub (fun _ h => List.mem_cons_of_mem _ (List.mem_append_right _ h)) (by decide +kernel))
set_option maxRecDepth 20000 in
theorem gX4_stateOf_X4_checkIndex : GoodIn wsX4_stateOf (va_wsS RX4 59 yX4_checkIndex wsX4_checkIndex) := goodIn_app (goodIn_of _ (by decide +kernel)) ggX4_stateOf_X4_checkIndex
set_option maxRecDepth 20000 in
theorem ggX4_stateOf_X3_place : GoodIn wsX4_stateOf wsX3_place := goodIn_r _ [12, 13, 14, 15, 16, 17, 18, 19, 20, 24, 25, 26, 27, 28, 29, 30, 31, 32, 33, 34, 35] (by decide +kernel) (by decide +kernel)
set_option maxRecDepth 20000 in
theorem gX4_stateOf_X3_place : GoodIn wsX4_stateOf (wsV RX4 142 RX3 yX3_place wsX3_place) := goodIn_app (goodIn_of _ (by decide +kernel)) ggX4_stateOf_X3_place
theorem dX4_stateOf_0 : decode cX4_stateOf 0 = .ok (.iload_n 1, 1) := by decide +kernel
theorem dX4_stateOf_1 : decode cX4_stateOf 1 = .ok (.aload_n 0, 1) := by decide +kernel
theorem dX4_stateOf_2 : decode cX4_stateOf 2 = .ok (.getfield 19, 3) := by decide +kernel
theorem dX4_stateOf_5 : decode cX4_stateOf 5 = .ok (.getfield 63, 3) := by decide +kernel
theorem dX4_stateOf_8 : decode cX4_stateOf 8 = .ok (.invokestatic 59, 3) := by decide +kernel
theorem dX4_stateOf_11 : decode cX4_stateOf 11 = .ok (.aload_n 0, 1) := by decide +kernel
theorem dX4_stateOf_12 : decode cX4_stateOf 12 = .ok (.getfield 19, 3) := by decide +kernel
theorem dX4_stateOf_15 : decode cX4_stateOf 15 = .ok (.iload_n 1, 1) := by decide +kernel
theorem dX4_stateOf_16 : decode cX4_stateOf 16 = .ok (.invokevirtual 142, 3) := by decide +kernel
theorem dX4_stateOf_19 : decode cX4_stateOf 19 = .ok (.ireturn, 1) := by decide +kernel
set_option maxRecDepth 20000 in
theorem ggX4_lenders_X4_checkIndex : GoodIn wsX4_lenders wsX4_checkIndex := goodIn_ca (goodIn_r _ [5, 6, 7] (by decide +kernel) (by decide +kernel)) (goodIn_sub (fun _ h => List.mem_cons_of_mem _ (List.mem_append_right _ h)) (by decide +kernel))
set_option maxRecDepth 20000 in
theorem gX4_lenders_X4_checkIndex : GoodIn wsX4_lenders (va_wsS RX4 59 yX4_checkIndex wsX4_checkIndex) := goodIn_app (goodIn_of _ (by decide +kernel)) ggX4_lenders_X4_checkIndex
set_option maxRecDepth 20000 in
theorem ggX4_lenders_X3_countLenders : GoodIn wsX4_lenders wsX3_countLenders := goodIn_r _ [12, 13, 14, 15, 16, 17, 18, 19, 20, 11, 21, 22, 23, 24, 25, 26, 27, 28, 29, 30, 31, 32, 33, 34, 35, 36, 37, 38, 39, 40, 41, 42, 43, 44, 45, 46, 47, 48, 49, 50, 51, 55, 56, 57, 58, 59, 60, 61, 62, 63, 64, 65, 66] (by decide +kernel) (by decide +kernel)
set_option maxRecDepth 20000 in
theorem gX4_lenders_X3_countLenders : GoodIn wsX4_lenders (wsV RX4 151 RX3 yX3_countLenders wsX3_countLenders) := goodIn_app (goodIn_of _ (by decide +kernel)) ggX4_lenders_X3_countLenders
theorem dX4_lenders_0 : decode cX4_lenders 0 = .ok (.iload_n 1, 1) := by decide +kernel
theorem dX4_lenders_1 : decode cX4_lenders 1 = .ok (.aload_n 0, 1) := by decide +kernel
theorem dX4_lenders_2 : decode cX4_lenders 2 = .ok (.getfield 19, 3) := by decide +kernel
theorem dX4_lenders_5 : decode cX4_lenders 5 = .ok (.getfield 63, 3) := by decide +kernel
theorem dX4_lenders_8 : decode cX4_lenders 8 = .ok (.invokestatic 59, 3) := by decide +kernel
theorem dX4_lenders_11 : decode cX4_lenders 11 = .ok (.aload_n 0, 1) := by decide +kernel
theorem dX4_lenders_12 : decode cX4_lenders 12 = .ok (.getfield 19, 3) := by decide +kernel
theorem dX4_lenders_15 : decode cX4_lenders 15 = .ok (.iload_n 1, 1) := by decide +kernel
theorem dX4_lenders_16 : decode cX4_lenders 16 = .ok (.invokevirtual 151, 3) := by decide +kernel
theorem dX4_lenders_19 : decode cX4_lenders 19 = .ok (.ireturn, 1) := by decide +kernel
set_option maxRecDepth 20000 in
theorem ggX4_copyOf_X4_checkIndex : GoodIn wsX4_copyOf wsX4_checkIndex := goodIn_ca (goodIn_r _ [6, 7, 8] (by decide +kernel) (by decide +kernel)) (goodIn_sub (fun _ h => List.mem_cons_of_mem _ (List.mem_append_right _ h)) (by decide +kernel))
set_option maxRecDepth 20000 in
theorem gX4_copyOf_X4_checkIndex : GoodIn wsX4_copyOf (va_wsS RX4 59 yX4_checkIndex wsX4_checkIndex) := goodIn_app (goodIn_of _ (by decide +kernel)) ggX4_copyOf_X4_checkIndex
set_option maxRecDepth 20000 in
theorem ggX4_copyOf_X3_heldBy : GoodIn wsX4_copyOf wsX3_heldBy := goodIn_r _ [13, 14, 15, 16, 17, 18, 19, 20, 21, 34, 35, 36, 37, 38, 39, 40, 41, 42, 43, 44, 45] (by decide +kernel) (by decide +kernel)
set_option maxRecDepth 20000 in
theorem gX4_copyOf_X3_heldBy : GoodIn wsX4_copyOf (wsV RX4 83 RX3 yX3_heldBy wsX3_heldBy) := goodIn_app (goodIn_of _ (by decide +kernel)) ggX4_copyOf_X3_heldBy
theorem dX4_copyOf_0 : decode cX4_copyOf 0 = .ok (.iload_n 1, 1) := by decide +kernel
theorem dX4_copyOf_1 : decode cX4_copyOf 1 = .ok (.aload_n 0, 1) := by decide +kernel
theorem dX4_copyOf_2 : decode cX4_copyOf 2 = .ok (.getfield 10, 3) := by decide +kernel
theorem dX4_copyOf_5 : decode cX4_copyOf 5 = .ok (.getfield 76, 3) := by decide +kernel
theorem dX4_copyOf_8 : decode cX4_copyOf 8 = .ok (.invokestatic 59, 3) := by decide +kernel
theorem dX4_copyOf_11 : decode cX4_copyOf 11 = .ok (.aload_n 0, 1) := by decide +kernel
theorem dX4_copyOf_12 : decode cX4_copyOf 12 = .ok (.getfield 19, 3) := by decide +kernel
theorem dX4_copyOf_15 : decode cX4_copyOf 15 = .ok (.iload_n 1, 1) := by decide +kernel
theorem dX4_copyOf_16 : decode cX4_copyOf 16 = .ok (.invokevirtual 83, 3) := by decide +kernel
theorem dX4_copyOf_19 : decode cX4_copyOf 19 = .ok (.ireturn, 1) := by decide +kernel
set_option maxRecDepth 20000 in
theorem ggX4_ruling_X4_checkIndex : GoodIn wsX4_ruling wsX4_checkIndex := goodIn_ca (goodIn_r _ [7, 8, 9] (by decide +kernel) (by decide +kernel)) (goodIn_sub (fun _ h => List.mem_cons_of_mem _ (List.mem_append_left _ (List.mem_append_right _ h))) (by decide +kernel))
set_option maxRecDepth 20000 in
theorem gX4_ruling_X4_checkIndex : GoodIn wsX4_ruling (va_wsS RX4 59 yX4_checkIndex wsX4_checkIndex) := goodIn_app (goodIn_of _ (by decide +kernel)) ggX4_ruling_X4_checkIndex
set_option maxRecDepth 20000 in
theorem ggX4_ruling_X3_heldBy : GoodIn wsX4_ruling wsX3_heldBy := goodIn_r _ [14, 15, 16, 17, 18, 19, 20, 21, 22, 95, 96, 97, 98, 99, 100, 101, 102, 103, 104, 105, 106] (by decide +kernel) (by decide +kernel)
set_option maxRecDepth 20000 in
theorem gX4_ruling_X3_heldBy : GoodIn wsX4_ruling (wsV RX4 83 RX3 yX3_heldBy wsX3_heldBy) := goodIn_app (goodIn_of _ (by decide +kernel)) ggX4_ruling_X3_heldBy
set_option maxRecDepth 20000 in
theorem ggX4_ruling_X4_checkState : GoodIn wsX4_ruling wsX4_checkState := goodIn_ca (goodIn_r _ [25, 26, 27] (by decide +kernel) (by decide +kernel)) (goodIn_sub (fun _ h => List.mem_cons_of_mem _ (List.mem_append_right _ h)) (by decide +kernel))
set_option maxRecDepth 20000 in
theorem gX4_ruling_X4_checkState : GoodIn wsX4_ruling (va_wsS RX4 38 yX4_checkState wsX4_checkState) := goodIn_app (goodIn_of _ (by decide +kernel)) ggX4_ruling_X4_checkState
set_option maxRecDepth 20000 in
theorem ggX4_ruling_X4_playedBy : GoodIn wsX4_ruling wsX4_playedBy := goodIn_r _ [31, 2, 10, 11, 12, 13, 14, 15, 16, 17, 18, 19, 20, 21, 22, 32, 83, 84, 85, 95, 96, 97, 98, 99, 100, 101, 102, 103, 104, 105, 106] (by decide +kernel) (by decide +kernel)
set_option maxRecDepth 20000 in
theorem gX4_ruling_X4_playedBy : GoodIn wsX4_ruling (wsV RX4 154 RX4 yX4_playedBy wsX4_playedBy) := goodIn_app (goodIn_of _ (by decide +kernel)) ggX4_ruling_X4_playedBy
set_option maxRecDepth 20000 in
theorem ggX4_ruling_X4_holdingFor : GoodIn wsX4_ruling wsX4_holdingFor := goodIn_r _ [36, 2, 3, 1, 10, 11, 12, 13, 14, 15, 16, 17, 18, 19, 20, 21, 22, 37, 38, 39, 40, 41, 42, 28, 29, 30, 6, 31, 32, 43, 44, 45, 46, 47, 48, 49, 50, 51, 52, 53, 54, 55, 56, 57, 58, 59, 60, 61, 62, 63, 64, 65, 66, 83, 84, 85, 86, 87, 88, 89, 90, 91, 92, 93, 94, 95, 96, 97, 98, 99, 100, 101, 102, 103, 104, 105, 106, 107, 108, 109, 110, 111] (by decide +kernel) (by decide +kernel)
set_option maxRecDepth 20000 in
theorem gX4_ruling_X4_holdingFor : GoodIn wsX4_ruling (wsV RX4 157 RX4 yX4_holdingFor wsX4_holdingFor) := goodIn_app (goodIn_of _ (by decide +kernel)) ggX4_ruling_X4_holdingFor
set_option maxRecDepth 20000 in
theorem ggX4_ruling_X1_rulingGoingDown : GoodIn wsX4_ruling wsX1_rulingGoingDown := goodIn_r _ [70, 71, 72, 73, 74, 58, 75, 60, 63, 18, 19, 20, 21, 22, 76, 77, 78, 79, 80, 81, 6, 82, 107, 108, 109, 110, 111, 106] (by decide +kernel) (by decide +kernel)
set_option maxRecDepth 20000 in
theorem gX4_ruling_X1_rulingGoingDown : GoodIn wsX4_ruling (wsV RX4 160 RX1 yX1_rulingGoingDown wsX1_rulingGoingDown) := goodIn_app (goodIn_of _ (by decide +kernel)) ggX4_ruling_X1_rulingGoingDown
theorem dX4_ruling_0 : decode cX4_ruling 0 = .ok (.iload_n 1, 1) := by decide +kernel
theorem dX4_ruling_1 : decode cX4_ruling 1 = .ok (.aload_n 0, 1) := by decide +kernel
theorem dX4_ruling_2 : decode cX4_ruling 2 = .ok (.getfield 10, 3) := by decide +kernel
theorem dX4_ruling_5 : decode cX4_ruling 5 = .ok (.getfield 76, 3) := by decide +kernel
theorem dX4_ruling_8 : decode cX4_ruling 8 = .ok (.invokestatic 59, 3) := by decide +kernel
theorem dX4_ruling_11 : decode cX4_ruling 11 = .ok (.aload_n 0, 1) := by decide +kernel
theorem dX4_ruling_12 : decode cX4_ruling 12 = .ok (.getfield 19, 3) := by decide +kernel
theorem dX4_ruling_15 : decode cX4_ruling 15 = .ok (.iload_n 1, 1) := by decide +kernel
theorem dX4_ruling_16 : decode cX4_ruling 16 = .ok (.invokevirtual 83, 3) := by decide +kernel
theorem dX4_ruling_19 : decode cX4_ruling 19 = .ok (.iconst (-1), 1) := by decide +kernel
theorem dX4_ruling_20 : decode cX4_ruling 20 = .ok (.if_icmp .eq 7, 3) := by decide +kernel
theorem dX4_ruling_23 : decode cX4_ruling 23 = .ok (.iconst 1, 1) := by decide +kernel
theorem dX4_ruling_24 : decode cX4_ruling 24 = .ok (.goto 4, 3) := by decide +kernel
theorem dX4_ruling_27 : decode cX4_ruling 27 = .ok (.iconst 0, 1) := by decide +kernel
theorem dX4_ruling_28 : decode cX4_ruling 28 = .ok (.invokestatic 38, 3) := by decide +kernel
theorem dX4_ruling_31 : decode cX4_ruling 31 = .ok (.aload_n 0, 1) := by decide +kernel
theorem dX4_ruling_32 : decode cX4_ruling 32 = .ok (.getfield 26, 3) := by decide +kernel
theorem dX4_ruling_35 : decode cX4_ruling 35 = .ok (.aload_n 0, 1) := by decide +kernel
theorem dX4_ruling_36 : decode cX4_ruling 36 = .ok (.iload_n 1, 1) := by decide +kernel
theorem dX4_ruling_37 : decode cX4_ruling 37 = .ok (.invokevirtual 154, 3) := by decide +kernel
theorem dX4_ruling_40 : decode cX4_ruling 40 = .ok (.aload_n 0, 1) := by decide +kernel
theorem dX4_ruling_41 : decode cX4_ruling 41 = .ok (.iload_n 1, 1) := by decide +kernel
theorem dX4_ruling_42 : decode cX4_ruling 42 = .ok (.invokevirtual 157, 3) := by decide +kernel
theorem dX4_ruling_45 : decode cX4_ruling 45 = .ok (.invokevirtual 160, 3) := by decide +kernel
theorem dX4_ruling_48 : decode cX4_ruling 48 = .ok (.ireturn, 1) := by decide +kernel
set_option maxRecDepth 20000 in
theorem ggX4_rulingFromBelow_X4_checkIndex : GoodIn wsX4_rulingFromBelow wsX4_checkIndex := goodIn_ca (goodIn_r _ [7, 8, 9] (by decide +kernel) (by decide +kernel)) (goodIn_sub (fun _ h => List.mem_cons_of_mem _ (List.mem_append_left _ (List.mem_append_right _ h))) (by decide +kernel))
set_option maxRecDepth 20000 in
theorem gX4_rulingFromBelow_X4_checkIndex : GoodIn wsX4_rulingFromBelow (va_wsS RX4 59 yX4_checkIndex wsX4_checkIndex) := goodIn_app (goodIn_of _ (by decide +kernel)) ggX4_rulingFromBelow_X4_checkIndex
set_option maxRecDepth 20000 in
theorem ggX4_rulingFromBelow_X3_heldBy : GoodIn wsX4_rulingFromBelow wsX3_heldBy := goodIn_r _ [14, 15, 16, 17, 18, 19, 20, 21, 22, 99, 100, 101, 102, 103, 104, 105, 106, 107, 108, 109, 110] (by decide +kernel) (by decide +kernel)
set_option maxRecDepth 20000 in
theorem gX4_rulingFromBelow_X3_heldBy : GoodIn wsX4_rulingFromBelow (wsV RX4 83 RX3 yX3_heldBy wsX3_heldBy) := goodIn_app (goodIn_of _ (by decide +kernel)) ggX4_rulingFromBelow_X3_heldBy
set_option maxRecDepth 20000 in
theorem ggX4_rulingFromBelow_X4_checkState : GoodIn wsX4_rulingFromBelow wsX4_checkState := goodIn_ca (goodIn_r _ [25, 26, 27] (by decide +kernel) (by decide +kernel)) (goodIn_sub (fun _ h => List.mem_cons_of_mem _ (List.mem_append_right _ h)) (by decide +kernel))
set_option maxRecDepth 20000 in
theorem gX4_rulingFromBelow_X4_checkState : GoodIn wsX4_rulingFromBelow (va_wsS RX4 38 yX4_checkState wsX4_checkState) := goodIn_app (goodIn_of _ (by decide +kernel)) ggX4_rulingFromBelow_X4_checkState
set_option maxRecDepth 20000 in
theorem ggX4_rulingFromBelow_X4_playedBy : GoodIn wsX4_rulingFromBelow wsX4_playedBy := goodIn_r _ [31, 2, 10, 11, 12, 13, 14, 15, 16, 17, 18, 19, 20, 21, 22, 32, 87, 88, 89, 99, 100, 101, 102, 103, 104, 105, 106, 107, 108, 109, 110] (by decide +kernel) (by decide +kernel)
set_option maxRecDepth 20000 in
theorem gX4_rulingFromBelow_X4_playedBy : GoodIn wsX4_rulingFromBelow (wsV RX4 154 RX4 yX4_playedBy wsX4_playedBy) := goodIn_app (goodIn_of _ (by decide +kernel)) ggX4_rulingFromBelow_X4_playedBy
set_option maxRecDepth 20000 in
theorem ggX4_rulingFromBelow_X4_holdingFor : GoodIn wsX4_rulingFromBelow wsX4_holdingFor := goodIn_r _ [36, 2, 3, 1, 10, 11, 12, 13, 14, 15, 16, 17, 18, 19, 20, 21, 22, 37, 38, 39, 40, 41, 42, 28, 29, 30, 6, 31, 32, 43, 44, 45, 46, 47, 48, 49, 50, 51, 52, 53, 54, 55, 56, 57, 58, 59, 60, 61, 62, 63, 64, 65, 66, 87, 88, 89, 90, 91, 92, 93, 94, 95, 96, 97, 98, 99, 100, 101, 102, 103, 104, 105, 106, 107, 108, 109, 110, 111, 112, 113, 114, 115] (by decide +kernel) (by decide +kernel)
set_option maxRecDepth 20000 in
theorem gX4_rulingFromBelow_X4_holdingFor : GoodIn wsX4_rulingFromBelow (wsV RX4 157 RX4 yX4_holdingFor wsX4_holdingFor) := goodIn_app (goodIn_of _ (by decide +kernel)) ggX4_rulingFromBelow_X4_holdingFor
set_option maxRecDepth 20000 in
theorem ggX4_rulingFromBelow_X1_rulingGoingUp : GoodIn wsX4_rulingFromBelow wsX1_rulingGoingUp := goodIn_r _ [70, 60, 71, 63, 18, 19, 20, 21, 22, 72, 73, 74, 58, 75, 76, 77, 78, 79, 80, 81, 82, 83, 84, 85, 6, 86, 111, 112, 113, 114, 115, 110] (by decide +kernel) (by decide +kernel)
set_option maxRecDepth 20000 in
theorem gX4_rulingFromBelow_X1_rulingGoingUp : GoodIn wsX4_rulingFromBelow (wsV RX4 163 RX1 yX1_rulingGoingUp wsX1_rulingGoingUp) := goodIn_app (goodIn_of _ (by decide +kernel)) ggX4_rulingFromBelow_X1_rulingGoingUp
theorem dX4_rulingFromBelow_0 : decode cX4_rulingFromBelow 0 = .ok (.iload_n 1, 1) := by decide +kernel
theorem dX4_rulingFromBelow_1 : decode cX4_rulingFromBelow 1 = .ok (.aload_n 0, 1) := by decide +kernel
theorem dX4_rulingFromBelow_2 : decode cX4_rulingFromBelow 2 = .ok (.getfield 10, 3) := by decide +kernel
theorem dX4_rulingFromBelow_5 : decode cX4_rulingFromBelow 5 = .ok (.getfield 76, 3) := by decide +kernel
theorem dX4_rulingFromBelow_8 : decode cX4_rulingFromBelow 8 = .ok (.invokestatic 59, 3) := by decide +kernel
theorem dX4_rulingFromBelow_11 : decode cX4_rulingFromBelow 11 = .ok (.aload_n 0, 1) := by decide +kernel
theorem dX4_rulingFromBelow_12 : decode cX4_rulingFromBelow 12 = .ok (.getfield 19, 3) := by decide +kernel
theorem dX4_rulingFromBelow_15 : decode cX4_rulingFromBelow 15 = .ok (.iload_n 1, 1) := by decide +kernel
theorem dX4_rulingFromBelow_16 : decode cX4_rulingFromBelow 16 = .ok (.invokevirtual 83, 3) := by decide +kernel
theorem dX4_rulingFromBelow_19 : decode cX4_rulingFromBelow 19 = .ok (.iconst (-1), 1) := by decide +kernel
theorem dX4_rulingFromBelow_20 : decode cX4_rulingFromBelow 20 = .ok (.if_icmp .eq 7, 3) := by decide +kernel
theorem dX4_rulingFromBelow_23 : decode cX4_rulingFromBelow 23 = .ok (.iconst 1, 1) := by decide +kernel
theorem dX4_rulingFromBelow_24 : decode cX4_rulingFromBelow 24 = .ok (.goto 4, 3) := by decide +kernel
theorem dX4_rulingFromBelow_27 : decode cX4_rulingFromBelow 27 = .ok (.iconst 0, 1) := by decide +kernel
theorem dX4_rulingFromBelow_28 : decode cX4_rulingFromBelow 28 = .ok (.invokestatic 38, 3) := by decide +kernel
theorem dX4_rulingFromBelow_31 : decode cX4_rulingFromBelow 31 = .ok (.aload_n 0, 1) := by decide +kernel
theorem dX4_rulingFromBelow_32 : decode cX4_rulingFromBelow 32 = .ok (.getfield 26, 3) := by decide +kernel
theorem dX4_rulingFromBelow_35 : decode cX4_rulingFromBelow 35 = .ok (.aload_n 0, 1) := by decide +kernel
theorem dX4_rulingFromBelow_36 : decode cX4_rulingFromBelow 36 = .ok (.iload_n 1, 1) := by decide +kernel
theorem dX4_rulingFromBelow_37 : decode cX4_rulingFromBelow 37 = .ok (.invokevirtual 154, 3) := by decide +kernel
theorem dX4_rulingFromBelow_40 : decode cX4_rulingFromBelow 40 = .ok (.aload_n 0, 1) := by decide +kernel
theorem dX4_rulingFromBelow_41 : decode cX4_rulingFromBelow 41 = .ok (.iload_n 1, 1) := by decide +kernel
theorem dX4_rulingFromBelow_42 : decode cX4_rulingFromBelow 42 = .ok (.invokevirtual 157, 3) := by decide +kernel
theorem dX4_rulingFromBelow_45 : decode cX4_rulingFromBelow 45 = .ok (.invokevirtual 163, 3) := by decide +kernel
theorem dX4_rulingFromBelow_48 : decode cX4_rulingFromBelow 48 = .ok (.ireturn, 1) := by decide +kernel
set_option maxRecDepth 20000 in
theorem ggX4_depth_X4_checkIndex : GoodIn wsX4_depth wsX4_checkIndex := goodIn_ca (goodIn_r _ [6, 7, 8] (by decide +kernel) (by decide +kernel)) (goodIn_sub (fun _ h => List.mem_cons_of_mem _ (List.mem_append_right _ h)) (by decide +kernel))
set_option maxRecDepth 20000 in
theorem gX4_depth_X4_checkIndex : GoodIn wsX4_depth (va_wsS RX4 59 yX4_checkIndex wsX4_checkIndex) := goodIn_app (goodIn_of _ (by decide +kernel)) ggX4_depth_X4_checkIndex
set_option maxRecDepth 20000 in
theorem ggX4_depth_X1_deepest : GoodIn wsX4_depth wsX1_deepest := goodIn_r _ [13, 14, 15, 16, 17, 18, 19, 20, 21, 22, 23, 24, 25, 26, 27, 12, 28, 29, 30, 31, 32, 33, 48, 49, 50, 51, 52, 53] (by decide +kernel) (by decide +kernel)
set_option maxRecDepth 20000 in
theorem gX4_depth_X1_deepest : GoodIn wsX4_depth (wsV RX4 166 RX1 yX1_deepest wsX1_deepest) := goodIn_app (goodIn_of _ (by decide +kernel)) ggX4_depth_X1_deepest
theorem dX4_depth_0 : decode cX4_depth 0 = .ok (.iload_n 1, 1) := by decide +kernel
theorem dX4_depth_1 : decode cX4_depth 1 = .ok (.aload_n 0, 1) := by decide +kernel
theorem dX4_depth_2 : decode cX4_depth 2 = .ok (.getfield 19, 3) := by decide +kernel
theorem dX4_depth_5 : decode cX4_depth 5 = .ok (.getfield 49, 3) := by decide +kernel
theorem dX4_depth_8 : decode cX4_depth 8 = .ok (.invokestatic 59, 3) := by decide +kernel
theorem dX4_depth_11 : decode cX4_depth 11 = .ok (.aload_n 0, 1) := by decide +kernel
theorem dX4_depth_12 : decode cX4_depth 12 = .ok (.getfield 26, 3) := by decide +kernel
theorem dX4_depth_15 : decode cX4_depth 15 = .ok (.iload_n 1, 1) := by decide +kernel
theorem dX4_depth_16 : decode cX4_depth 16 = .ok (.invokevirtual 166, 3) := by decide +kernel
theorem dX4_depth_19 : decode cX4_depth 19 = .ok (.ireturn, 1) := by decide +kernel
set_option maxRecDepth 20000 in
theorem ggX4_isOffered_X0_isSeated : GoodIn wsX4_isOffered wsX0_isSeated := goodIn_r _ [7, 8, 9, 10, 11, 12, 13, 14, 82, 83, 84, 85, 86, 87, 88, 89, 90, 91] (by decide +kernel) (by decide +kernel)
set_option maxRecDepth 20000 in
theorem gX4_isOffered_X0_isSeated : GoodIn wsX4_isOffered (wsV RX4 109 RX0 yX0_isSeated wsX0_isSeated) := goodIn_app (goodIn_of _ (by decide +kernel)) ggX4_isOffered_X0_isSeated
set_option maxRecDepth 20000 in
theorem ggX4_isOffered_X3_heldBy : GoodIn wsX4_isOffered wsX3_heldBy := goodIn_r _ [19, 20, 21, 22, 10, 11, 12, 13, 14, 92, 93, 94, 95, 96, 97, 98, 99, 100, 101, 102, 91] (by decide +kernel) (by decide +kernel)
set_option maxRecDepth 20000 in
theorem gX4_isOffered_X3_heldBy : GoodIn wsX4_isOffered (wsV RX4 83 RX3 yX3_heldBy wsX3_heldBy) := goodIn_app (goodIn_of _ (by decide +kernel)) ggX4_isOffered_X3_heldBy
set_option maxRecDepth 20000 in
theorem ggX4_isOffered_X2_at : GoodIn wsX4_isOffered wsX2_at := goodIn_r _ [13, 14, 91] (by decide +kernel) (by decide +kernel)
set_option maxRecDepth 20000 in
theorem gX4_isOffered_X2_at : GoodIn wsX4_isOffered (wsV RX4 173 RX2 yX2_at wsX2_at) := goodIn_app (goodIn_of _ (by decide +kernel)) ggX4_isOffered_X2_at
set_option maxRecDepth 20000 in
theorem ggX4_isOffered_X0_minutesLeft : GoodIn wsX4_isOffered wsX0_minutesLeft := goodIn_r _ [27, 28, 29, 30, 31, 32, 33, 9, 10, 11, 12, 13, 14, 82, 83, 84, 85, 86, 87, 88, 89, 90, 91] (by decide +kernel) (by decide +kernel)
set_option maxRecDepth 20000 in
theorem gX4_isOffered_X0_minutesLeft : GoodIn wsX4_isOffered (wsV RX4 112 RX0 yX0_minutesLeft wsX0_minutesLeft) := goodIn_app (goodIn_of _ (by decide +kernel)) ggX4_isOffered_X0_minutesLeft
set_option maxRecDepth 20000 in
theorem ggX4_isOffered_X3_suits : GoodIn wsX4_isOffered wsX3_suits := goodIn_r _ [37, 38, 39, 40, 22, 10, 11, 12, 13, 14, 92, 93, 94, 95, 96, 97, 98, 99, 100, 101, 102, 91] (by decide +kernel) (by decide +kernel)
set_option maxRecDepth 20000 in
theorem gX4_isOffered_X3_suits : GoodIn wsX4_isOffered (wsV RX4 178 RX3 yX3_suits wsX3_suits) := goodIn_app (goodIn_of _ (by decide +kernel)) ggX4_isOffered_X3_suits
set_option maxRecDepth 20000 in
theorem ggX4_isOffered_X3_bestCopy : GoodIn wsX4_isOffered wsX3_bestCopy := goodIn_r _ [44, 20, 45, 22, 10, 11, 12, 13, 14, 46, 47, 48, 18, 49, 50, 51, 32, 52, 53, 54, 55, 56, 21, 57, 58, 59, 60, 61, 62, 63, 64, 65, 66, 67, 68, 69, 70, 71, 72, 73, 74, 75, 76, 77, 78, 92, 93, 94, 95, 96, 97, 98, 99, 100, 101, 102, 91] (by decide +kernel) (by decide +kernel)
set_option maxRecDepth 20000 in
theorem gX4_isOffered_X3_bestCopy : GoodIn wsX4_isOffered (wsV RX4 130 RX3 yX3_bestCopy wsX3_bestCopy) := goodIn_app (goodIn_of _ (by decide +kernel)) ggX4_isOffered_X3_bestCopy
theorem dX4_isOffered_0 : decode cX4_isOffered 0 = .ok (.aload_n 0, 1) := by decide +kernel
theorem dX4_isOffered_1 : decode cX4_isOffered 1 = .ok (.getfield 10, 3) := by decide +kernel
theorem dX4_isOffered_4 : decode cX4_isOffered 4 = .ok (.iload_n 1, 1) := by decide +kernel
theorem dX4_isOffered_5 : decode cX4_isOffered 5 = .ok (.invokevirtual 109, 3) := by decide +kernel
theorem dX4_isOffered_8 : decode cX4_isOffered 8 = .ok (.ifCond .eq 61, 3) := by decide +kernel
theorem dX4_isOffered_11 : decode cX4_isOffered 11 = .ok (.aload_n 0, 1) := by decide +kernel
theorem dX4_isOffered_12 : decode cX4_isOffered 12 = .ok (.getfield 19, 3) := by decide +kernel
