theorem dX5_lendersOf_9 : decode cX5_lendersOf 9 = .ok (.aload_n 0, 1) := by decide +kernel
theorem dX5_lendersOf_10 : decode cX5_lendersOf 10 = .ok (.iload_n 1, 1) := by decide +kernel
theorem dX5_lendersOf_11 : decode cX5_lendersOf 11 = .ok (.invokevirtual 137, 3) := by decide +kernel
theorem dX5_lendersOf_14 : decode cX5_lendersOf 14 = .ok (.goto 4, 3) := by decide +kernel
theorem dX5_lendersOf_17 : decode cX5_lendersOf 17 = .ok (.iconst (-1), 1) := by decide +kernel
theorem dX5_lendersOf_18 : decode cX5_lendersOf 18 = .ok (.istore_n 2, 1) := by decide +kernel
theorem dX5_lendersOf_19 : decode cX5_lendersOf 19 = .ok (.iload_n 2, 1) := by decide +kernel
theorem dX5_lendersOf_20 : decode cX5_lendersOf 20 = .ok (.iconst (-1), 1) := by decide +kernel
theorem dX5_lendersOf_21 : decode cX5_lendersOf 21 = .ok (.if_icmp .ne 7, 3) := by decide +kernel
theorem dX5_lendersOf_24 : decode cX5_lendersOf 24 = .ok (.iconst (-1), 1) := by decide +kernel
theorem dX5_lendersOf_25 : decode cX5_lendersOf 25 = .ok (.goto 7, 3) := by decide +kernel
theorem dX5_lendersOf_28 : decode cX5_lendersOf 28 = .ok (.iload_n 2, 1) := by decide +kernel
theorem dX5_lendersOf_29 : decode cX5_lendersOf 29 = .ok (.invokestatic 140, 3) := by decide +kernel
theorem dX5_lendersOf_32 : decode cX5_lendersOf 32 = .ok (.ireturn, 1) := by decide +kernel
set_option maxRecDepth 20000 in
theorem ggX5_bestCopy_X5_lendersOf : GoodIn wsX5_bestCopy wsX5_lendersOf := goodIn_r _ [7, 8, 9, 10, 11, 6, 12, 13, 2, 14, 1, 15, 16, 17, 18, 19, 20, 21, 22, 23, 24, 25, 26, 27, 28, 29, 30, 31, 32, 33, 34, 35, 36, 37, 38, 39, 40, 41, 42, 43, 44, 45, 46, 47, 48, 49, 50] (by decide +kernel) (by decide +kernel)
set_option maxRecDepth 20000 in
theorem gX5_bestCopy_X5_lendersOf : GoodIn wsX5_bestCopy (wsV RX5 143 RX5 yX5_lendersOf wsX5_lendersOf) := goodIn_app (goodIn_of _ (by decide +kernel)) ggX5_bestCopy_X5_lendersOf
theorem dX5_bestCopy_0 : decode cX5_bestCopy 0 = .ok (.iconst (-1), 1) := by decide +kernel
theorem dX5_bestCopy_1 : decode cX5_bestCopy 1 = .ok (.istore_n 2, 1) := by decide +kernel
theorem dX5_bestCopy_2 : decode cX5_bestCopy 2 = .ok (.iconst 0, 1) := by decide +kernel
theorem dX5_bestCopy_3 : decode cX5_bestCopy 3 = .ok (.istore_n 3, 1) := by decide +kernel
theorem dX5_bestCopy_4 : decode cX5_bestCopy 4 = .ok (.iload_n 3, 1) := by decide +kernel
theorem dX5_bestCopy_5 : decode cX5_bestCopy 5 = .ok (.aload_n 0, 1) := by decide +kernel
theorem dX5_bestCopy_6 : decode cX5_bestCopy 6 = .ok (.getfield 90, 3) := by decide +kernel
theorem dX5_bestCopy_9 : decode cX5_bestCopy 9 = .ok (.if_icmp .ge 57, 3) := by decide +kernel
theorem dX5_bestCopy_12 : decode cX5_bestCopy 12 = .ok (.aload_n 0, 1) := by decide +kernel
theorem dX5_bestCopy_13 : decode cX5_bestCopy 13 = .ok (.getfield 43, 3) := by decide +kernel
theorem dX5_bestCopy_16 : decode cX5_bestCopy 16 = .ok (.iload_n 3, 1) := by decide +kernel
theorem dX5_bestCopy_17 : decode cX5_bestCopy 17 = .ok (.iaload, 1) := by decide +kernel
theorem dX5_bestCopy_18 : decode cX5_bestCopy 18 = .ok (.iload_n 1, 1) := by decide +kernel
theorem dX5_bestCopy_19 : decode cX5_bestCopy 19 = .ok (.if_icmp .ne 11, 3) := by decide +kernel
theorem dX5_bestCopy_22 : decode cX5_bestCopy 22 = .ok (.aload_n 0, 1) := by decide +kernel
theorem dX5_bestCopy_23 : decode cX5_bestCopy 23 = .ok (.iload_n 3, 1) := by decide +kernel
theorem dX5_bestCopy_24 : decode cX5_bestCopy 24 = .ok (.invokevirtual 143, 3) := by decide +kernel
theorem dX5_bestCopy_27 : decode cX5_bestCopy 27 = .ok (.goto 4, 3) := by decide +kernel
theorem dX5_bestCopy_30 : decode cX5_bestCopy 30 = .ok (.iconst (-1), 1) := by decide +kernel
theorem dX5_bestCopy_31 : decode cX5_bestCopy 31 = .ok (.istore 4, 2) := by decide +kernel
theorem dX5_bestCopy_33 : decode cX5_bestCopy 33 = .ok (.iload 4, 2) := by decide +kernel
theorem dX5_bestCopy_35 : decode cX5_bestCopy 35 = .ok (.iconst (-1), 1) := by decide +kernel
theorem dX5_bestCopy_36 : decode cX5_bestCopy 36 = .ok (.if_icmp .eq 22, 3) := by decide +kernel
theorem dX5_bestCopy_39 : decode cX5_bestCopy 39 = .ok (.iload_n 2, 1) := by decide +kernel
theorem dX5_bestCopy_40 : decode cX5_bestCopy 40 = .ok (.iconst (-1), 1) := by decide +kernel
theorem dX5_bestCopy_41 : decode cX5_bestCopy 41 = .ok (.if_icmp .eq 13, 3) := by decide +kernel
theorem dX5_bestCopy_44 : decode cX5_bestCopy 44 = .ok (.iload 4, 2) := by decide +kernel
theorem dX5_bestCopy_46 : decode cX5_bestCopy 46 = .ok (.aload_n 0, 1) := by decide +kernel
theorem dX5_bestCopy_47 : decode cX5_bestCopy 47 = .ok (.iload_n 2, 1) := by decide +kernel
theorem dX5_bestCopy_48 : decode cX5_bestCopy 48 = .ok (.invokevirtual 143, 3) := by decide +kernel
theorem dX5_bestCopy_51 : decode cX5_bestCopy 51 = .ok (.if_icmp .ge 7, 3) := by decide +kernel
theorem dX5_bestCopy_54 : decode cX5_bestCopy 54 = .ok (.iload_n 3, 1) := by decide +kernel
theorem dX5_bestCopy_55 : decode cX5_bestCopy 55 = .ok (.goto 4, 3) := by decide +kernel
theorem dX5_bestCopy_58 : decode cX5_bestCopy 58 = .ok (.iload_n 2, 1) := by decide +kernel
theorem dX5_bestCopy_59 : decode cX5_bestCopy 59 = .ok (.istore_n 2, 1) := by decide +kernel
theorem dX5_bestCopy_60 : decode cX5_bestCopy 60 = .ok (.iinc 3 1, 3) := by decide +kernel
theorem dX5_bestCopy_63 : decode cX5_bestCopy 63 = .ok (.goto (-59), 3) := by decide +kernel
theorem dX5_bestCopy_66 : decode cX5_bestCopy 66 = .ok (.iload_n 2, 1) := by decide +kernel
theorem dX5_bestCopy_67 : decode cX5_bestCopy 67 = .ok (.ireturn, 1) := by decide +kernel
set_option maxRecDepth 20000 in
theorem ggX5_isOffered_X5_isIn : GoodIn wsX5_isOffered wsX5_isIn := goodIn_r _ [10] (by decide +kernel) (by decide +kernel)
set_option maxRecDepth 20000 in
theorem gX5_isOffered_X5_isIn : GoodIn wsX5_isOffered (va_wsS RX5 86 yX5_isIn wsX5_isIn) := goodIn_app (goodIn_of _ (by decide +kernel)) ggX5_isOffered_X5_isIn
set_option maxRecDepth 20000 in
theorem ggX5_isOffered_X5_leftOf : GoodIn wsX5_isOffered wsX5_leftOf := goodIn_r _ [14, 15, 16, 17, 38, 39, 40, 41, 42, 43, 44, 45, 46, 47, 48, 49, 50, 51, 52, 53, 54, 55, 56, 57, 58, 59, 60, 61, 62, 63, 64, 65, 66, 67, 68, 69, 70] (by decide +kernel) (by decide +kernel)
set_option maxRecDepth 20000 in
theorem gX5_isOffered_X5_leftOf : GoodIn wsX5_isOffered (wsV RX5 134 RX5 yX5_leftOf wsX5_leftOf) := goodIn_app (goodIn_of _ (by decide +kernel)) ggX5_isOffered_X5_leftOf
set_option maxRecDepth 20000 in
theorem ggX5_isOffered_X5_bestCopy : GoodIn wsX5_isOffered wsX5_bestCopy := goodIn_r _ [21, 22, 23, 24, 25, 26, 9, 27, 28, 29, 30, 31, 32, 33, 34, 35, 36, 37, 38, 39, 40, 41, 42, 43, 44, 45, 46, 47, 48, 49, 50, 51, 52, 53, 54, 55, 56, 57, 58, 59, 60, 61, 62, 63, 64, 65, 66, 67, 68, 69, 70] (by decide +kernel) (by decide +kernel)
set_option maxRecDepth 20000 in
theorem gX5_isOffered_X5_bestCopy : GoodIn wsX5_isOffered (wsV RX5 146 RX5 yX5_bestCopy wsX5_bestCopy) := goodIn_app (goodIn_of _ (by decide +kernel)) ggX5_isOffered_X5_bestCopy
theorem dX5_isOffered_0 : decode cX5_isOffered 0 = .ok (.aload_n 0, 1) := by decide +kernel
theorem dX5_isOffered_1 : decode cX5_isOffered 1 = .ok (.getfield 22, 3) := by decide +kernel
theorem dX5_isOffered_4 : decode cX5_isOffered 4 = .ok (.iload_n 1, 1) := by decide +kernel
theorem dX5_isOffered_5 : decode cX5_isOffered 5 = .ok (.iaload, 1) := by decide +kernel
theorem dX5_isOffered_6 : decode cX5_isOffered 6 = .ok (.iconst 1, 1) := by decide +kernel
theorem dX5_isOffered_7 : decode cX5_isOffered 7 = .ok (.if_icmp .ne 41, 3) := by decide +kernel
theorem dX5_isOffered_10 : decode cX5_isOffered 10 = .ok (.aload_n 0, 1) := by decide +kernel
theorem dX5_isOffered_11 : decode cX5_isOffered 11 = .ok (.getfield 28, 3) := by decide +kernel
theorem dX5_isOffered_14 : decode cX5_isOffered 14 = .ok (.iload_n 1, 1) := by decide +kernel
theorem dX5_isOffered_15 : decode cX5_isOffered 15 = .ok (.iaload, 1) := by decide +kernel
theorem dX5_isOffered_16 : decode cX5_isOffered 16 = .ok (.iconst (-1), 1) := by decide +kernel
theorem dX5_isOffered_17 : decode cX5_isOffered 17 = .ok (.if_icmp .ne 31, 3) := by decide +kernel
theorem dX5_isOffered_20 : decode cX5_isOffered 20 = .ok (.aload_n 0, 1) := by decide +kernel
theorem dX5_isOffered_21 : decode cX5_isOffered 21 = .ok (.getfield 16, 3) := by decide +kernel
theorem dX5_isOffered_24 : decode cX5_isOffered 24 = .ok (.iload_n 1, 1) := by decide +kernel
theorem dX5_isOffered_25 : decode cX5_isOffered 25 = .ok (.iaload, 1) := by decide +kernel
theorem dX5_isOffered_26 : decode cX5_isOffered 26 = .ok (.aload_n 0, 1) := by decide +kernel
theorem dX5_isOffered_27 : decode cX5_isOffered 27 = .ok (.getfield 31, 3) := by decide +kernel
theorem dX5_isOffered_30 : decode cX5_isOffered 30 = .ok (.iload_n 2, 1) := by decide +kernel
theorem dX5_isOffered_31 : decode cX5_isOffered 31 = .ok (.iaload, 1) := by decide +kernel
theorem dX5_isOffered_32 : decode cX5_isOffered 32 = .ok (.aload_n 0, 1) := by decide +kernel
theorem dX5_isOffered_33 : decode cX5_isOffered 33 = .ok (.getfield 34, 3) := by decide +kernel
theorem dX5_isOffered_36 : decode cX5_isOffered 36 = .ok (.iload_n 2, 1) := by decide +kernel
theorem dX5_isOffered_37 : decode cX5_isOffered 37 = .ok (.iaload, 1) := by decide +kernel
theorem dX5_isOffered_38 : decode cX5_isOffered 38 = .ok (.invokestatic 86, 3) := by decide +kernel
theorem dX5_isOffered_41 : decode cX5_isOffered 41 = .ok (.ifCond .eq 7, 3) := by decide +kernel
theorem dX5_isOffered_44 : decode cX5_isOffered 44 = .ok (.iconst 1, 1) := by decide +kernel
theorem dX5_isOffered_45 : decode cX5_isOffered 45 = .ok (.goto 4, 3) := by decide +kernel
theorem dX5_isOffered_48 : decode cX5_isOffered 48 = .ok (.iconst 0, 1) := by decide +kernel
theorem dX5_isOffered_49 : decode cX5_isOffered 49 = .ok (.istore_n 3, 1) := by decide +kernel
theorem dX5_isOffered_50 : decode cX5_isOffered 50 = .ok (.iload_n 3, 1) := by decide +kernel
theorem dX5_isOffered_51 : decode cX5_isOffered 51 = .ok (.ifCond .eq 30, 3) := by decide +kernel
theorem dX5_isOffered_54 : decode cX5_isOffered 54 = .ok (.aload_n 0, 1) := by decide +kernel
theorem dX5_isOffered_55 : decode cX5_isOffered 55 = .ok (.iload_n 1, 1) := by decide +kernel
theorem dX5_isOffered_56 : decode cX5_isOffered 56 = .ok (.invokevirtual 134, 3) := by decide +kernel
theorem dX5_isOffered_59 : decode cX5_isOffered 59 = .ok (.aload_n 0, 1) := by decide +kernel
theorem dX5_isOffered_60 : decode cX5_isOffered 60 = .ok (.getfield 37, 3) := by decide +kernel
theorem dX5_isOffered_63 : decode cX5_isOffered 63 = .ok (.iload_n 2, 1) := by decide +kernel
theorem dX5_isOffered_64 : decode cX5_isOffered 64 = .ok (.iaload, 1) := by decide +kernel
theorem dX5_isOffered_65 : decode cX5_isOffered 65 = .ok (.if_icmp .lt 16, 3) := by decide +kernel
theorem dX5_isOffered_68 : decode cX5_isOffered 68 = .ok (.aload_n 0, 1) := by decide +kernel
theorem dX5_isOffered_69 : decode cX5_isOffered 69 = .ok (.iload_n 2, 1) := by decide +kernel
theorem dX5_isOffered_70 : decode cX5_isOffered 70 = .ok (.invokevirtual 146, 3) := by decide +kernel
theorem dX5_isOffered_73 : decode cX5_isOffered 73 = .ok (.iconst (-1), 1) := by decide +kernel
theorem dX5_isOffered_74 : decode cX5_isOffered 74 = .ok (.if_icmp .eq 7, 3) := by decide +kernel
theorem dX5_isOffered_77 : decode cX5_isOffered 77 = .ok (.iconst 1, 1) := by decide +kernel
theorem dX5_isOffered_78 : decode cX5_isOffered 78 = .ok (.goto 4, 3) := by decide +kernel
theorem dX5_isOffered_81 : decode cX5_isOffered 81 = .ok (.iconst 0, 1) := by decide +kernel
theorem dX5_isOffered_82 : decode cX5_isOffered 82 = .ok (.ireturn, 1) := by decide +kernel
set_option maxRecDepth 20000 in
theorem ggX5_offersTo_X5_isOffered : GoodIn wsX5_offersTo wsX5_isOffered := goodIn_r _ [6, 7, 8, 9, 10, 11, 12, 13, 14, 5, 15, 16, 17, 18, 19, 20, 21, 22, 23, 24, 25, 26, 27, 28, 29, 30, 31, 32, 33, 34, 35, 36, 37, 38, 39, 40, 41, 42, 43, 44, 45, 46, 47, 48, 49, 50, 51, 52, 53, 54, 55, 56, 57, 58, 59, 60, 61, 62, 63, 64, 65, 66, 67, 68, 69, 70, 71, 72, 73, 74, 75] (by decide +kernel) (by decide +kernel)
set_option maxRecDepth 20000 in
theorem gX5_offersTo_X5_isOffered : GoodIn wsX5_offersTo (wsV RX5 149 RX5 yX5_isOffered wsX5_isOffered) := goodIn_app (goodIn_of _ (by decide +kernel)) ggX5_offersTo_X5_isOffered
theorem dX5_offersTo_0 : decode cX5_offersTo 0 = .ok (.iconst 0, 1) := by decide +kernel
theorem dX5_offersTo_1 : decode cX5_offersTo 1 = .ok (.istore_n 2, 1) := by decide +kernel
theorem dX5_offersTo_2 : decode cX5_offersTo 2 = .ok (.iconst 0, 1) := by decide +kernel
theorem dX5_offersTo_3 : decode cX5_offersTo 3 = .ok (.istore_n 3, 1) := by decide +kernel
theorem dX5_offersTo_4 : decode cX5_offersTo 4 = .ok (.iload_n 3, 1) := by decide +kernel
theorem dX5_offersTo_5 : decode cX5_offersTo 5 = .ok (.aload_n 0, 1) := by decide +kernel
theorem dX5_offersTo_6 : decode cX5_offersTo 6 = .ok (.getfield 83, 3) := by decide +kernel
theorem dX5_offersTo_9 : decode cX5_offersTo 9 = .ok (.if_icmp .ge 26, 3) := by decide +kernel
theorem dX5_offersTo_12 : decode cX5_offersTo 12 = .ok (.iload_n 2, 1) := by decide +kernel
theorem dX5_offersTo_13 : decode cX5_offersTo 13 = .ok (.aload_n 0, 1) := by decide +kernel
theorem dX5_offersTo_14 : decode cX5_offersTo 14 = .ok (.iload_n 1, 1) := by decide +kernel
theorem dX5_offersTo_15 : decode cX5_offersTo 15 = .ok (.iload_n 3, 1) := by decide +kernel
theorem dX5_offersTo_16 : decode cX5_offersTo 16 = .ok (.invokevirtual 149, 3) := by decide +kernel
theorem dX5_offersTo_19 : decode cX5_offersTo 19 = .ok (.ifCond .eq 7, 3) := by decide +kernel
theorem dX5_offersTo_22 : decode cX5_offersTo 22 = .ok (.iconst 1, 1) := by decide +kernel
theorem dX5_offersTo_23 : decode cX5_offersTo 23 = .ok (.goto 4, 3) := by decide +kernel
theorem dX5_offersTo_26 : decode cX5_offersTo 26 = .ok (.iconst 0, 1) := by decide +kernel
theorem dX5_offersTo_27 : decode cX5_offersTo 27 = .ok (.iadd, 1) := by decide +kernel
theorem dX5_offersTo_28 : decode cX5_offersTo 28 = .ok (.istore_n 2, 1) := by decide +kernel
theorem dX5_offersTo_29 : decode cX5_offersTo 29 = .ok (.iinc 3 1, 3) := by decide +kernel
theorem dX5_offersTo_32 : decode cX5_offersTo 32 = .ok (.goto (-28), 3) := by decide +kernel
theorem dX5_offersTo_35 : decode cX5_offersTo 35 = .ok (.iload_n 2, 1) := by decide +kernel
theorem dX5_offersTo_36 : decode cX5_offersTo 36 = .ok (.ireturn, 1) := by decide +kernel
set_option maxRecDepth 20000 in
theorem ggX5_offers_X5_isGroup : GoodIn wsX5_offers wsX5_isGroup := goodIn_r _ [5, 6, 7, 8, 4, 9, 57, 58, 59, 60, 61, 62, 63, 64, 65, 66, 67, 68, 69, 70, 71, 72, 73, 74, 75, 76, 77, 78, 79, 80, 81, 82, 83, 84, 85, 86, 87, 88, 89] (by decide +kernel) (by decide +kernel)
set_option maxRecDepth 20000 in
theorem gX5_offers_X5_isGroup : GoodIn wsX5_offers (wsV RX5 127 RX5 yX5_isGroup wsX5_isGroup) := goodIn_app (goodIn_of _ (by decide +kernel)) ggX5_offers_X5_isGroup
set_option maxRecDepth 20000 in
theorem ggX5_offers_X5_isFine : GoodIn wsX5_offers wsX5_isFine := goodIn_r _ [13, 14, 57, 58, 59, 60, 61, 62, 63, 64, 65, 66, 67, 68, 69, 70, 71, 72, 73, 74, 75, 76, 77, 78, 79, 80, 81, 82, 83, 84, 85, 86, 87, 88, 89] (by decide +kernel) (by decide +kernel)
set_option maxRecDepth 20000 in
theorem gX5_offers_X5_isFine : GoodIn wsX5_offers (wsV RX5 99 RX5 yX5_isFine wsX5_isFine) := goodIn_app (goodIn_of _ (by decide +kernel)) ggX5_offers_X5_isFine
set_option maxRecDepth 20000 in
theorem ggX5_offers_X5_offersTo : GoodIn wsX5_offers wsX5_offersTo := goodIn_r _ [18, 19, 20, 21, 22, 4, 23, 24, 25, 26, 27, 28, 29, 7, 8, 9, 30, 31, 32, 33, 34, 35, 36, 37, 38, 39, 40, 41, 42, 43, 44, 45, 46, 47, 48, 49, 50, 51, 52, 53, 54, 55, 56, 57, 58, 59, 60, 61, 62, 63, 64, 65, 66, 67, 68, 69, 70, 71, 72, 73, 74, 75, 76, 77, 78, 79, 80, 81, 82, 83, 84, 85, 86, 87, 88, 89] (by decide +kernel) (by decide +kernel)
set_option maxRecDepth 20000 in
theorem gX5_offers_X5_offersTo : GoodIn wsX5_offers (wsV RX5 153 RX5 yX5_offersTo wsX5_offersTo) := goodIn_app (goodIn_of _ (by decide +kernel)) ggX5_offers_X5_offersTo
theorem dX5_offers_0 : decode cX5_offers 0 = .ok (.aload_n 0, 1) := by decide +kernel
theorem dX5_offers_1 : decode cX5_offers 1 = .ok (.aload_n 0, 1) := by decide +kernel
theorem dX5_offers_2 : decode cX5_offers 2 = .ok (.iload_n 1, 1) := by decide +kernel
theorem dX5_offers_3 : decode cX5_offers 3 = .ok (.invokevirtual 127, 3) := by decide +kernel
theorem dX5_offers_6 : decode cX5_offers 6 = .ok (.ifCond .eq 7, 3) := by decide +kernel
theorem dX5_offers_9 : decode cX5_offers 9 = .ok (.iconst 0, 1) := by decide +kernel
theorem dX5_offers_10 : decode cX5_offers 10 = .ok (.goto 4, 3) := by decide +kernel
theorem dX5_offers_13 : decode cX5_offers 13 = .ok (.iconst 1, 1) := by decide +kernel
theorem dX5_offers_14 : decode cX5_offers 14 = .ok (.invokevirtual 99, 3) := by decide +kernel
theorem dX5_offers_17 : decode cX5_offers 17 = .ok (.ifCond .eq 11, 3) := by decide +kernel
theorem dX5_offers_20 : decode cX5_offers 20 = .ok (.aload_n 0, 1) := by decide +kernel
theorem dX5_offers_21 : decode cX5_offers 21 = .ok (.iload_n 1, 1) := by decide +kernel
theorem dX5_offers_22 : decode cX5_offers 22 = .ok (.invokevirtual 153, 3) := by decide +kernel
theorem dX5_offers_25 : decode cX5_offers 25 = .ok (.goto 4, 3) := by decide +kernel
theorem dX5_offers_28 : decode cX5_offers 28 = .ok (.iconst 0, 1) := by decide +kernel
theorem dX5_offers_29 : decode cX5_offers 29 = .ok (.ireturn, 1) := by decide +kernel
set_option maxRecDepth 20000 in
theorem ggX5_ahead_X5_isOffered : GoodIn wsX5_ahead wsX5_isOffered := goodIn_r _ [7, 8, 9, 10, 11, 12, 2, 13, 14, 6, 15, 16, 17, 18, 19, 20, 21, 22, 23, 24, 25, 26, 27, 28, 29, 30, 31, 32, 33, 34, 35, 36, 37, 38, 39, 40, 41, 42, 43, 44, 45, 46, 47, 48, 49, 50, 51, 52, 53, 54, 55, 56, 57, 58, 59, 60, 61, 62, 63, 64, 65, 66, 67, 68, 69, 70, 71, 72, 73, 74, 75] (by decide +kernel) (by decide +kernel)
set_option maxRecDepth 20000 in
theorem gX5_ahead_X5_isOffered : GoodIn wsX5_ahead (wsV RX5 149 RX5 yX5_isOffered wsX5_isOffered) := goodIn_app (goodIn_of _ (by decide +kernel)) ggX5_ahead_X5_isOffered
theorem dX5_ahead_0 : decode cX5_ahead 0 = .ok (.iconst 0, 1) := by decide +kernel
theorem dX5_ahead_1 : decode cX5_ahead 1 = .ok (.istore_n 3, 1) := by decide +kernel
theorem dX5_ahead_2 : decode cX5_ahead 2 = .ok (.iconst 0, 1) := by decide +kernel
theorem dX5_ahead_3 : decode cX5_ahead 3 = .ok (.istore 4, 2) := by decide +kernel
theorem dX5_ahead_5 : decode cX5_ahead 5 = .ok (.iload 4, 2) := by decide +kernel
theorem dX5_ahead_7 : decode cX5_ahead 7 = .ok (.aload_n 0, 1) := by decide +kernel
theorem dX5_ahead_8 : decode cX5_ahead 8 = .ok (.getfield 83, 3) := by decide +kernel
theorem dX5_ahead_11 : decode cX5_ahead 11 = .ok (.if_icmp .ge 77, 3) := by decide +kernel
theorem dX5_ahead_14 : decode cX5_ahead 14 = .ok (.aload_n 0, 1) := by decide +kernel
theorem dX5_ahead_15 : decode cX5_ahead 15 = .ok (.getfield 37, 3) := by decide +kernel
theorem dX5_ahead_18 : decode cX5_ahead 18 = .ok (.iload 4, 2) := by decide +kernel
theorem dX5_ahead_20 : decode cX5_ahead 20 = .ok (.iaload, 1) := by decide +kernel
theorem dX5_ahead_21 : decode cX5_ahead 21 = .ok (.aload_n 0, 1) := by decide +kernel
theorem dX5_ahead_22 : decode cX5_ahead 22 = .ok (.getfield 37, 3) := by decide +kernel
theorem dX5_ahead_25 : decode cX5_ahead 25 = .ok (.iload_n 2, 1) := by decide +kernel
theorem dX5_ahead_26 : decode cX5_ahead 26 = .ok (.iaload, 1) := by decide +kernel
theorem dX5_ahead_27 : decode cX5_ahead 27 = .ok (.if_icmp .gt 25, 3) := by decide +kernel
theorem dX5_ahead_30 : decode cX5_ahead 30 = .ok (.aload_n 0, 1) := by decide +kernel
theorem dX5_ahead_31 : decode cX5_ahead 31 = .ok (.getfield 37, 3) := by decide +kernel
theorem dX5_ahead_34 : decode cX5_ahead 34 = .ok (.iload 4, 2) := by decide +kernel
theorem dX5_ahead_36 : decode cX5_ahead 36 = .ok (.iaload, 1) := by decide +kernel
theorem dX5_ahead_37 : decode cX5_ahead 37 = .ok (.aload_n 0, 1) := by decide +kernel
theorem dX5_ahead_38 : decode cX5_ahead 38 = .ok (.getfield 37, 3) := by decide +kernel
theorem dX5_ahead_41 : decode cX5_ahead 41 = .ok (.iload_n 2, 1) := by decide +kernel
theorem dX5_ahead_42 : decode cX5_ahead 42 = .ok (.iaload, 1) := by decide +kernel
theorem dX5_ahead_43 : decode cX5_ahead 43 = .ok (.if_icmp .ne 13, 3) := by decide +kernel
theorem dX5_ahead_46 : decode cX5_ahead 46 = .ok (.iload 4, 2) := by decide +kernel
theorem dX5_ahead_48 : decode cX5_ahead 48 = .ok (.iload_n 2, 1) := by decide +kernel
theorem dX5_ahead_49 : decode cX5_ahead 49 = .ok (.if_icmp .ge 7, 3) := by decide +kernel
theorem dX5_ahead_52 : decode cX5_ahead 52 = .ok (.iconst 1, 1) := by decide +kernel
theorem dX5_ahead_53 : decode cX5_ahead 53 = .ok (.goto 4, 3) := by decide +kernel
theorem dX5_ahead_56 : decode cX5_ahead 56 = .ok (.iconst 0, 1) := by decide +kernel
theorem dX5_ahead_57 : decode cX5_ahead 57 = .ok (.istore 5, 2) := by decide +kernel
theorem dX5_ahead_59 : decode cX5_ahead 59 = .ok (.iload_n 3, 1) := by decide +kernel
theorem dX5_ahead_60 : decode cX5_ahead 60 = .ok (.iload 5, 2) := by decide +kernel
theorem dX5_ahead_62 : decode cX5_ahead 62 = .ok (.ifCond .eq 17, 3) := by decide +kernel
theorem dX5_ahead_65 : decode cX5_ahead 65 = .ok (.aload_n 0, 1) := by decide +kernel
theorem dX5_ahead_66 : decode cX5_ahead 66 = .ok (.iload_n 1, 1) := by decide +kernel
theorem dX5_ahead_67 : decode cX5_ahead 67 = .ok (.iload 4, 2) := by decide +kernel
theorem dX5_ahead_69 : decode cX5_ahead 69 = .ok (.invokevirtual 149, 3) := by decide +kernel
theorem dX5_ahead_72 : decode cX5_ahead 72 = .ok (.ifCond .eq 7, 3) := by decide +kernel
theorem dX5_ahead_75 : decode cX5_ahead 75 = .ok (.iconst 1, 1) := by decide +kernel
theorem dX5_ahead_76 : decode cX5_ahead 76 = .ok (.goto 4, 3) := by decide +kernel
theorem dX5_ahead_79 : decode cX5_ahead 79 = .ok (.iconst 0, 1) := by decide +kernel
theorem dX5_ahead_80 : decode cX5_ahead 80 = .ok (.iadd, 1) := by decide +kernel
theorem dX5_ahead_81 : decode cX5_ahead 81 = .ok (.istore_n 3, 1) := by decide +kernel
theorem dX5_ahead_82 : decode cX5_ahead 82 = .ok (.iinc 4 1, 3) := by decide +kernel
theorem dX5_ahead_85 : decode cX5_ahead 85 = .ok (.goto (-80), 3) := by decide +kernel
theorem dX5_ahead_88 : decode cX5_ahead 88 = .ok (.iload_n 3, 1) := by decide +kernel
theorem dX5_ahead_89 : decode cX5_ahead 89 = .ok (.ireturn, 1) := by decide +kernel
set_option maxRecDepth 20000 in
theorem ggX5_offerAt_X5_isGroup : GoodIn wsX5_offerAt wsX5_isGroup := goodIn_r _ [6, 7, 8, 9, 5, 10, 61, 62, 63, 64, 65, 66, 67, 68, 69, 70, 71, 72, 73, 74, 75, 76, 77, 78, 79, 80, 81, 82, 83, 84, 85, 86, 87, 88, 89, 90, 91, 92, 93] (by decide +kernel) (by decide +kernel)
set_option maxRecDepth 20000 in
theorem gX5_offerAt_X5_isGroup : GoodIn wsX5_offerAt (wsV RX5 127 RX5 yX5_isGroup wsX5_isGroup) := goodIn_app (goodIn_of _ (by decide +kernel)) ggX5_offerAt_X5_isGroup
set_option maxRecDepth 20000 in
theorem ggX5_offerAt_X5_offersTo : GoodIn wsX5_offerAt wsX5_offersTo := goodIn_r _ [14, 1, 15, 16, 17, 5, 18, 19, 20, 21, 22, 23, 24, 8, 9, 10, 25, 26, 27, 28, 29, 30, 31, 32, 33, 34, 35, 36, 37, 38, 39, 40, 41, 42, 43, 44, 45, 46, 47, 48, 49, 50, 51, 61, 62, 63, 64, 65, 66, 67, 68, 69, 70, 71, 72, 73, 74, 75, 76, 77, 78, 79, 80, 81, 82, 83, 84, 85, 86, 87, 88, 89, 90, 91, 92, 93] (by decide +kernel) (by decide +kernel)
set_option maxRecDepth 20000 in
theorem gX5_offerAt_X5_offersTo : GoodIn wsX5_offerAt (wsV RX5 153 RX5 yX5_offersTo wsX5_offersTo) := goodIn_app (goodIn_of _ (by decide +kernel)) ggX5_offerAt_X5_offersTo
set_option maxRecDepth 20000 in
theorem ggX5_offerAt_X5_isIn : GoodIn wsX5_offerAt wsX5_isIn := goodIn_r _ [10] (by decide +kernel) (by decide +kernel)
set_option maxRecDepth 20000 in
theorem gX5_offerAt_X5_isIn : GoodIn wsX5_offerAt (va_wsS RX5 86 yX5_isIn wsX5_isIn) := goodIn_app (goodIn_of _ (by decide +kernel)) ggX5_offerAt_X5_isIn
set_option maxRecDepth 20000 in
theorem ggX5_offerAt_X5_isFine : GoodIn wsX5_offerAt wsX5_isFine := goodIn_r _ [55, 56, 61, 62, 63, 64, 65, 66, 67, 68, 69, 70, 71, 72, 73, 74, 75, 76, 77, 78, 79, 80, 81, 82, 83, 84, 85, 86, 87, 88, 89, 90, 91, 92, 93] (by decide +kernel) (by decide +kernel)
set_option maxRecDepth 20000 in
theorem gX5_offerAt_X5_isFine : GoodIn wsX5_offerAt (wsV RX5 99 RX5 yX5_isFine wsX5_isFine) := goodIn_app (goodIn_of _ (by decide +kernel)) ggX5_offerAt_X5_isFine
set_option maxRecDepth 20000 in
theorem ggX5_offerAt_X5_isOffered : GoodIn wsX5_offerAt wsX5_isOffered := goodIn_r _ [18, 19, 20, 21, 22, 23, 24, 8, 9, 5, 10, 25, 26, 27, 28, 29, 30, 31, 32, 33, 34, 35, 36, 37, 38, 39, 40, 41, 42, 43, 44, 45, 46, 47, 48, 49, 50, 51, 61, 62, 63, 64, 65, 66, 67, 68, 69, 70, 71, 72, 73, 74, 75, 76, 77, 78, 79, 80, 81, 82, 83, 84, 85, 86, 87, 88, 89, 90, 91, 92, 93] (by decide +kernel) (by decide +kernel)
set_option maxRecDepth 20000 in
theorem gX5_offerAt_X5_isOffered : GoodIn wsX5_offerAt (wsV RX5 149 RX5 yX5_isOffered wsX5_isOffered) := goodIn_app (goodIn_of _ (by decide +kernel)) ggX5_offerAt_X5_isOffered
set_option maxRecDepth 20000 in
theorem ggX5_offerAt_X5_ahead : GoodIn wsX5_offerAt wsX5_ahead := goodIn_r _ [60, 1, 24, 15, 16, 17, 5, 18, 19, 20, 21, 22, 23, 8, 9, 10, 25, 26, 27, 28, 29, 30, 31, 32, 33, 34, 35, 36, 37, 38, 39, 40, 41, 42, 43, 44, 45, 46, 47, 48, 49, 50, 51, 61, 62, 63, 64, 65, 66, 67, 68, 69, 70, 71, 72, 73, 74, 75, 76, 77, 78, 79, 80, 81, 82, 83, 84, 85, 86, 87, 88, 89, 90, 91, 92, 93] (by decide +kernel) (by decide +kernel)
set_option maxRecDepth 20000 in
theorem gX5_offerAt_X5_ahead : GoodIn wsX5_offerAt (wsV RX5 156 RX5 yX5_ahead wsX5_ahead) := goodIn_app (goodIn_of _ (by decide +kernel)) ggX5_offerAt_X5_ahead
theorem dX5_offerAt_0 : decode cX5_offerAt 0 = .ok (.aload_n 0, 1) := by decide +kernel
theorem dX5_offerAt_1 : decode cX5_offerAt 1 = .ok (.iload_n 1, 1) := by decide +kernel
theorem dX5_offerAt_2 : decode cX5_offerAt 2 = .ok (.invokevirtual 127, 3) := by decide +kernel
theorem dX5_offerAt_5 : decode cX5_offerAt 5 = .ok (.istore_n 3, 1) := by decide +kernel
theorem dX5_offerAt_6 : decode cX5_offerAt 6 = .ok (.aload_n 0, 1) := by decide +kernel
theorem dX5_offerAt_7 : decode cX5_offerAt 7 = .ok (.iload_n 3, 1) := by decide +kernel
theorem dX5_offerAt_8 : decode cX5_offerAt 8 = .ok (.ifCond .eq 22, 3) := by decide +kernel
theorem dX5_offerAt_11 : decode cX5_offerAt 11 = .ok (.iload_n 2, 1) := by decide +kernel
theorem dX5_offerAt_12 : decode cX5_offerAt 12 = .ok (.iconst 0, 1) := by decide +kernel
theorem dX5_offerAt_13 : decode cX5_offerAt 13 = .ok (.aload_n 0, 1) := by decide +kernel
theorem dX5_offerAt_14 : decode cX5_offerAt 14 = .ok (.iload_n 1, 1) := by decide +kernel
theorem dX5_offerAt_15 : decode cX5_offerAt 15 = .ok (.invokevirtual 153, 3) := by decide +kernel
theorem dX5_offerAt_18 : decode cX5_offerAt 18 = .ok (.iconst 1, 1) := by decide +kernel
theorem dX5_offerAt_19 : decode cX5_offerAt 19 = .ok (.isub, 1) := by decide +kernel
theorem dX5_offerAt_20 : decode cX5_offerAt 20 = .ok (.invokestatic 86, 3) := by decide +kernel
theorem dX5_offerAt_23 : decode cX5_offerAt 23 = .ok (.ifCond .eq 7, 3) := by decide +kernel
theorem dX5_offerAt_26 : decode cX5_offerAt 26 = .ok (.iconst 0, 1) := by decide +kernel
theorem dX5_offerAt_27 : decode cX5_offerAt 27 = .ok (.goto 4, 3) := by decide +kernel
theorem dX5_offerAt_30 : decode cX5_offerAt 30 = .ok (.iconst 1, 1) := by decide +kernel
theorem dX5_offerAt_31 : decode cX5_offerAt 31 = .ok (.invokevirtual 99, 3) := by decide +kernel
theorem dX5_offerAt_34 : decode cX5_offerAt 34 = .ok (.ifCond .ne 5, 3) := by decide +kernel
theorem dX5_offerAt_37 : decode cX5_offerAt 37 = .ok (.iconst 0, 1) := by decide +kernel
theorem dX5_offerAt_38 : decode cX5_offerAt 38 = .ok (.ireturn, 1) := by decide +kernel
theorem dX5_offerAt_39 : decode cX5_offerAt 39 = .ok (.iconst (-1), 1) := by decide +kernel
theorem dX5_offerAt_40 : decode cX5_offerAt 40 = .ok (.istore 4, 2) := by decide +kernel
theorem dX5_offerAt_42 : decode cX5_offerAt 42 = .ok (.iconst 0, 1) := by decide +kernel
theorem dX5_offerAt_43 : decode cX5_offerAt 43 = .ok (.istore 5, 2) := by decide +kernel
theorem dX5_offerAt_45 : decode cX5_offerAt 45 = .ok (.iload 5, 2) := by decide +kernel
theorem dX5_offerAt_47 : decode cX5_offerAt 47 = .ok (.aload_n 0, 1) := by decide +kernel
theorem dX5_offerAt_48 : decode cX5_offerAt 48 = .ok (.getfield 83, 3) := by decide +kernel
theorem dX5_offerAt_51 : decode cX5_offerAt 51 = .ok (.if_icmp .ge 39, 3) := by decide +kernel
theorem dX5_offerAt_54 : decode cX5_offerAt 54 = .ok (.aload_n 0, 1) := by decide +kernel
theorem dX5_offerAt_55 : decode cX5_offerAt 55 = .ok (.iload_n 1, 1) := by decide +kernel
theorem dX5_offerAt_56 : decode cX5_offerAt 56 = .ok (.iload 5, 2) := by decide +kernel
theorem dX5_offerAt_58 : decode cX5_offerAt 58 = .ok (.invokevirtual 149, 3) := by decide +kernel
theorem dX5_offerAt_61 : decode cX5_offerAt 61 = .ok (.ifCond .eq 19, 3) := by decide +kernel
theorem dX5_offerAt_64 : decode cX5_offerAt 64 = .ok (.aload_n 0, 1) := by decide +kernel
theorem dX5_offerAt_65 : decode cX5_offerAt 65 = .ok (.iload_n 1, 1) := by decide +kernel
theorem dX5_offerAt_66 : decode cX5_offerAt 66 = .ok (.iload 5, 2) := by decide +kernel
theorem dX5_offerAt_68 : decode cX5_offerAt 68 = .ok (.invokevirtual 156, 3) := by decide +kernel
theorem dX5_offerAt_71 : decode cX5_offerAt 71 = .ok (.iload_n 2, 1) := by decide +kernel
theorem dX5_offerAt_72 : decode cX5_offerAt 72 = .ok (.if_icmp .ne 8, 3) := by decide +kernel
theorem dX5_offerAt_75 : decode cX5_offerAt 75 = .ok (.iload 5, 2) := by decide +kernel
theorem dX5_offerAt_77 : decode cX5_offerAt 77 = .ok (.goto 5, 3) := by decide +kernel
theorem dX5_offerAt_80 : decode cX5_offerAt 80 = .ok (.iload 4, 2) := by decide +kernel
theorem dX5_offerAt_82 : decode cX5_offerAt 82 = .ok (.istore 4, 2) := by decide +kernel
theorem dX5_offerAt_84 : decode cX5_offerAt 84 = .ok (.iinc 5 1, 3) := by decide +kernel
theorem dX5_offerAt_87 : decode cX5_offerAt 87 = .ok (.goto (-42), 3) := by decide +kernel
theorem dX5_offerAt_90 : decode cX5_offerAt 90 = .ok (.iload 4, 2) := by decide +kernel
theorem dX5_offerAt_92 : decode cX5_offerAt 92 = .ok (.ireturn, 1) := by decide +kernel
set_option maxRecDepth 20000 in
theorem ggX5_lends_X5_lendsTo : GoodIn wsX5_lends wsX5_lendsTo := goodIn_r _ [15, 7, 9, 6, 16, 17, 18, 19, 20, 21, 22, 23, 24, 25, 26, 27, 28, 29, 30, 31, 32, 33, 34, 35, 36, 37, 38, 39, 40, 41, 42, 43, 44, 45, 46, 47, 48] (by decide +kernel) (by decide +kernel)
set_option maxRecDepth 20000 in
theorem gX5_lends_X5_lendsTo : GoodIn wsX5_lends (wsV RX5 160 RX5 yX5_lendsTo wsX5_lendsTo) := goodIn_app (goodIn_of _ (by decide +kernel)) ggX5_lends_X5_lendsTo
theorem dX5_lends_0 : decode cX5_lends 0 = .ok (.iconst 0, 1) := by decide +kernel
theorem dX5_lends_1 : decode cX5_lends 1 = .ok (.istore_n 2, 1) := by decide +kernel
theorem dX5_lends_2 : decode cX5_lends 2 = .ok (.iload_n 2, 1) := by decide +kernel
theorem dX5_lends_3 : decode cX5_lends 3 = .ok (.iconst 4, 1) := by decide +kernel
theorem dX5_lends_4 : decode cX5_lends 4 = .ok (.if_icmp .ge 248, 3) := by decide +kernel
theorem dX5_lends_7 : decode cX5_lends 7 = .ok (.aload_n 0, 1) := by decide +kernel
theorem dX5_lends_8 : decode cX5_lends 8 = .ok (.getfield 40, 3) := by decide +kernel
theorem dX5_lends_11 : decode cX5_lends 11 = .ok (.iconst 4, 1) := by decide +kernel
theorem dX5_lends_12 : decode cX5_lends 12 = .ok (.aload_n 0, 1) := by decide +kernel
theorem dX5_lends_13 : decode cX5_lends 13 = .ok (.getfield 43, 3) := by decide +kernel
theorem dX5_lends_16 : decode cX5_lends 16 = .ok (.iload_n 1, 1) := by decide +kernel
theorem dX5_lends_17 : decode cX5_lends 17 = .ok (.iaload, 1) := by decide +kernel
theorem dX5_lends_18 : decode cX5_lends 18 = .ok (.imul, 1) := by decide +kernel
theorem dX5_lends_19 : decode cX5_lends 19 = .ok (.iload_n 2, 1) := by decide +kernel
theorem dX5_lends_20 : decode cX5_lends 20 = .ok (.iadd, 1) := by decide +kernel
theorem dX5_lends_21 : decode cX5_lends 21 = .ok (.iaload, 1) := by decide +kernel
theorem dX5_lends_22 : decode cX5_lends 22 = .ok (.aload_n 0, 1) := by decide +kernel
theorem dX5_lends_23 : decode cX5_lends 23 = .ok (.getfield 49, 3) := by decide +kernel
theorem dX5_lends_26 : decode cX5_lends 26 = .ok (.iconst 4, 1) := by decide +kernel
theorem dX5_lends_27 : decode cX5_lends 27 = .ok (.iload_n 1, 1) := by decide +kernel
theorem dX5_lends_28 : decode cX5_lends 28 = .ok (.imul, 1) := by decide +kernel
theorem dX5_lends_29 : decode cX5_lends 29 = .ok (.iload_n 2, 1) := by decide +kernel
theorem dX5_lends_30 : decode cX5_lends 30 = .ok (.iadd, 1) := by decide +kernel
theorem dX5_lends_31 : decode cX5_lends 31 = .ok (.iaload, 1) := by decide +kernel
theorem dX5_lends_32 : decode cX5_lends 32 = .ok (.isub, 1) := by decide +kernel
theorem dX5_lends_33 : decode cX5_lends 33 = .ok (.istore_n 3, 1) := by decide +kernel
theorem dX5_lends_34 : decode cX5_lends 34 = .ok (.iconst 0, 1) := by decide +kernel
theorem dX5_lends_35 : decode cX5_lends 35 = .ok (.istore 4, 2) := by decide +kernel
theorem dX5_lends_37 : decode cX5_lends 37 = .ok (.iload 4, 2) := by decide +kernel
theorem dX5_lends_39 : decode cX5_lends 39 = .ok (.aload_n 0, 1) := by decide +kernel
theorem dX5_lends_40 : decode cX5_lends 40 = .ok (.getfield 90, 3) := by decide +kernel
theorem dX5_lends_43 : decode cX5_lends 43 = .ok (.if_icmp .ge 203, 3) := by decide +kernel
theorem dX5_lends_46 : decode cX5_lends 46 = .ok (.iload_n 3, 1) := by decide +kernel
theorem dX5_lends_47 : decode cX5_lends 47 = .ok (.ifCond .le 199, 3) := by decide +kernel
theorem dX5_lends_50 : decode cX5_lends 50 = .ok (.iload 4, 2) := by decide +kernel
theorem dX5_lends_52 : decode cX5_lends 52 = .ok (.iload_n 1, 1) := by decide +kernel
theorem dX5_lends_53 : decode cX5_lends 53 = .ok (.if_icmp .eq 44, 3) := by decide +kernel
theorem dX5_lends_56 : decode cX5_lends 56 = .ok (.aload_n 0, 1) := by decide +kernel
theorem dX5_lends_57 : decode cX5_lends 57 = .ok (.getfield 43, 3) := by decide +kernel
theorem dX5_lends_60 : decode cX5_lends 60 = .ok (.iload 4, 2) := by decide +kernel
theorem dX5_lends_62 : decode cX5_lends 62 = .ok (.iaload, 1) := by decide +kernel
theorem dX5_lends_63 : decode cX5_lends 63 = .ok (.aload_n 0, 1) := by decide +kernel
theorem dX5_lends_64 : decode cX5_lends 64 = .ok (.getfield 43, 3) := by decide +kernel
theorem dX5_lends_67 : decode cX5_lends 67 = .ok (.iload_n 1, 1) := by decide +kernel
theorem dX5_lends_68 : decode cX5_lends 68 = .ok (.iaload, 1) := by decide +kernel
theorem dX5_lends_69 : decode cX5_lends 69 = .ok (.if_icmp .ne 28, 3) := by decide +kernel
theorem dX5_lends_72 : decode cX5_lends 72 = .ok (.aload_n 0, 1) := by decide +kernel
theorem dX5_lends_73 : decode cX5_lends 73 = .ok (.getfield 46, 3) := by decide +kernel
theorem dX5_lends_76 : decode cX5_lends 76 = .ok (.iload 4, 2) := by decide +kernel
theorem dX5_lends_78 : decode cX5_lends 78 = .ok (.iaload, 1) := by decide +kernel
theorem dX5_lends_79 : decode cX5_lends 79 = .ok (.iconst 1, 1) := by decide +kernel
theorem dX5_lends_80 : decode cX5_lends 80 = .ok (.if_icmp .eq 17, 3) := by decide +kernel
theorem dX5_lends_83 : decode cX5_lends 83 = .ok (.aload_n 0, 1) := by decide +kernel
theorem dX5_lends_84 : decode cX5_lends 84 = .ok (.getfield 49, 3) := by decide +kernel
theorem dX5_lends_87 : decode cX5_lends 87 = .ok (.iconst 4, 1) := by decide +kernel
theorem dX5_lends_88 : decode cX5_lends 88 = .ok (.iload 4, 2) := by decide +kernel
theorem dX5_lends_90 : decode cX5_lends 90 = .ok (.imul, 1) := by decide +kernel
theorem dX5_lends_91 : decode cX5_lends 91 = .ok (.iload_n 2, 1) := by decide +kernel
theorem dX5_lends_92 : decode cX5_lends 92 = .ok (.iadd, 1) := by decide +kernel
theorem dX5_lends_93 : decode cX5_lends 93 = .ok (.iaload, 1) := by decide +kernel
theorem dX5_lends_94 : decode cX5_lends 94 = .ok (.goto 4, 3) := by decide +kernel
theorem dX5_lends_97 : decode cX5_lends 97 = .ok (.iconst 0, 1) := by decide +kernel
theorem dX5_lends_98 : decode cX5_lends 98 = .ok (.istore 5, 2) := by decide +kernel
theorem dX5_lends_100 : decode cX5_lends 100 = .ok (.aload_n 0, 1) := by decide +kernel
theorem dX5_lends_101 : decode cX5_lends 101 = .ok (.getfield 46, 3) := by decide +kernel
theorem dX5_lends_104 : decode cX5_lends 104 = .ok (.iload 4, 2) := by decide +kernel
theorem dX5_lends_106 : decode cX5_lends 106 = .ok (.iaload, 1) := by decide +kernel
theorem dX5_lends_107 : decode cX5_lends 107 = .ok (.iconst 2, 1) := by decide +kernel
theorem dX5_lends_108 : decode cX5_lends 108 = .ok (.if_icmp .ne 17, 3) := by decide +kernel
theorem dX5_lends_111 : decode cX5_lends 111 = .ok (.aload_n 0, 1) := by decide +kernel
theorem dX5_lends_112 : decode cX5_lends 112 = .ok (.iload 4, 2) := by decide +kernel
theorem dX5_lends_114 : decode cX5_lends 114 = .ok (.iload_n 1, 1) := by decide +kernel
theorem dX5_lends_115 : decode cX5_lends 115 = .ok (.invokevirtual 160, 3) := by decide +kernel
theorem dX5_lends_118 : decode cX5_lends 118 = .ok (.ifCond .ne 7, 3) := by decide +kernel
theorem dX5_lends_121 : decode cX5_lends 121 = .ok (.iconst 0, 1) := by decide +kernel
theorem dX5_lends_122 : decode cX5_lends 122 = .ok (.goto 15, 3) := by decide +kernel
theorem dX5_lends_125 : decode cX5_lends 125 = .ok (.iload 5, 2) := by decide +kernel
theorem dX5_lends_127 : decode cX5_lends 127 = .ok (.iload_n 3, 1) := by decide +kernel
theorem dX5_lends_128 : decode cX5_lends 128 = .ok (.if_icmp .le 7, 3) := by decide +kernel
theorem dX5_lends_131 : decode cX5_lends 131 = .ok (.iload_n 3, 1) := by decide +kernel
theorem dX5_lends_132 : decode cX5_lends 132 = .ok (.goto 5, 3) := by decide +kernel
theorem dX5_lends_135 : decode cX5_lends 135 = .ok (.iload 5, 2) := by decide +kernel
theorem dX5_lends_137 : decode cX5_lends 137 = .ok (.istore 5, 2) := by decide +kernel
theorem dX5_lends_139 : decode cX5_lends 139 = .ok (.iload 5, 2) := by decide +kernel
theorem dX5_lends_141 : decode cX5_lends 141 = .ok (.ifCond .le 99, 3) := by decide +kernel
theorem dX5_lends_144 : decode cX5_lends 144 = .ok (.aload_n 0, 1) := by decide +kernel
theorem dX5_lends_145 : decode cX5_lends 145 = .ok (.getfield 52, 3) := by decide +kernel
theorem dX5_lends_148 : decode cX5_lends 148 = .ok (.aload_n 0, 1) := by decide +kernel
theorem dX5_lends_149 : decode cX5_lends 149 = .ok (.getfield 163, 3) := by decide +kernel
theorem dX5_lends_152 : decode cX5_lends 152 = .ok (.iload_n 1, 1) := by decide +kernel
theorem dX5_lends_153 : decode cX5_lends 153 = .ok (.iastore, 1) := by decide +kernel
theorem dX5_lends_154 : decode cX5_lends 154 = .ok (.aload_n 0, 1) := by decide +kernel
theorem dX5_lends_155 : decode cX5_lends 155 = .ok (.getfield 55, 3) := by decide +kernel
theorem dX5_lends_158 : decode cX5_lends 158 = .ok (.aload_n 0, 1) := by decide +kernel
theorem dX5_lends_159 : decode cX5_lends 159 = .ok (.getfield 163, 3) := by decide +kernel
theorem dX5_lends_162 : decode cX5_lends 162 = .ok (.iload_n 2, 1) := by decide +kernel
theorem dX5_lends_163 : decode cX5_lends 163 = .ok (.iastore, 1) := by decide +kernel
theorem dX5_lends_164 : decode cX5_lends 164 = .ok (.aload_n 0, 1) := by decide +kernel
theorem dX5_lends_165 : decode cX5_lends 165 = .ok (.getfield 58, 3) := by decide +kernel
theorem dX5_lends_168 : decode cX5_lends 168 = .ok (.aload_n 0, 1) := by decide +kernel
theorem dX5_lends_169 : decode cX5_lends 169 = .ok (.getfield 163, 3) := by decide +kernel
theorem dX5_lends_172 : decode cX5_lends 172 = .ok (.iload 4, 2) := by decide +kernel
theorem dX5_lends_174 : decode cX5_lends 174 = .ok (.iastore, 1) := by decide +kernel
theorem dX5_lends_175 : decode cX5_lends 175 = .ok (.aload_n 0, 1) := by decide +kernel
theorem dX5_lends_176 : decode cX5_lends 176 = .ok (.getfield 61, 3) := by decide +kernel
theorem dX5_lends_179 : decode cX5_lends 179 = .ok (.aload_n 0, 1) := by decide +kernel
theorem dX5_lends_180 : decode cX5_lends 180 = .ok (.getfield 163, 3) := by decide +kernel
theorem dX5_lends_183 : decode cX5_lends 183 = .ok (.iload 5, 2) := by decide +kernel
theorem dX5_lends_185 : decode cX5_lends 185 = .ok (.iastore, 1) := by decide +kernel
theorem dX5_lends_186 : decode cX5_lends 186 = .ok (.aload_n 0, 1) := by decide +kernel
theorem dX5_lends_187 : decode cX5_lends 187 = .ok (.dup, 1) := by decide +kernel
theorem dX5_lends_188 : decode cX5_lends 188 = .ok (.getfield 163, 3) := by decide +kernel
theorem dX5_lends_191 : decode cX5_lends 191 = .ok (.iconst 1, 1) := by decide +kernel
theorem dX5_lends_192 : decode cX5_lends 192 = .ok (.iadd, 1) := by decide +kernel
theorem dX5_lends_193 : decode cX5_lends 193 = .ok (.putfield 163, 3) := by decide +kernel
theorem dX5_lends_196 : decode cX5_lends 196 = .ok (.aload_n 0, 1) := by decide +kernel
theorem dX5_lends_197 : decode cX5_lends 197 = .ok (.getfield 49, 3) := by decide +kernel
theorem dX5_lends_200 : decode cX5_lends 200 = .ok (.iconst 4, 1) := by decide +kernel
theorem dX5_lends_201 : decode cX5_lends 201 = .ok (.iload 4, 2) := by decide +kernel
theorem dX5_lends_203 : decode cX5_lends 203 = .ok (.imul, 1) := by decide +kernel
theorem dX5_lends_204 : decode cX5_lends 204 = .ok (.iload_n 2, 1) := by decide +kernel
theorem dX5_lends_205 : decode cX5_lends 205 = .ok (.iadd, 1) := by decide +kernel
theorem dX5_lends_206 : decode cX5_lends 206 = .ok (.dup2, 1) := by decide +kernel
theorem dX5_lends_207 : decode cX5_lends 207 = .ok (.iaload, 1) := by decide +kernel
theorem dX5_lends_208 : decode cX5_lends 208 = .ok (.iload 5, 2) := by decide +kernel
theorem dX5_lends_210 : decode cX5_lends 210 = .ok (.isub, 1) := by decide +kernel
theorem dX5_lends_211 : decode cX5_lends 211 = .ok (.iastore, 1) := by decide +kernel
theorem dX5_lends_212 : decode cX5_lends 212 = .ok (.aload_n 0, 1) := by decide +kernel
theorem dX5_lends_213 : decode cX5_lends 213 = .ok (.getfield 49, 3) := by decide +kernel
theorem dX5_lends_216 : decode cX5_lends 216 = .ok (.iconst 4, 1) := by decide +kernel
theorem dX5_lends_217 : decode cX5_lends 217 = .ok (.iload_n 1, 1) := by decide +kernel
theorem dX5_lends_218 : decode cX5_lends 218 = .ok (.imul, 1) := by decide +kernel
theorem dX5_lends_219 : decode cX5_lends 219 = .ok (.iload_n 2, 1) := by decide +kernel
theorem dX5_lends_220 : decode cX5_lends 220 = .ok (.iadd, 1) := by decide +kernel
theorem dX5_lends_221 : decode cX5_lends 221 = .ok (.dup2, 1) := by decide +kernel
theorem dX5_lends_222 : decode cX5_lends 222 = .ok (.iaload, 1) := by decide +kernel
theorem dX5_lends_223 : decode cX5_lends 223 = .ok (.iload 5, 2) := by decide +kernel
theorem dX5_lends_225 : decode cX5_lends 225 = .ok (.iadd, 1) := by decide +kernel
theorem dX5_lends_226 : decode cX5_lends 226 = .ok (.iastore, 1) := by decide +kernel
theorem dX5_lends_227 : decode cX5_lends 227 = .ok (.aload_n 0, 1) := by decide +kernel
theorem dX5_lends_228 : decode cX5_lends 228 = .ok (.getfield 46, 3) := by decide +kernel
theorem dX5_lends_231 : decode cX5_lends 231 = .ok (.iload 4, 2) := by decide +kernel
theorem dX5_lends_233 : decode cX5_lends 233 = .ok (.iconst 2, 1) := by decide +kernel
theorem dX5_lends_234 : decode cX5_lends 234 = .ok (.iastore, 1) := by decide +kernel
theorem dX5_lends_235 : decode cX5_lends 235 = .ok (.iload_n 3, 1) := by decide +kernel
theorem dX5_lends_236 : decode cX5_lends 236 = .ok (.iload 5, 2) := by decide +kernel
theorem dX5_lends_238 : decode cX5_lends 238 = .ok (.isub, 1) := by decide +kernel
theorem dX5_lends_239 : decode cX5_lends 239 = .ok (.istore_n 3, 1) := by decide +kernel
theorem dX5_lends_240 : decode cX5_lends 240 = .ok (.iinc 4 1, 3) := by decide +kernel
theorem dX5_lends_243 : decode cX5_lends 243 = .ok (.goto (-206), 3) := by decide +kernel
theorem dX5_lends_246 : decode cX5_lends 246 = .ok (.iinc 2 1, 3) := by decide +kernel
theorem dX5_lends_249 : decode cX5_lends 249 = .ok (.goto (-247), 3) := by decide +kernel
theorem dX5_lends_252 : decode cX5_lends 252 = .ok (.return_, 1) := by decide +kernel
theorem dX5_lendsTo_0 : decode cX5_lendsTo 0 = .ok (.iconst 0, 1) := by decide +kernel
theorem dX5_lendsTo_1 : decode cX5_lendsTo 1 = .ok (.istore_n 3, 1) := by decide +kernel
theorem dX5_lendsTo_2 : decode cX5_lendsTo 2 = .ok (.iconst 0, 1) := by decide +kernel
theorem dX5_lendsTo_3 : decode cX5_lendsTo 3 = .ok (.istore 4, 2) := by decide +kernel
theorem dX5_lendsTo_5 : decode cX5_lendsTo 5 = .ok (.iload 4, 2) := by decide +kernel
theorem dX5_lendsTo_7 : decode cX5_lendsTo 7 = .ok (.aload_n 0, 1) := by decide +kernel
theorem dX5_lendsTo_8 : decode cX5_lendsTo 8 = .ok (.getfield 163, 3) := by decide +kernel
theorem dX5_lendsTo_11 : decode cX5_lendsTo 11 = .ok (.if_icmp .ge 41, 3) := by decide +kernel
theorem dX5_lendsTo_14 : decode cX5_lendsTo 14 = .ok (.iload_n 3, 1) := by decide +kernel
theorem dX5_lendsTo_15 : decode cX5_lendsTo 15 = .ok (.ifCond .ne 25, 3) := by decide +kernel
theorem dX5_lendsTo_18 : decode cX5_lendsTo 18 = .ok (.aload_n 0, 1) := by decide +kernel
theorem dX5_lendsTo_19 : decode cX5_lendsTo 19 = .ok (.getfield 58, 3) := by decide +kernel
theorem dX5_lendsTo_22 : decode cX5_lendsTo 22 = .ok (.iload 4, 2) := by decide +kernel
theorem dX5_lendsTo_24 : decode cX5_lendsTo 24 = .ok (.iaload, 1) := by decide +kernel
theorem dX5_lendsTo_25 : decode cX5_lendsTo 25 = .ok (.iload_n 1, 1) := by decide +kernel
theorem dX5_lendsTo_26 : decode cX5_lendsTo 26 = .ok (.if_icmp .ne 18, 3) := by decide +kernel
theorem dX5_lendsTo_29 : decode cX5_lendsTo 29 = .ok (.aload_n 0, 1) := by decide +kernel
theorem dX5_lendsTo_30 : decode cX5_lendsTo 30 = .ok (.getfield 52, 3) := by decide +kernel
theorem dX5_lendsTo_33 : decode cX5_lendsTo 33 = .ok (.iload 4, 2) := by decide +kernel
theorem dX5_lendsTo_35 : decode cX5_lendsTo 35 = .ok (.iaload, 1) := by decide +kernel
theorem dX5_lendsTo_36 : decode cX5_lendsTo 36 = .ok (.iload_n 2, 1) := by decide +kernel
theorem dX5_lendsTo_37 : decode cX5_lendsTo 37 = .ok (.if_icmp .ne 7, 3) := by decide +kernel
theorem dX5_lendsTo_40 : decode cX5_lendsTo 40 = .ok (.iconst 1, 1) := by decide +kernel
theorem dX5_lendsTo_41 : decode cX5_lendsTo 41 = .ok (.goto 4, 3) := by decide +kernel
theorem dX5_lendsTo_44 : decode cX5_lendsTo 44 = .ok (.iconst 0, 1) := by decide +kernel
theorem dX5_lendsTo_45 : decode cX5_lendsTo 45 = .ok (.istore_n 3, 1) := by decide +kernel
theorem dX5_lendsTo_46 : decode cX5_lendsTo 46 = .ok (.iinc 4 1, 3) := by decide +kernel
theorem dX5_lendsTo_49 : decode cX5_lendsTo 49 = .ok (.goto (-44), 3) := by decide +kernel
theorem dX5_lendsTo_52 : decode cX5_lendsTo 52 = .ok (.iload_n 3, 1) := by decide +kernel
theorem dX5_lendsTo_53 : decode cX5_lendsTo 53 = .ok (.ireturn, 1) := by decide +kernel
set_option maxRecDepth 20000 in
theorem ggX5_serve_X5_isGroup : GoodIn wsX5_serve wsX5_isGroup := goodIn_r _ [7, 8, 9, 10, 6, 11, 70, 71, 72, 73, 74, 75, 76, 77, 78, 79, 80, 81, 82, 83, 84, 85, 86, 87, 88, 89, 90, 91, 92, 93, 94, 95, 96, 97, 98, 99, 100, 101, 102] (by decide +kernel) (by decide +kernel)
set_option maxRecDepth 20000 in
theorem gX5_serve_X5_isGroup : GoodIn wsX5_serve (wsV RX5 127 RX5 yX5_isGroup wsX5_isGroup) := goodIn_app (goodIn_of _ (by decide +kernel)) ggX5_serve_X5_isGroup
set_option maxRecDepth 20000 in
theorem ggX5_serve_X5_isTitle : GoodIn wsX5_serve wsX5_isTitle := goodIn_r _ [15, 16, 9, 10, 6, 11, 70, 71, 72, 73, 74, 75, 76, 77, 78, 79, 80, 81, 82, 83, 84, 85, 86, 87, 88, 89, 90, 91, 92, 93, 94, 95, 96, 97, 98, 99, 100, 101, 102] (by decide +kernel) (by decide +kernel)
set_option maxRecDepth 20000 in
theorem gX5_serve_X5_isTitle : GoodIn wsX5_serve (wsV RX5 109 RX5 yX5_isTitle wsX5_isTitle) := goodIn_app (goodIn_of _ (by decide +kernel)) ggX5_serve_X5_isTitle
set_option maxRecDepth 20000 in
theorem ggX5_serve_X5_isOffered : GoodIn wsX5_serve wsX5_isOffered := goodIn_r _ [20, 21, 2, 22, 23, 24, 25, 9, 10, 6, 11, 26, 27, 28, 29, 30, 31, 32, 33, 34, 35, 36, 37, 38, 39, 40, 41, 42, 1, 43, 44, 45, 46, 47, 48, 49, 50, 51, 70, 71, 72, 73, 74, 75, 76, 77, 78, 79, 80, 81, 82, 83, 84, 85, 86, 87, 88, 89, 90, 91, 92, 93, 94, 95, 96, 97, 98, 99, 100, 101, 102] (by decide +kernel) (by decide +kernel)
set_option maxRecDepth 20000 in
theorem gX5_serve_X5_isOffered : GoodIn wsX5_serve (wsV RX5 149 RX5 yX5_isOffered wsX5_isOffered) := goodIn_app (goodIn_of _ (by decide +kernel)) ggX5_serve_X5_isOffered
set_option maxRecDepth 20000 in
theorem ggX5_serve_X5_isFine : GoodIn wsX5_serve wsX5_isFine := goodIn_r _ [55, 56, 70, 71, 72, 73, 74, 75, 76, 77, 78, 79, 80, 81, 82, 83, 84, 85, 86, 87, 88, 89, 90, 91, 92, 93, 94, 95, 96, 97, 98, 99, 100, 101, 102] (by decide +kernel) (by decide +kernel)
set_option maxRecDepth 20000 in
theorem gX5_serve_X5_isFine : GoodIn wsX5_serve (wsV RX5 99 RX5 yX5_isFine wsX5_isFine) := goodIn_app (goodIn_of _ (by decide +kernel)) ggX5_serve_X5_isFine
set_option maxRecDepth 20000 in
theorem ggX5_serve_X5_bestCopy : GoodIn wsX5_serve wsX5_bestCopy := goodIn_r _ [36, 37, 38, 39, 40, 41, 6, 42, 1, 43, 44, 45, 46, 47, 48, 49, 50, 51, 70, 71, 72, 73, 74, 75, 76, 77, 78, 79, 80, 81, 82, 83, 84, 85, 86, 87, 88, 89, 90, 91, 92, 93, 94, 95, 96, 97, 98, 99, 100, 101, 102] (by decide +kernel) (by decide +kernel)
set_option maxRecDepth 20000 in
theorem gX5_serve_X5_bestCopy : GoodIn wsX5_serve (wsV RX5 146 RX5 yX5_bestCopy wsX5_bestCopy) := goodIn_app (goodIn_of _ (by decide +kernel)) ggX5_serve_X5_bestCopy
set_option maxRecDepth 20000 in
theorem ggX5_serve_X5_lends : GoodIn wsX5_serve wsX5_lends := goodIn_r _ [60, 47, 38, 48, 37, 1, 61, 62, 63, 64, 65, 66, 67, 68, 6, 69, 70, 71, 72, 73, 74, 75, 76, 77, 78, 79, 80, 81, 82, 83, 84, 85, 86, 87, 88, 89, 90, 91, 92, 93, 94, 95, 96, 97, 98, 99, 100, 101, 102] (by decide +kernel) (by decide +kernel)
set_option maxRecDepth 20000 in
theorem gX5_serve_X5_lends : GoodIn wsX5_serve (wsV RX5 166 RX5 yX5_lends wsX5_lends) := goodIn_app (goodIn_of _ (by decide +kernel)) ggX5_serve_X5_lends
theorem dX5_serve_0 : decode cX5_serve 0 = .ok (.aload_n 0, 1) := by decide +kernel
theorem dX5_serve_1 : decode cX5_serve 1 = .ok (.iload_n 1, 1) := by decide +kernel
theorem dX5_serve_2 : decode cX5_serve 2 = .ok (.invokevirtual 127, 3) := by decide +kernel
theorem dX5_serve_5 : decode cX5_serve 5 = .ok (.ifCond .eq 15, 3) := by decide +kernel
theorem dX5_serve_8 : decode cX5_serve 8 = .ok (.aload_n 0, 1) := by decide +kernel
theorem dX5_serve_9 : decode cX5_serve 9 = .ok (.iload_n 2, 1) := by decide +kernel
theorem dX5_serve_10 : decode cX5_serve 10 = .ok (.invokevirtual 109, 3) := by decide +kernel
theorem dX5_serve_13 : decode cX5_serve 13 = .ok (.ifCond .eq 7, 3) := by decide +kernel
theorem dX5_serve_16 : decode cX5_serve 16 = .ok (.iconst 1, 1) := by decide +kernel
theorem dX5_serve_17 : decode cX5_serve 17 = .ok (.goto 4, 3) := by decide +kernel
theorem dX5_serve_20 : decode cX5_serve 20 = .ok (.iconst 0, 1) := by decide +kernel
theorem dX5_serve_21 : decode cX5_serve 21 = .ok (.istore_n 3, 1) := by decide +kernel
theorem dX5_serve_22 : decode cX5_serve 22 = .ok (.aload_n 0, 1) := by decide +kernel
theorem dX5_serve_23 : decode cX5_serve 23 = .ok (.iload_n 3, 1) := by decide +kernel
theorem dX5_serve_24 : decode cX5_serve 24 = .ok (.ifCond .ne 7, 3) := by decide +kernel
theorem dX5_serve_27 : decode cX5_serve 27 = .ok (.iconst 1, 1) := by decide +kernel
theorem dX5_serve_28 : decode cX5_serve 28 = .ok (.goto 17, 3) := by decide +kernel
theorem dX5_serve_31 : decode cX5_serve 31 = .ok (.aload_n 0, 1) := by decide +kernel
theorem dX5_serve_32 : decode cX5_serve 32 = .ok (.iload_n 1, 1) := by decide +kernel
theorem dX5_serve_33 : decode cX5_serve 33 = .ok (.iload_n 2, 1) := by decide +kernel
theorem dX5_serve_34 : decode cX5_serve 34 = .ok (.invokevirtual 149, 3) := by decide +kernel
theorem dX5_serve_37 : decode cX5_serve 37 = .ok (.ifCond .ne 7, 3) := by decide +kernel
theorem dX5_serve_40 : decode cX5_serve 40 = .ok (.iconst 2, 1) := by decide +kernel
theorem dX5_serve_41 : decode cX5_serve 41 = .ok (.goto 4, 3) := by decide +kernel
theorem dX5_serve_44 : decode cX5_serve 44 = .ok (.iconst 0, 1) := by decide +kernel
theorem dX5_serve_45 : decode cX5_serve 45 = .ok (.invokevirtual 99, 3) := by decide +kernel
theorem dX5_serve_48 : decode cX5_serve 48 = .ok (.ifCond .ne 5, 3) := by decide +kernel
theorem dX5_serve_51 : decode cX5_serve 51 = .ok (.iconst 0, 1) := by decide +kernel
theorem dX5_serve_52 : decode cX5_serve 52 = .ok (.ireturn, 1) := by decide +kernel
theorem dX5_serve_53 : decode cX5_serve 53 = .ok (.aload_n 0, 1) := by decide +kernel
theorem dX5_serve_54 : decode cX5_serve 54 = .ok (.iload_n 2, 1) := by decide +kernel
theorem dX5_serve_55 : decode cX5_serve 55 = .ok (.invokevirtual 146, 3) := by decide +kernel
theorem dX5_serve_58 : decode cX5_serve 58 = .ok (.istore 4, 2) := by decide +kernel
theorem dX5_serve_60 : decode cX5_serve 60 = .ok (.aload_n 0, 1) := by decide +kernel
theorem dX5_serve_61 : decode cX5_serve 61 = .ok (.iload 4, 2) := by decide +kernel
theorem dX5_serve_63 : decode cX5_serve 63 = .ok (.invokevirtual 166, 3) := by decide +kernel
theorem dX5_serve_66 : decode cX5_serve 66 = .ok (.aload_n 0, 1) := by decide +kernel
theorem dX5_serve_67 : decode cX5_serve 67 = .ok (.getfield 46, 3) := by decide +kernel
theorem dX5_serve_70 : decode cX5_serve 70 = .ok (.iload 4, 2) := by decide +kernel
theorem dX5_serve_72 : decode cX5_serve 72 = .ok (.iconst 1, 1) := by decide +kernel
theorem dX5_serve_73 : decode cX5_serve 73 = .ok (.iastore, 1) := by decide +kernel
theorem dX5_serve_74 : decode cX5_serve 74 = .ok (.aload_n 0, 1) := by decide +kernel
theorem dX5_serve_75 : decode cX5_serve 75 = .ok (.getfield 28, 3) := by decide +kernel
theorem dX5_serve_78 : decode cX5_serve 78 = .ok (.iload_n 1, 1) := by decide +kernel
theorem dX5_serve_79 : decode cX5_serve 79 = .ok (.iload 4, 2) := by decide +kernel
theorem dX5_serve_81 : decode cX5_serve 81 = .ok (.iastore, 1) := by decide +kernel
theorem dX5_serve_82 : decode cX5_serve 82 = .ok (.iload 4, 2) := by decide +kernel
theorem dX5_serve_84 : decode cX5_serve 84 = .ok (.ireturn, 1) := by decide +kernel
theorem dX5_closes_0 : decode cX5_closes 0 = .ok (.iconst 0, 1) := by decide +kernel
theorem dX5_closes_1 : decode cX5_closes 1 = .ok (.istore_n 2, 1) := by decide +kernel
theorem dX5_closes_2 : decode cX5_closes 2 = .ok (.aload_n 0, 1) := by decide +kernel
theorem dX5_closes_3 : decode cX5_closes 3 = .ok (.getfield 163, 3) := by decide +kernel
theorem dX5_closes_6 : decode cX5_closes 6 = .ok (.iconst 1, 1) := by decide +kernel
theorem dX5_closes_7 : decode cX5_closes 7 = .ok (.isub, 1) := by decide +kernel
theorem dX5_closes_8 : decode cX5_closes 8 = .ok (.istore_n 3, 1) := by decide +kernel
theorem dX5_closes_9 : decode cX5_closes 9 = .ok (.iload_n 3, 1) := by decide +kernel
theorem dX5_closes_10 : decode cX5_closes 10 = .ok (.ifCond .lt 212, 3) := by decide +kernel
theorem dX5_closes_13 : decode cX5_closes 13 = .ok (.aload_n 0, 1) := by decide +kernel
theorem dX5_closes_14 : decode cX5_closes 14 = .ok (.getfield 52, 3) := by decide +kernel
theorem dX5_closes_17 : decode cX5_closes 17 = .ok (.iload_n 3, 1) := by decide +kernel
theorem dX5_closes_18 : decode cX5_closes 18 = .ok (.iaload, 1) := by decide +kernel
theorem dX5_closes_19 : decode cX5_closes 19 = .ok (.iload_n 1, 1) := by decide +kernel
theorem dX5_closes_20 : decode cX5_closes 20 = .ok (.if_icmp .ne 196, 3) := by decide +kernel
theorem dX5_closes_23 : decode cX5_closes 23 = .ok (.aload_n 0, 1) := by decide +kernel
theorem dX5_closes_24 : decode cX5_closes 24 = .ok (.getfield 49, 3) := by decide +kernel
theorem dX5_closes_27 : decode cX5_closes 27 = .ok (.iconst 4, 1) := by decide +kernel
theorem dX5_closes_28 : decode cX5_closes 28 = .ok (.iload_n 1, 1) := by decide +kernel
theorem dX5_closes_29 : decode cX5_closes 29 = .ok (.imul, 1) := by decide +kernel
theorem dX5_closes_30 : decode cX5_closes 30 = .ok (.aload_n 0, 1) := by decide +kernel
theorem dX5_closes_31 : decode cX5_closes 31 = .ok (.getfield 55, 3) := by decide +kernel
theorem dX5_closes_34 : decode cX5_closes 34 = .ok (.iload_n 3, 1) := by decide +kernel
theorem dX5_closes_35 : decode cX5_closes 35 = .ok (.iaload, 1) := by decide +kernel
theorem dX5_closes_36 : decode cX5_closes 36 = .ok (.iadd, 1) := by decide +kernel
theorem dX5_closes_37 : decode cX5_closes 37 = .ok (.iaload, 1) := by decide +kernel
theorem dX5_closes_38 : decode cX5_closes 38 = .ok (.istore 4, 2) := by decide +kernel
theorem dX5_closes_40 : decode cX5_closes 40 = .ok (.aload_n 0, 1) := by decide +kernel
theorem dX5_closes_41 : decode cX5_closes 41 = .ok (.getfield 61, 3) := by decide +kernel
theorem dX5_closes_44 : decode cX5_closes 44 = .ok (.iload_n 3, 1) := by decide +kernel
theorem dX5_closes_45 : decode cX5_closes 45 = .ok (.iaload, 1) := by decide +kernel
theorem dX5_closes_46 : decode cX5_closes 46 = .ok (.iload 4, 2) := by decide +kernel
theorem dX5_closes_48 : decode cX5_closes 48 = .ok (.if_icmp .le 8, 3) := by decide +kernel
theorem dX5_closes_51 : decode cX5_closes 51 = .ok (.iload 4, 2) := by decide +kernel
theorem dX5_closes_53 : decode cX5_closes 53 = .ok (.goto 9, 3) := by decide +kernel
theorem dX5_closes_56 : decode cX5_closes 56 = .ok (.aload_n 0, 1) := by decide +kernel
theorem dX5_closes_57 : decode cX5_closes 57 = .ok (.getfield 61, 3) := by decide +kernel
theorem dX5_closes_60 : decode cX5_closes 60 = .ok (.iload_n 3, 1) := by decide +kernel
theorem dX5_closes_61 : decode cX5_closes 61 = .ok (.iaload, 1) := by decide +kernel
theorem dX5_closes_62 : decode cX5_closes 62 = .ok (.istore 5, 2) := by decide +kernel
theorem dX5_closes_64 : decode cX5_closes 64 = .ok (.aload_n 0, 1) := by decide +kernel
theorem dX5_closes_65 : decode cX5_closes 65 = .ok (.getfield 49, 3) := by decide +kernel
theorem dX5_closes_68 : decode cX5_closes 68 = .ok (.iconst 4, 1) := by decide +kernel
theorem dX5_closes_69 : decode cX5_closes 69 = .ok (.iload_n 1, 1) := by decide +kernel
theorem dX5_closes_70 : decode cX5_closes 70 = .ok (.imul, 1) := by decide +kernel
theorem dX5_closes_71 : decode cX5_closes 71 = .ok (.aload_n 0, 1) := by decide +kernel
theorem dX5_closes_72 : decode cX5_closes 72 = .ok (.getfield 55, 3) := by decide +kernel
theorem dX5_closes_75 : decode cX5_closes 75 = .ok (.iload_n 3, 1) := by decide +kernel
theorem dX5_closes_76 : decode cX5_closes 76 = .ok (.iaload, 1) := by decide +kernel
theorem dX5_closes_77 : decode cX5_closes 77 = .ok (.iadd, 1) := by decide +kernel
theorem dX5_closes_78 : decode cX5_closes 78 = .ok (.dup2, 1) := by decide +kernel
theorem dX5_closes_79 : decode cX5_closes 79 = .ok (.iaload, 1) := by decide +kernel
theorem dX5_closes_80 : decode cX5_closes 80 = .ok (.iload 5, 2) := by decide +kernel
theorem dX5_closes_82 : decode cX5_closes 82 = .ok (.isub, 1) := by decide +kernel
theorem dX5_closes_83 : decode cX5_closes 83 = .ok (.iastore, 1) := by decide +kernel
theorem dX5_closes_84 : decode cX5_closes 84 = .ok (.aload_n 0, 1) := by decide +kernel
theorem dX5_closes_85 : decode cX5_closes 85 = .ok (.getfield 49, 3) := by decide +kernel
theorem dX5_closes_88 : decode cX5_closes 88 = .ok (.iconst 4, 1) := by decide +kernel
theorem dX5_closes_89 : decode cX5_closes 89 = .ok (.aload_n 0, 1) := by decide +kernel
theorem dX5_closes_90 : decode cX5_closes 90 = .ok (.getfield 58, 3) := by decide +kernel
theorem dX5_closes_93 : decode cX5_closes 93 = .ok (.iload_n 3, 1) := by decide +kernel
theorem dX5_closes_94 : decode cX5_closes 94 = .ok (.iaload, 1) := by decide +kernel
theorem dX5_closes_95 : decode cX5_closes 95 = .ok (.imul, 1) := by decide +kernel
theorem dX5_closes_96 : decode cX5_closes 96 = .ok (.aload_n 0, 1) := by decide +kernel
theorem dX5_closes_97 : decode cX5_closes 97 = .ok (.getfield 55, 3) := by decide +kernel
theorem dX5_closes_100 : decode cX5_closes 100 = .ok (.iload_n 3, 1) := by decide +kernel
theorem dX5_closes_101 : decode cX5_closes 101 = .ok (.iaload, 1) := by decide +kernel
theorem dX5_closes_102 : decode cX5_closes 102 = .ok (.iadd, 1) := by decide +kernel
theorem dX5_closes_103 : decode cX5_closes 103 = .ok (.dup2, 1) := by decide +kernel
theorem dX5_closes_104 : decode cX5_closes 104 = .ok (.iaload, 1) := by decide +kernel
theorem dX5_closes_105 : decode cX5_closes 105 = .ok (.iload 5, 2) := by decide +kernel
theorem dX5_closes_107 : decode cX5_closes 107 = .ok (.iadd, 1) := by decide +kernel
theorem dX5_closes_108 : decode cX5_closes 108 = .ok (.iastore, 1) := by decide +kernel
theorem dX5_closes_109 : decode cX5_closes 109 = .ok (.aload_n 0, 1) := by decide +kernel
theorem dX5_closes_110 : decode cX5_closes 110 = .ok (.getfield 46, 3) := by decide +kernel
theorem dX5_closes_113 : decode cX5_closes 113 = .ok (.aload_n 0, 1) := by decide +kernel
theorem dX5_closes_114 : decode cX5_closes 114 = .ok (.getfield 58, 3) := by decide +kernel
theorem dX5_closes_117 : decode cX5_closes 117 = .ok (.iload_n 3, 1) := by decide +kernel
theorem dX5_closes_118 : decode cX5_closes 118 = .ok (.iaload, 1) := by decide +kernel
theorem dX5_closes_119 : decode cX5_closes 119 = .ok (.iconst 0, 1) := by decide +kernel
theorem dX5_closes_120 : decode cX5_closes 120 = .ok (.iastore, 1) := by decide +kernel
theorem dX5_closes_121 : decode cX5_closes 121 = .ok (.iinc 2 1, 3) := by decide +kernel
theorem dX5_closes_124 : decode cX5_closes 124 = .ok (.aload_n 0, 1) := by decide +kernel
theorem dX5_closes_125 : decode cX5_closes 125 = .ok (.dup, 1) := by decide +kernel
theorem dX5_closes_126 : decode cX5_closes 126 = .ok (.getfield 163, 3) := by decide +kernel
theorem dX5_closes_129 : decode cX5_closes 129 = .ok (.iconst 1, 1) := by decide +kernel
theorem dX5_closes_130 : decode cX5_closes 130 = .ok (.isub, 1) := by decide +kernel
theorem dX5_closes_131 : decode cX5_closes 131 = .ok (.putfield 163, 3) := by decide +kernel
theorem dX5_closes_134 : decode cX5_closes 134 = .ok (.iload_n 3, 1) := by decide +kernel
theorem dX5_closes_135 : decode cX5_closes 135 = .ok (.istore 6, 2) := by decide +kernel
theorem dX5_closes_137 : decode cX5_closes 137 = .ok (.iload 6, 2) := by decide +kernel
theorem dX5_closes_139 : decode cX5_closes 139 = .ok (.aload_n 0, 1) := by decide +kernel
theorem dX5_closes_140 : decode cX5_closes 140 = .ok (.getfield 163, 3) := by decide +kernel
theorem dX5_closes_143 : decode cX5_closes 143 = .ok (.if_icmp .ge 73, 3) := by decide +kernel
theorem dX5_closes_146 : decode cX5_closes 146 = .ok (.aload_n 0, 1) := by decide +kernel
theorem dX5_closes_147 : decode cX5_closes 147 = .ok (.getfield 52, 3) := by decide +kernel
theorem dX5_closes_150 : decode cX5_closes 150 = .ok (.iload 6, 2) := by decide +kernel
theorem dX5_closes_152 : decode cX5_closes 152 = .ok (.aload_n 0, 1) := by decide +kernel
theorem dX5_closes_153 : decode cX5_closes 153 = .ok (.getfield 52, 3) := by decide +kernel
theorem dX5_closes_156 : decode cX5_closes 156 = .ok (.iload 6, 2) := by decide +kernel
theorem dX5_closes_158 : decode cX5_closes 158 = .ok (.iconst 1, 1) := by decide +kernel
theorem dX5_closes_159 : decode cX5_closes 159 = .ok (.iadd, 1) := by decide +kernel
theorem dX5_closes_160 : decode cX5_closes 160 = .ok (.iaload, 1) := by decide +kernel
theorem dX5_closes_161 : decode cX5_closes 161 = .ok (.iastore, 1) := by decide +kernel
theorem dX5_closes_162 : decode cX5_closes 162 = .ok (.aload_n 0, 1) := by decide +kernel
theorem dX5_closes_163 : decode cX5_closes 163 = .ok (.getfield 55, 3) := by decide +kernel
theorem dX5_closes_166 : decode cX5_closes 166 = .ok (.iload 6, 2) := by decide +kernel
theorem dX5_closes_168 : decode cX5_closes 168 = .ok (.aload_n 0, 1) := by decide +kernel
theorem dX5_closes_169 : decode cX5_closes 169 = .ok (.getfield 55, 3) := by decide +kernel
theorem dX5_closes_172 : decode cX5_closes 172 = .ok (.iload 6, 2) := by decide +kernel
theorem dX5_closes_174 : decode cX5_closes 174 = .ok (.iconst 1, 1) := by decide +kernel
theorem dX5_closes_175 : decode cX5_closes 175 = .ok (.iadd, 1) := by decide +kernel
theorem dX5_closes_176 : decode cX5_closes 176 = .ok (.iaload, 1) := by decide +kernel
theorem dX5_closes_177 : decode cX5_closes 177 = .ok (.iastore, 1) := by decide +kernel
theorem dX5_closes_178 : decode cX5_closes 178 = .ok (.aload_n 0, 1) := by decide +kernel
theorem dX5_closes_179 : decode cX5_closes 179 = .ok (.getfield 58, 3) := by decide +kernel
theorem dX5_closes_182 : decode cX5_closes 182 = .ok (.iload 6, 2) := by decide +kernel
theorem dX5_closes_184 : decode cX5_closes 184 = .ok (.aload_n 0, 1) := by decide +kernel
theorem dX5_closes_185 : decode cX5_closes 185 = .ok (.getfield 58, 3) := by decide +kernel
theorem dX5_closes_188 : decode cX5_closes 188 = .ok (.iload 6, 2) := by decide +kernel
theorem dX5_closes_190 : decode cX5_closes 190 = .ok (.iconst 1, 1) := by decide +kernel
theorem dX5_closes_191 : decode cX5_closes 191 = .ok (.iadd, 1) := by decide +kernel
theorem dX5_closes_192 : decode cX5_closes 192 = .ok (.iaload, 1) := by decide +kernel
theorem dX5_closes_193 : decode cX5_closes 193 = .ok (.iastore, 1) := by decide +kernel
theorem dX5_closes_194 : decode cX5_closes 194 = .ok (.aload_n 0, 1) := by decide +kernel
theorem dX5_closes_195 : decode cX5_closes 195 = .ok (.getfield 61, 3) := by decide +kernel
theorem dX5_closes_198 : decode cX5_closes 198 = .ok (.iload 6, 2) := by decide +kernel
theorem dX5_closes_200 : decode cX5_closes 200 = .ok (.aload_n 0, 1) := by decide +kernel
theorem dX5_closes_201 : decode cX5_closes 201 = .ok (.getfield 61, 3) := by decide +kernel
theorem dX5_closes_204 : decode cX5_closes 204 = .ok (.iload 6, 2) := by decide +kernel
theorem dX5_closes_206 : decode cX5_closes 206 = .ok (.iconst 1, 1) := by decide +kernel
theorem dX5_closes_207 : decode cX5_closes 207 = .ok (.iadd, 1) := by decide +kernel
theorem dX5_closes_208 : decode cX5_closes 208 = .ok (.iaload, 1) := by decide +kernel
theorem dX5_closes_209 : decode cX5_closes 209 = .ok (.iastore, 1) := by decide +kernel
theorem dX5_closes_210 : decode cX5_closes 210 = .ok (.iinc 6 1, 3) := by decide +kernel
theorem dX5_closes_213 : decode cX5_closes 213 = .ok (.goto (-76), 3) := by decide +kernel
theorem dX5_closes_216 : decode cX5_closes 216 = .ok (.iinc 3 (-1), 3) := by decide +kernel
theorem dX5_closes_219 : decode cX5_closes 219 = .ok (.goto (-210), 3) := by decide +kernel
theorem dX5_closes_222 : decode cX5_closes 222 = .ok (.iload_n 2, 1) := by decide +kernel
theorem dX5_closes_223 : decode cX5_closes 223 = .ok (.ireturn, 1) := by decide +kernel
set_option maxRecDepth 20000 in
theorem ggX5_giveBack_X5_isGroup : GoodIn wsX5_giveBack wsX5_isGroup := goodIn_r _ [8, 9, 10, 11, 7, 12, 33, 34, 35, 36, 37, 38, 39, 40, 41, 42, 43, 44, 45, 46, 47, 48, 49, 50, 51, 52, 53, 54, 55, 56, 57, 58, 59, 60, 61, 62, 63, 64, 65] (by decide +kernel) (by decide +kernel)
set_option maxRecDepth 20000 in
theorem gX5_giveBack_X5_isGroup : GoodIn wsX5_giveBack (wsV RX5 127 RX5 yX5_isGroup wsX5_isGroup) := goodIn_app (goodIn_of _ (by decide +kernel)) ggX5_giveBack_X5_isGroup
set_option maxRecDepth 20000 in
theorem ggX5_giveBack_X5_isKind : GoodIn wsX5_giveBack wsX5_isKind := goodIn_r _ [15, 10, 11, 7, 12] (by decide +kernel) (by decide +kernel)
set_option maxRecDepth 20000 in
theorem gX5_giveBack_X5_isKind : GoodIn wsX5_giveBack (va_wsS RX5 170 yX5_isKind wsX5_isKind) := goodIn_app (goodIn_of _ (by decide +kernel)) ggX5_giveBack_X5_isKind
set_option maxRecDepth 20000 in
theorem ggX5_giveBack_X5_arePieces : GoodIn wsX5_giveBack wsX5_arePieces := goodIn_r _ [18, 10, 11, 7, 12] (by decide +kernel) (by decide +kernel)
set_option maxRecDepth 20000 in
theorem gX5_giveBack_X5_arePieces : GoodIn wsX5_giveBack (va_wsS RX5 106 yX5_arePieces wsX5_arePieces) := goodIn_app (goodIn_of _ (by decide +kernel)) ggX5_giveBack_X5_arePieces
set_option maxRecDepth 20000 in
theorem ggX5_giveBack_X5_isFine : GoodIn wsX5_giveBack wsX5_isFine := goodIn_r _ [22, 23, 33, 34, 35, 36, 37, 38, 39, 40, 41, 42, 43, 44, 45, 46, 47, 48, 49, 50, 51, 52, 53, 54, 55, 56, 57, 58, 59, 60, 61, 62, 63, 64, 65] (by decide +kernel) (by decide +kernel)
set_option maxRecDepth 20000 in
theorem gX5_giveBack_X5_isFine : GoodIn wsX5_giveBack (wsV RX5 99 RX5 yX5_isFine wsX5_isFine) := goodIn_app (goodIn_of _ (by decide +kernel)) ggX5_giveBack_X5_isFine
set_option maxRecDepth 20000 in
theorem ggX5_giveBack_X5_closes : GoodIn wsX5_giveBack wsX5_closes := goodIn_r _ [27, 28, 29, 2, 30, 31, 32, 3, 33, 34, 35, 36, 37, 38, 39, 40, 41, 42, 43, 44, 45, 46, 47, 48, 49, 50, 51, 52, 53, 54, 55, 56, 57, 58, 59, 60, 61, 62, 63, 64, 65] (by decide +kernel) (by decide +kernel)
set_option maxRecDepth 20000 in
theorem gX5_giveBack_X5_closes : GoodIn wsX5_giveBack (wsV RX5 173 RX5 yX5_closes wsX5_closes) := goodIn_app (goodIn_of _ (by decide +kernel)) ggX5_giveBack_X5_closes
theorem dX5_giveBack_0 : decode cX5_giveBack 0 = .ok (.aload_n 0, 1) := by decide +kernel
theorem dX5_giveBack_1 : decode cX5_giveBack 1 = .ok (.iload_n 1, 1) := by decide +kernel
theorem dX5_giveBack_2 : decode cX5_giveBack 2 = .ok (.invokevirtual 127, 3) := by decide +kernel
theorem dX5_giveBack_5 : decode cX5_giveBack 5 = .ok (.ifCond .eq 14, 3) := by decide +kernel
theorem dX5_giveBack_8 : decode cX5_giveBack 8 = .ok (.iload_n 2, 1) := by decide +kernel
theorem dX5_giveBack_9 : decode cX5_giveBack 9 = .ok (.invokestatic 170, 3) := by decide +kernel
theorem dX5_giveBack_12 : decode cX5_giveBack 12 = .ok (.ifCond .eq 7, 3) := by decide +kernel
theorem dX5_giveBack_15 : decode cX5_giveBack 15 = .ok (.iconst 1, 1) := by decide +kernel
theorem dX5_giveBack_16 : decode cX5_giveBack 16 = .ok (.goto 4, 3) := by decide +kernel
theorem dX5_giveBack_19 : decode cX5_giveBack 19 = .ok (.iconst 0, 1) := by decide +kernel
theorem dX5_giveBack_20 : decode cX5_giveBack 20 = .ok (.istore 4, 2) := by decide +kernel
theorem dX5_giveBack_22 : decode cX5_giveBack 22 = .ok (.iload 4, 2) := by decide +kernel
theorem dX5_giveBack_24 : decode cX5_giveBack 24 = .ok (.ifCond .eq 17, 3) := by decide +kernel
theorem dX5_giveBack_27 : decode cX5_giveBack 27 = .ok (.aload_n 0, 1) := by decide +kernel
theorem dX5_giveBack_28 : decode cX5_giveBack 28 = .ok (.getfield 28, 3) := by decide +kernel
theorem dX5_giveBack_31 : decode cX5_giveBack 31 = .ok (.iload_n 1, 1) := by decide +kernel
theorem dX5_giveBack_32 : decode cX5_giveBack 32 = .ok (.iaload, 1) := by decide +kernel
theorem dX5_giveBack_33 : decode cX5_giveBack 33 = .ok (.iconst (-1), 1) := by decide +kernel
theorem dX5_giveBack_34 : decode cX5_giveBack 34 = .ok (.if_icmp .eq 7, 3) := by decide +kernel
theorem dX5_giveBack_37 : decode cX5_giveBack 37 = .ok (.iconst 1, 1) := by decide +kernel
theorem dX5_giveBack_38 : decode cX5_giveBack 38 = .ok (.goto 4, 3) := by decide +kernel
theorem dX5_giveBack_41 : decode cX5_giveBack 41 = .ok (.iconst 0, 1) := by decide +kernel
theorem dX5_giveBack_42 : decode cX5_giveBack 42 = .ok (.istore 5, 2) := by decide +kernel
theorem dX5_giveBack_44 : decode cX5_giveBack 44 = .ok (.iload 5, 2) := by decide +kernel
theorem dX5_giveBack_46 : decode cX5_giveBack 46 = .ok (.ifCond .eq 26, 3) := by decide +kernel
theorem dX5_giveBack_49 : decode cX5_giveBack 49 = .ok (.aload_n 0, 1) := by decide +kernel
theorem dX5_giveBack_50 : decode cX5_giveBack 50 = .ok (.getfield 49, 3) := by decide +kernel
theorem dX5_giveBack_53 : decode cX5_giveBack 53 = .ok (.iconst 4, 1) := by decide +kernel
theorem dX5_giveBack_54 : decode cX5_giveBack 54 = .ok (.aload_n 0, 1) := by decide +kernel
theorem dX5_giveBack_55 : decode cX5_giveBack 55 = .ok (.getfield 28, 3) := by decide +kernel
theorem dX5_giveBack_58 : decode cX5_giveBack 58 = .ok (.iload_n 1, 1) := by decide +kernel
theorem dX5_giveBack_59 : decode cX5_giveBack 59 = .ok (.iaload, 1) := by decide +kernel
theorem dX5_giveBack_60 : decode cX5_giveBack 60 = .ok (.imul, 1) := by decide +kernel
theorem dX5_giveBack_61 : decode cX5_giveBack 61 = .ok (.iload_n 2, 1) := by decide +kernel
theorem dX5_giveBack_62 : decode cX5_giveBack 62 = .ok (.iadd, 1) := by decide +kernel
theorem dX5_giveBack_63 : decode cX5_giveBack 63 = .ok (.iaload, 1) := by decide +kernel
theorem dX5_giveBack_64 : decode cX5_giveBack 64 = .ok (.iload_n 3, 1) := by decide +kernel
theorem dX5_giveBack_65 : decode cX5_giveBack 65 = .ok (.if_icmp .lt 7, 3) := by decide +kernel
theorem dX5_giveBack_68 : decode cX5_giveBack 68 = .ok (.iconst 1, 1) := by decide +kernel
theorem dX5_giveBack_69 : decode cX5_giveBack 69 = .ok (.goto 4, 3) := by decide +kernel
theorem dX5_giveBack_72 : decode cX5_giveBack 72 = .ok (.iconst 0, 1) := by decide +kernel
theorem dX5_giveBack_73 : decode cX5_giveBack 73 = .ok (.istore 5, 2) := by decide +kernel
theorem dX5_giveBack_75 : decode cX5_giveBack 75 = .ok (.aload_n 0, 1) := by decide +kernel
theorem dX5_giveBack_76 : decode cX5_giveBack 76 = .ok (.iload 4, 2) := by decide +kernel
theorem dX5_giveBack_78 : decode cX5_giveBack 78 = .ok (.ifCond .ne 7, 3) := by decide +kernel
theorem dX5_giveBack_81 : decode cX5_giveBack 81 = .ok (.iconst 1, 1) := by decide +kernel
theorem dX5_giveBack_82 : decode cX5_giveBack 82 = .ok (.goto 24, 3) := by decide +kernel
theorem dX5_giveBack_85 : decode cX5_giveBack 85 = .ok (.iload_n 3, 1) := by decide +kernel
theorem dX5_giveBack_86 : decode cX5_giveBack 86 = .ok (.invokestatic 106, 3) := by decide +kernel
theorem dX5_giveBack_89 : decode cX5_giveBack 89 = .ok (.ifCond .ne 7, 3) := by decide +kernel
theorem dX5_giveBack_92 : decode cX5_giveBack 92 = .ok (.iconst 2, 1) := by decide +kernel
theorem dX5_giveBack_93 : decode cX5_giveBack 93 = .ok (.goto 13, 3) := by decide +kernel
theorem dX5_giveBack_96 : decode cX5_giveBack 96 = .ok (.iload 5, 2) := by decide +kernel
theorem dX5_giveBack_98 : decode cX5_giveBack 98 = .ok (.ifCond .ne 7, 3) := by decide +kernel
theorem dX5_giveBack_101 : decode cX5_giveBack 101 = .ok (.iconst 3, 1) := by decide +kernel
theorem dX5_giveBack_102 : decode cX5_giveBack 102 = .ok (.goto 4, 3) := by decide +kernel
theorem dX5_giveBack_105 : decode cX5_giveBack 105 = .ok (.iconst 0, 1) := by decide +kernel
theorem dX5_giveBack_106 : decode cX5_giveBack 106 = .ok (.invokevirtual 99, 3) := by decide +kernel
theorem dX5_giveBack_109 : decode cX5_giveBack 109 = .ok (.ifCond .ne 5, 3) := by decide +kernel
theorem dX5_giveBack_112 : decode cX5_giveBack 112 = .ok (.iconst 0, 1) := by decide +kernel
theorem dX5_giveBack_113 : decode cX5_giveBack 113 = .ok (.ireturn, 1) := by decide +kernel
theorem dX5_giveBack_114 : decode cX5_giveBack 114 = .ok (.aload_n 0, 1) := by decide +kernel
theorem dX5_giveBack_115 : decode cX5_giveBack 115 = .ok (.getfield 28, 3) := by decide +kernel
theorem dX5_giveBack_118 : decode cX5_giveBack 118 = .ok (.iload_n 1, 1) := by decide +kernel
theorem dX5_giveBack_119 : decode cX5_giveBack 119 = .ok (.iaload, 1) := by decide +kernel
theorem dX5_giveBack_120 : decode cX5_giveBack 120 = .ok (.istore 6, 2) := by decide +kernel
theorem dX5_giveBack_122 : decode cX5_giveBack 122 = .ok (.aload_n 0, 1) := by decide +kernel
theorem dX5_giveBack_123 : decode cX5_giveBack 123 = .ok (.getfield 49, 3) := by decide +kernel
theorem dX5_giveBack_126 : decode cX5_giveBack 126 = .ok (.iconst 4, 1) := by decide +kernel
theorem dX5_giveBack_127 : decode cX5_giveBack 127 = .ok (.iload 6, 2) := by decide +kernel
theorem dX5_giveBack_129 : decode cX5_giveBack 129 = .ok (.imul, 1) := by decide +kernel
theorem dX5_giveBack_130 : decode cX5_giveBack 130 = .ok (.iload_n 2, 1) := by decide +kernel
theorem dX5_giveBack_131 : decode cX5_giveBack 131 = .ok (.iadd, 1) := by decide +kernel
theorem dX5_giveBack_132 : decode cX5_giveBack 132 = .ok (.dup2, 1) := by decide +kernel
theorem dX5_giveBack_133 : decode cX5_giveBack 133 = .ok (.iaload, 1) := by decide +kernel
theorem dX5_giveBack_134 : decode cX5_giveBack 134 = .ok (.iload_n 3, 1) := by decide +kernel
theorem dX5_giveBack_135 : decode cX5_giveBack 135 = .ok (.isub, 1) := by decide +kernel
theorem dX5_giveBack_136 : decode cX5_giveBack 136 = .ok (.iastore, 1) := by decide +kernel
theorem dX5_giveBack_137 : decode cX5_giveBack 137 = .ok (.aload_n 0, 1) := by decide +kernel
theorem dX5_giveBack_138 : decode cX5_giveBack 138 = .ok (.getfield 28, 3) := by decide +kernel
theorem dX5_giveBack_141 : decode cX5_giveBack 141 = .ok (.iload_n 1, 1) := by decide +kernel
theorem dX5_giveBack_142 : decode cX5_giveBack 142 = .ok (.iconst (-1), 1) := by decide +kernel
theorem dX5_giveBack_143 : decode cX5_giveBack 143 = .ok (.iastore, 1) := by decide +kernel
theorem dX5_giveBack_144 : decode cX5_giveBack 144 = .ok (.aload_n 0, 1) := by decide +kernel
theorem dX5_giveBack_145 : decode cX5_giveBack 145 = .ok (.getfield 46, 3) := by decide +kernel
theorem dX5_giveBack_148 : decode cX5_giveBack 148 = .ok (.iload 6, 2) := by decide +kernel
theorem dX5_giveBack_150 : decode cX5_giveBack 150 = .ok (.iconst 0, 1) := by decide +kernel
theorem dX5_giveBack_151 : decode cX5_giveBack 151 = .ok (.iastore, 1) := by decide +kernel
theorem dX5_giveBack_152 : decode cX5_giveBack 152 = .ok (.aload_n 0, 1) := by decide +kernel
theorem dX5_giveBack_153 : decode cX5_giveBack 153 = .ok (.iload 6, 2) := by decide +kernel
theorem dX5_giveBack_155 : decode cX5_giveBack 155 = .ok (.invokevirtual 173, 3) := by decide +kernel
theorem dX5_giveBack_158 : decode cX5_giveBack 158 = .ok (.ireturn, 1) := by decide +kernel
set_option maxRecDepth 20000 in
theorem ggX5_found_X5_isCopy : GoodIn wsX5_found wsX5_isCopy := goodIn_r _ [9, 10, 11, 12, 8, 13, 22, 23, 24, 25, 26, 27, 28, 29, 30, 31, 32, 33, 34, 35, 36, 37, 38, 39, 40, 41, 42, 43, 44, 45, 46, 47, 48, 49, 50, 51, 52, 53, 54] (by decide +kernel) (by decide +kernel)
set_option maxRecDepth 20000 in
theorem gX5_found_X5_isCopy : GoodIn wsX5_found (wsV RX5 176 RX5 yX5_isCopy wsX5_isCopy) := goodIn_app (goodIn_of _ (by decide +kernel)) ggX5_found_X5_isCopy
set_option maxRecDepth 20000 in
theorem ggX5_found_X5_isKind : GoodIn wsX5_found wsX5_isKind := goodIn_r _ [16, 11, 12, 8, 13] (by decide +kernel) (by decide +kernel)
set_option maxRecDepth 20000 in
theorem gX5_found_X5_isKind : GoodIn wsX5_found (va_wsS RX5 170 yX5_isKind wsX5_isKind) := goodIn_app (goodIn_of _ (by decide +kernel)) ggX5_found_X5_isKind
set_option maxRecDepth 20000 in
theorem ggX5_found_X5_isIn : GoodIn wsX5_found wsX5_isIn := goodIn_r _ [13] (by decide +kernel) (by decide +kernel)
set_option maxRecDepth 20000 in
theorem gX5_found_X5_isIn : GoodIn wsX5_found (va_wsS RX5 86 yX5_isIn wsX5_isIn) := goodIn_app (goodIn_of _ (by decide +kernel)) ggX5_found_X5_isIn
set_option maxRecDepth 20000 in
theorem ggX5_found_X5_isFine : GoodIn wsX5_found wsX5_isFine := goodIn_r _ [20, 21, 22, 23, 24, 25, 26, 27, 28, 29, 30, 31, 32, 33, 34, 35, 36, 37, 38, 39, 40, 41, 42, 43, 44, 45, 46, 47, 48, 49, 50, 51, 52, 53, 54] (by decide +kernel) (by decide +kernel)
set_option maxRecDepth 20000 in
theorem gX5_found_X5_isFine : GoodIn wsX5_found (wsV RX5 99 RX5 yX5_isFine wsX5_isFine) := goodIn_app (goodIn_of _ (by decide +kernel)) ggX5_found_X5_isFine
theorem dX5_found_0 : decode cX5_found 0 = .ok (.aload_n 0, 1) := by decide +kernel
theorem dX5_found_1 : decode cX5_found 1 = .ok (.iload_n 1, 1) := by decide +kernel
theorem dX5_found_2 : decode cX5_found 2 = .ok (.invokevirtual 176, 3) := by decide +kernel
theorem dX5_found_5 : decode cX5_found 5 = .ok (.ifCond .eq 14, 3) := by decide +kernel
theorem dX5_found_8 : decode cX5_found 8 = .ok (.iload_n 2, 1) := by decide +kernel
theorem dX5_found_9 : decode cX5_found 9 = .ok (.invokestatic 170, 3) := by decide +kernel
theorem dX5_found_12 : decode cX5_found 12 = .ok (.ifCond .eq 7, 3) := by decide +kernel
theorem dX5_found_15 : decode cX5_found 15 = .ok (.iconst 1, 1) := by decide +kernel
theorem dX5_found_16 : decode cX5_found 16 = .ok (.goto 4, 3) := by decide +kernel
theorem dX5_found_19 : decode cX5_found 19 = .ok (.iconst 0, 1) := by decide +kernel
theorem dX5_found_20 : decode cX5_found 20 = .ok (.istore 4, 2) := by decide +kernel
theorem dX5_found_22 : decode cX5_found 22 = .ok (.iload 4, 2) := by decide +kernel
theorem dX5_found_24 : decode cX5_found 24 = .ok (.ifCond .eq 50, 3) := by decide +kernel
theorem dX5_found_27 : decode cX5_found 27 = .ok (.aload_n 0, 1) := by decide +kernel
theorem dX5_found_28 : decode cX5_found 28 = .ok (.getfield 46, 3) := by decide +kernel
theorem dX5_found_31 : decode cX5_found 31 = .ok (.iload_n 1, 1) := by decide +kernel
theorem dX5_found_32 : decode cX5_found 32 = .ok (.iaload, 1) := by decide +kernel
theorem dX5_found_33 : decode cX5_found 33 = .ok (.ifCond .ne 41, 3) := by decide +kernel
theorem dX5_found_36 : decode cX5_found 36 = .ok (.aload_n 0, 1) := by decide +kernel
theorem dX5_found_37 : decode cX5_found 37 = .ok (.getfield 49, 3) := by decide +kernel
theorem dX5_found_40 : decode cX5_found 40 = .ok (.iconst 4, 1) := by decide +kernel
theorem dX5_found_41 : decode cX5_found 41 = .ok (.iload_n 1, 1) := by decide +kernel
theorem dX5_found_42 : decode cX5_found 42 = .ok (.imul, 1) := by decide +kernel
theorem dX5_found_43 : decode cX5_found 43 = .ok (.iload_n 2, 1) := by decide +kernel
theorem dX5_found_44 : decode cX5_found 44 = .ok (.iadd, 1) := by decide +kernel
theorem dX5_found_45 : decode cX5_found 45 = .ok (.iaload, 1) := by decide +kernel
theorem dX5_found_46 : decode cX5_found 46 = .ok (.i2l, 1) := by decide +kernel
theorem dX5_found_47 : decode cX5_found 47 = .ok (.iload_n 3, 1) := by decide +kernel
theorem dX5_found_48 : decode cX5_found 48 = .ok (.i2l, 1) := by decide +kernel
theorem dX5_found_49 : decode cX5_found 49 = .ok (.ladd, 1) := by decide +kernel
theorem dX5_found_50 : decode cX5_found 50 = .ok (.aload_n 0, 1) := by decide +kernel
theorem dX5_found_51 : decode cX5_found 51 = .ok (.getfield 40, 3) := by decide +kernel
theorem dX5_found_54 : decode cX5_found 54 = .ok (.iconst 4, 1) := by decide +kernel
theorem dX5_found_55 : decode cX5_found 55 = .ok (.aload_n 0, 1) := by decide +kernel
theorem dX5_found_56 : decode cX5_found 56 = .ok (.getfield 43, 3) := by decide +kernel
theorem dX5_found_59 : decode cX5_found 59 = .ok (.iload_n 1, 1) := by decide +kernel
theorem dX5_found_60 : decode cX5_found 60 = .ok (.iaload, 1) := by decide +kernel
theorem dX5_found_61 : decode cX5_found 61 = .ok (.imul, 1) := by decide +kernel
theorem dX5_found_62 : decode cX5_found 62 = .ok (.iload_n 2, 1) := by decide +kernel
theorem dX5_found_63 : decode cX5_found 63 = .ok (.iadd, 1) := by decide +kernel
theorem dX5_found_64 : decode cX5_found 64 = .ok (.iaload, 1) := by decide +kernel
theorem dX5_found_65 : decode cX5_found 65 = .ok (.i2l, 1) := by decide +kernel
theorem dX5_found_66 : decode cX5_found 66 = .ok (.lcmp, 1) := by decide +kernel
theorem dX5_found_67 : decode cX5_found 67 = .ok (.ifCond .gt 7, 3) := by decide +kernel
theorem dX5_found_70 : decode cX5_found 70 = .ok (.iconst 1, 1) := by decide +kernel
theorem dX5_found_71 : decode cX5_found 71 = .ok (.goto 4, 3) := by decide +kernel
theorem dX5_found_74 : decode cX5_found 74 = .ok (.iconst 0, 1) := by decide +kernel
theorem dX5_found_75 : decode cX5_found 75 = .ok (.istore 5, 2) := by decide +kernel
theorem dX5_found_77 : decode cX5_found 77 = .ok (.aload_n 0, 1) := by decide +kernel
theorem dX5_found_78 : decode cX5_found 78 = .ok (.iload 4, 2) := by decide +kernel
theorem dX5_found_80 : decode cX5_found 80 = .ok (.ifCond .ne 7, 3) := by decide +kernel
theorem dX5_found_83 : decode cX5_found 83 = .ok (.iconst 1, 1) := by decide +kernel
theorem dX5_found_84 : decode cX5_found 84 = .ok (.goto 27, 3) := by decide +kernel
theorem dX5_found_87 : decode cX5_found 87 = .ok (.iload_n 3, 1) := by decide +kernel
theorem dX5_found_88 : decode cX5_found 88 = .ok (.iconst 1, 1) := by decide +kernel
theorem dX5_found_89 : decode cX5_found 89 = .ok (.bipush 9, 2) := by decide +kernel
theorem dX5_found_91 : decode cX5_found 91 = .ok (.invokestatic 86, 3) := by decide +kernel
theorem dX5_found_94 : decode cX5_found 94 = .ok (.ifCond .ne 7, 3) := by decide +kernel
theorem dX5_found_97 : decode cX5_found 97 = .ok (.iconst 2, 1) := by decide +kernel
theorem dX5_found_98 : decode cX5_found 98 = .ok (.goto 13, 3) := by decide +kernel
theorem dX5_found_101 : decode cX5_found 101 = .ok (.iload 5, 2) := by decide +kernel
theorem dX5_found_103 : decode cX5_found 103 = .ok (.ifCond .ne 7, 3) := by decide +kernel
theorem dX5_found_106 : decode cX5_found 106 = .ok (.iconst 3, 1) := by decide +kernel
theorem dX5_found_107 : decode cX5_found 107 = .ok (.goto 4, 3) := by decide +kernel
theorem dX5_found_110 : decode cX5_found 110 = .ok (.iconst 0, 1) := by decide +kernel
theorem dX5_found_111 : decode cX5_found 111 = .ok (.invokevirtual 99, 3) := by decide +kernel
theorem dX5_found_114 : decode cX5_found 114 = .ok (.ifCond .ne 5, 3) := by decide +kernel
theorem dX5_found_117 : decode cX5_found 117 = .ok (.iconst 0, 1) := by decide +kernel
theorem dX5_found_118 : decode cX5_found 118 = .ok (.ireturn, 1) := by decide +kernel
theorem dX5_found_119 : decode cX5_found 119 = .ok (.aload_n 0, 1) := by decide +kernel
theorem dX5_found_120 : decode cX5_found 120 = .ok (.getfield 49, 3) := by decide +kernel
theorem dX5_found_123 : decode cX5_found 123 = .ok (.iconst 4, 1) := by decide +kernel
theorem dX5_found_124 : decode cX5_found 124 = .ok (.iload_n 1, 1) := by decide +kernel
theorem dX5_found_125 : decode cX5_found 125 = .ok (.imul, 1) := by decide +kernel
theorem dX5_found_126 : decode cX5_found 126 = .ok (.iload_n 2, 1) := by decide +kernel
theorem dX5_found_127 : decode cX5_found 127 = .ok (.iadd, 1) := by decide +kernel
theorem dX5_found_128 : decode cX5_found 128 = .ok (.dup2, 1) := by decide +kernel
theorem dX5_found_129 : decode cX5_found 129 = .ok (.iaload, 1) := by decide +kernel
theorem dX5_found_130 : decode cX5_found 130 = .ok (.iload_n 3, 1) := by decide +kernel
theorem dX5_found_131 : decode cX5_found 131 = .ok (.iadd, 1) := by decide +kernel
theorem dX5_found_132 : decode cX5_found 132 = .ok (.iastore, 1) := by decide +kernel
theorem dX5_found_133 : decode cX5_found 133 = .ok (.aload_n 0, 1) := by decide +kernel
theorem dX5_found_134 : decode cX5_found 134 = .ok (.getfield 49, 3) := by decide +kernel
theorem dX5_found_137 : decode cX5_found 137 = .ok (.iconst 4, 1) := by decide +kernel
theorem dX5_found_138 : decode cX5_found 138 = .ok (.iload_n 1, 1) := by decide +kernel
theorem dX5_found_139 : decode cX5_found 139 = .ok (.imul, 1) := by decide +kernel
theorem dX5_found_140 : decode cX5_found 140 = .ok (.iload_n 2, 1) := by decide +kernel
theorem dX5_found_141 : decode cX5_found 141 = .ok (.iadd, 1) := by decide +kernel
theorem dX5_found_142 : decode cX5_found 142 = .ok (.iaload, 1) := by decide +kernel
theorem dX5_found_143 : decode cX5_found 143 = .ok (.ireturn, 1) := by decide +kernel
set_option maxRecDepth 20000 in
theorem ggX5_pieces_X5_isCopy : GoodIn wsX5_pieces wsX5_isCopy := goodIn_r _ [6, 7, 8, 9, 5, 10, 19, 20, 21, 22, 23, 24, 25, 26, 27, 28, 29, 30, 31, 32, 33, 34, 35, 36, 37, 38, 39, 40, 41, 42, 43, 44, 45, 46, 47, 48, 49, 50, 51] (by decide +kernel) (by decide +kernel)
set_option maxRecDepth 20000 in
theorem gX5_pieces_X5_isCopy : GoodIn wsX5_pieces (wsV RX5 176 RX5 yX5_isCopy wsX5_isCopy) := goodIn_app (goodIn_of _ (by decide +kernel)) ggX5_pieces_X5_isCopy
set_option maxRecDepth 20000 in
theorem ggX5_pieces_X5_isKind : GoodIn wsX5_pieces wsX5_isKind := goodIn_r _ [13, 8, 9, 5, 10] (by decide +kernel) (by decide +kernel)
set_option maxRecDepth 20000 in
theorem gX5_pieces_X5_isKind : GoodIn wsX5_pieces (va_wsS RX5 170 yX5_isKind wsX5_isKind) := goodIn_app (goodIn_of _ (by decide +kernel)) ggX5_pieces_X5_isKind
set_option maxRecDepth 20000 in
theorem ggX5_pieces_X5_isFine : GoodIn wsX5_pieces wsX5_isFine := goodIn_r _ [17, 18, 19, 20, 21, 22, 23, 24, 25, 26, 27, 28, 29, 30, 31, 32, 33, 34, 35, 36, 37, 38, 39, 40, 41, 42, 43, 44, 45, 46, 47, 48, 49, 50, 51] (by decide +kernel) (by decide +kernel)
set_option maxRecDepth 20000 in
theorem gX5_pieces_X5_isFine : GoodIn wsX5_pieces (wsV RX5 99 RX5 yX5_isFine wsX5_isFine) := goodIn_app (goodIn_of _ (by decide +kernel)) ggX5_pieces_X5_isFine
theorem dX5_pieces_0 : decode cX5_pieces 0 = .ok (.aload_n 0, 1) := by decide +kernel
theorem dX5_pieces_1 : decode cX5_pieces 1 = .ok (.aload_n 0, 1) := by decide +kernel
theorem dX5_pieces_2 : decode cX5_pieces 2 = .ok (.iload_n 1, 1) := by decide +kernel
theorem dX5_pieces_3 : decode cX5_pieces 3 = .ok (.invokevirtual 176, 3) := by decide +kernel
theorem dX5_pieces_6 : decode cX5_pieces 6 = .ok (.ifCond .eq 14, 3) := by decide +kernel
theorem dX5_pieces_9 : decode cX5_pieces 9 = .ok (.iload_n 2, 1) := by decide +kernel
theorem dX5_pieces_10 : decode cX5_pieces 10 = .ok (.invokestatic 170, 3) := by decide +kernel
theorem dX5_pieces_13 : decode cX5_pieces 13 = .ok (.ifCond .eq 7, 3) := by decide +kernel
theorem dX5_pieces_16 : decode cX5_pieces 16 = .ok (.iconst 0, 1) := by decide +kernel
theorem dX5_pieces_17 : decode cX5_pieces 17 = .ok (.goto 4, 3) := by decide +kernel
theorem dX5_pieces_20 : decode cX5_pieces 20 = .ok (.iconst 1, 1) := by decide +kernel
theorem dX5_pieces_21 : decode cX5_pieces 21 = .ok (.invokevirtual 99, 3) := by decide +kernel
theorem dX5_pieces_24 : decode cX5_pieces 24 = .ok (.ifCond .eq 16, 3) := by decide +kernel
theorem dX5_pieces_27 : decode cX5_pieces 27 = .ok (.aload_n 0, 1) := by decide +kernel
theorem dX5_pieces_28 : decode cX5_pieces 28 = .ok (.getfield 49, 3) := by decide +kernel
theorem dX5_pieces_31 : decode cX5_pieces 31 = .ok (.iconst 4, 1) := by decide +kernel
theorem dX5_pieces_32 : decode cX5_pieces 32 = .ok (.iload_n 1, 1) := by decide +kernel
theorem dX5_pieces_33 : decode cX5_pieces 33 = .ok (.imul, 1) := by decide +kernel
theorem dX5_pieces_34 : decode cX5_pieces 34 = .ok (.iload_n 2, 1) := by decide +kernel
theorem dX5_pieces_35 : decode cX5_pieces 35 = .ok (.iadd, 1) := by decide +kernel
theorem dX5_pieces_36 : decode cX5_pieces 36 = .ok (.iaload, 1) := by decide +kernel
theorem dX5_pieces_37 : decode cX5_pieces 37 = .ok (.goto 4, 3) := by decide +kernel
theorem dX5_pieces_40 : decode cX5_pieces 40 = .ok (.iconst 0, 1) := by decide +kernel
theorem dX5_pieces_41 : decode cX5_pieces 41 = .ok (.ireturn, 1) := by decide +kernel
set_option maxRecDepth 20000 in
theorem ggX5_stateOf_X5_isCopy : GoodIn wsX5_stateOf wsX5_isCopy := goodIn_r _ [6, 7, 8, 9, 5, 10, 16, 17, 18, 19, 20, 21, 22, 23, 24, 25, 26, 27, 28, 29, 30, 31, 32, 33, 34, 35, 36, 37, 38, 39, 40, 41, 42, 43, 44, 45, 46, 47, 48] (by decide +kernel) (by decide +kernel)
set_option maxRecDepth 20000 in
theorem gX5_stateOf_X5_isCopy : GoodIn wsX5_stateOf (wsV RX5 176 RX5 yX5_isCopy wsX5_isCopy) := goodIn_app (goodIn_of _ (by decide +kernel)) ggX5_stateOf_X5_isCopy
set_option maxRecDepth 20000 in
theorem ggX5_stateOf_X5_isFine : GoodIn wsX5_stateOf wsX5_isFine := goodIn_r _ [14, 15, 16, 17, 18, 19, 20, 21, 22, 23, 24, 25, 26, 27, 28, 29, 30, 31, 32, 33, 34, 35, 36, 37, 38, 39, 40, 41, 42, 43, 44, 45, 46, 47, 48] (by decide +kernel) (by decide +kernel)
set_option maxRecDepth 20000 in
theorem gX5_stateOf_X5_isFine : GoodIn wsX5_stateOf (wsV RX5 99 RX5 yX5_isFine wsX5_isFine) := goodIn_app (goodIn_of _ (by decide +kernel)) ggX5_stateOf_X5_isFine
theorem dX5_stateOf_0 : decode cX5_stateOf 0 = .ok (.aload_n 0, 1) := by decide +kernel
theorem dX5_stateOf_1 : decode cX5_stateOf 1 = .ok (.aload_n 0, 1) := by decide +kernel
theorem dX5_stateOf_2 : decode cX5_stateOf 2 = .ok (.iload_n 1, 1) := by decide +kernel
theorem dX5_stateOf_3 : decode cX5_stateOf 3 = .ok (.invokevirtual 176, 3) := by decide +kernel
theorem dX5_stateOf_6 : decode cX5_stateOf 6 = .ok (.ifCond .eq 7, 3) := by decide +kernel
theorem dX5_stateOf_9 : decode cX5_stateOf 9 = .ok (.iconst 0, 1) := by decide +kernel
theorem dX5_stateOf_10 : decode cX5_stateOf 10 = .ok (.goto 4, 3) := by decide +kernel
theorem dX5_stateOf_13 : decode cX5_stateOf 13 = .ok (.iconst 1, 1) := by decide +kernel
theorem dX5_stateOf_14 : decode cX5_stateOf 14 = .ok (.invokevirtual 99, 3) := by decide +kernel
theorem dX5_stateOf_17 : decode cX5_stateOf 17 = .ok (.ifCond .eq 12, 3) := by decide +kernel
theorem dX5_stateOf_20 : decode cX5_stateOf 20 = .ok (.aload_n 0, 1) := by decide +kernel
theorem dX5_stateOf_21 : decode cX5_stateOf 21 = .ok (.getfield 46, 3) := by decide +kernel
theorem dX5_stateOf_24 : decode cX5_stateOf 24 = .ok (.iload_n 1, 1) := by decide +kernel
theorem dX5_stateOf_25 : decode cX5_stateOf 25 = .ok (.iaload, 1) := by decide +kernel
theorem dX5_stateOf_26 : decode cX5_stateOf 26 = .ok (.goto 4, 3) := by decide +kernel
theorem dX5_stateOf_29 : decode cX5_stateOf 29 = .ok (.iconst 0, 1) := by decide +kernel
theorem dX5_stateOf_30 : decode cX5_stateOf 30 = .ok (.ireturn, 1) := by decide +kernel
set_option maxRecDepth 20000 in
theorem ggX5_lenders_X5_isCopy : GoodIn wsX5_lenders wsX5_isCopy := goodIn_r _ [5, 6, 7, 8, 4, 9, 30, 31, 32, 33, 34, 35, 36, 37, 38, 39, 40, 41, 42, 43, 44, 45, 46, 47, 48, 49, 50, 51, 52, 53, 54, 55, 56, 57, 58, 59, 60, 61, 62] (by decide +kernel) (by decide +kernel)
set_option maxRecDepth 20000 in
theorem gX5_lenders_X5_isCopy : GoodIn wsX5_lenders (wsV RX5 176 RX5 yX5_isCopy wsX5_isCopy) := goodIn_app (goodIn_of _ (by decide +kernel)) ggX5_lenders_X5_isCopy
set_option maxRecDepth 20000 in
theorem ggX5_lenders_X5_isFine : GoodIn wsX5_lenders wsX5_isFine := goodIn_r _ [13, 14, 30, 31, 32, 33, 34, 35, 36, 37, 38, 39, 40, 41, 42, 43, 44, 45, 46, 47, 48, 49, 50, 51, 52, 53, 54, 55, 56, 57, 58, 59, 60, 61, 62] (by decide +kernel) (by decide +kernel)
set_option maxRecDepth 20000 in
theorem gX5_lenders_X5_isFine : GoodIn wsX5_lenders (wsV RX5 99 RX5 yX5_isFine wsX5_isFine) := goodIn_app (goodIn_of _ (by decide +kernel)) ggX5_lenders_X5_isFine
set_option maxRecDepth 20000 in
theorem ggX5_lenders_X5_lendersOf : GoodIn wsX5_lenders wsX5_lendersOf := goodIn_r _ [18, 19, 20, 21, 22, 4, 23, 24, 25, 26, 6, 27, 28, 29, 30, 31, 32, 33, 34, 35, 36, 37, 38, 39, 40, 41, 42, 43, 44, 45, 46, 47, 48, 49, 50, 51, 52, 53, 54, 55, 56, 57, 58, 59, 60, 61, 62] (by decide +kernel) (by decide +kernel)
set_option maxRecDepth 20000 in
theorem gX5_lenders_X5_lendersOf : GoodIn wsX5_lenders (wsV RX5 143 RX5 yX5_lendersOf wsX5_lendersOf) := goodIn_app (goodIn_of _ (by decide +kernel)) ggX5_lenders_X5_lendersOf
theorem dX5_lenders_0 : decode cX5_lenders 0 = .ok (.aload_n 0, 1) := by decide +kernel
theorem dX5_lenders_1 : decode cX5_lenders 1 = .ok (.aload_n 0, 1) := by decide +kernel
theorem dX5_lenders_2 : decode cX5_lenders 2 = .ok (.iload_n 1, 1) := by decide +kernel
theorem dX5_lenders_3 : decode cX5_lenders 3 = .ok (.invokevirtual 176, 3) := by decide +kernel
theorem dX5_lenders_6 : decode cX5_lenders 6 = .ok (.ifCond .eq 7, 3) := by decide +kernel
theorem dX5_lenders_9 : decode cX5_lenders 9 = .ok (.iconst 0, 1) := by decide +kernel
theorem dX5_lenders_10 : decode cX5_lenders 10 = .ok (.goto 4, 3) := by decide +kernel
theorem dX5_lenders_13 : decode cX5_lenders 13 = .ok (.iconst 1, 1) := by decide +kernel
theorem dX5_lenders_14 : decode cX5_lenders 14 = .ok (.invokevirtual 99, 3) := by decide +kernel
theorem dX5_lenders_17 : decode cX5_lenders 17 = .ok (.ifCond .eq 11, 3) := by decide +kernel
theorem dX5_lenders_20 : decode cX5_lenders 20 = .ok (.aload_n 0, 1) := by decide +kernel
theorem dX5_lenders_21 : decode cX5_lenders 21 = .ok (.iload_n 1, 1) := by decide +kernel
theorem dX5_lenders_22 : decode cX5_lenders 22 = .ok (.invokevirtual 143, 3) := by decide +kernel
theorem dX5_lenders_25 : decode cX5_lenders 25 = .ok (.goto 4, 3) := by decide +kernel
theorem dX5_lenders_28 : decode cX5_lenders 28 = .ok (.iconst 0, 1) := by decide +kernel
theorem dX5_lenders_29 : decode cX5_lenders 29 = .ok (.ireturn, 1) := by decide +kernel
set_option maxRecDepth 20000 in
theorem ggX5_copyOf_X5_isGroup : GoodIn wsX5_copyOf wsX5_isGroup := goodIn_r _ [6, 7, 8, 9, 5, 10, 16, 17, 18, 19, 20, 21, 22, 23, 24, 25, 26, 27, 28, 29, 30, 31, 32, 33, 34, 35, 36, 37, 38, 39, 40, 41, 42, 43, 44, 45, 46, 47, 48] (by decide +kernel) (by decide +kernel)
set_option maxRecDepth 20000 in
theorem gX5_copyOf_X5_isGroup : GoodIn wsX5_copyOf (wsV RX5 127 RX5 yX5_isGroup wsX5_isGroup) := goodIn_app (goodIn_of _ (by decide +kernel)) ggX5_copyOf_X5_isGroup
set_option maxRecDepth 20000 in
theorem ggX5_copyOf_X5_isFine : GoodIn wsX5_copyOf wsX5_isFine := goodIn_r _ [14, 15, 16, 17, 18, 19, 20, 21, 22, 23, 24, 25, 26, 27, 28, 29, 30, 31, 32, 33, 34, 35, 36, 37, 38, 39, 40, 41, 42, 43, 44, 45, 46, 47, 48] (by decide +kernel) (by decide +kernel)
set_option maxRecDepth 20000 in
theorem gX5_copyOf_X5_isFine : GoodIn wsX5_copyOf (wsV RX5 99 RX5 yX5_isFine wsX5_isFine) := goodIn_app (goodIn_of _ (by decide +kernel)) ggX5_copyOf_X5_isFine
theorem dX5_copyOf_0 : decode cX5_copyOf 0 = .ok (.aload_n 0, 1) := by decide +kernel
theorem dX5_copyOf_1 : decode cX5_copyOf 1 = .ok (.aload_n 0, 1) := by decide +kernel
theorem dX5_copyOf_2 : decode cX5_copyOf 2 = .ok (.iload_n 1, 1) := by decide +kernel
theorem dX5_copyOf_3 : decode cX5_copyOf 3 = .ok (.invokevirtual 127, 3) := by decide +kernel
theorem dX5_copyOf_6 : decode cX5_copyOf 6 = .ok (.ifCond .eq 7, 3) := by decide +kernel
theorem dX5_copyOf_9 : decode cX5_copyOf 9 = .ok (.iconst 0, 1) := by decide +kernel
theorem dX5_copyOf_10 : decode cX5_copyOf 10 = .ok (.goto 4, 3) := by decide +kernel
theorem dX5_copyOf_13 : decode cX5_copyOf 13 = .ok (.iconst 1, 1) := by decide +kernel
theorem dX5_copyOf_14 : decode cX5_copyOf 14 = .ok (.invokevirtual 99, 3) := by decide +kernel
theorem dX5_copyOf_17 : decode cX5_copyOf 17 = .ok (.ifCond .eq 12, 3) := by decide +kernel
theorem dX5_copyOf_20 : decode cX5_copyOf 20 = .ok (.aload_n 0, 1) := by decide +kernel
theorem dX5_copyOf_21 : decode cX5_copyOf 21 = .ok (.getfield 28, 3) := by decide +kernel
theorem dX5_copyOf_24 : decode cX5_copyOf 24 = .ok (.iload_n 1, 1) := by decide +kernel
theorem dX5_copyOf_25 : decode cX5_copyOf 25 = .ok (.iaload, 1) := by decide +kernel
theorem dX5_copyOf_26 : decode cX5_copyOf 26 = .ok (.goto 4, 3) := by decide +kernel
theorem dX5_copyOf_29 : decode cX5_copyOf 29 = .ok (.iconst 0, 1) := by decide +kernel
theorem dX5_copyOf_30 : decode cX5_copyOf 30 = .ok (.ireturn, 1) := by decide +kernel
theorem dX5_lentTo_0 : decode cX5_lentTo 0 = .ok (.iconst 0, 1) := by decide +kernel
theorem dX5_lentTo_1 : decode cX5_lentTo 1 = .ok (.istore_n 2, 1) := by decide +kernel
theorem dX5_lentTo_2 : decode cX5_lentTo 2 = .ok (.iconst 0, 1) := by decide +kernel
theorem dX5_lentTo_3 : decode cX5_lentTo 3 = .ok (.istore_n 3, 1) := by decide +kernel
theorem dX5_lentTo_4 : decode cX5_lentTo 4 = .ok (.iload_n 3, 1) := by decide +kernel
theorem dX5_lentTo_5 : decode cX5_lentTo 5 = .ok (.aload_n 0, 1) := by decide +kernel
theorem dX5_lentTo_6 : decode cX5_lentTo 6 = .ok (.getfield 163, 3) := by decide +kernel
theorem dX5_lentTo_9 : decode cX5_lentTo 9 = .ok (.if_icmp .ge 32, 3) := by decide +kernel
theorem dX5_lentTo_12 : decode cX5_lentTo 12 = .ok (.iload_n 2, 1) := by decide +kernel
theorem dX5_lentTo_13 : decode cX5_lentTo 13 = .ok (.aload_n 0, 1) := by decide +kernel
theorem dX5_lentTo_14 : decode cX5_lentTo 14 = .ok (.getfield 52, 3) := by decide +kernel
theorem dX5_lentTo_17 : decode cX5_lentTo 17 = .ok (.iload_n 3, 1) := by decide +kernel
theorem dX5_lentTo_18 : decode cX5_lentTo 18 = .ok (.iaload, 1) := by decide +kernel
theorem dX5_lentTo_19 : decode cX5_lentTo 19 = .ok (.iload_n 1, 1) := by decide +kernel
theorem dX5_lentTo_20 : decode cX5_lentTo 20 = .ok (.if_icmp .ne 12, 3) := by decide +kernel
theorem dX5_lentTo_23 : decode cX5_lentTo 23 = .ok (.aload_n 0, 1) := by decide +kernel
theorem dX5_lentTo_24 : decode cX5_lentTo 24 = .ok (.getfield 61, 3) := by decide +kernel
theorem dX5_lentTo_27 : decode cX5_lentTo 27 = .ok (.iload_n 3, 1) := by decide +kernel
theorem dX5_lentTo_28 : decode cX5_lentTo 28 = .ok (.iaload, 1) := by decide +kernel
theorem dX5_lentTo_29 : decode cX5_lentTo 29 = .ok (.goto 4, 3) := by decide +kernel
theorem dX5_lentTo_32 : decode cX5_lentTo 32 = .ok (.iconst 0, 1) := by decide +kernel
theorem dX5_lentTo_33 : decode cX5_lentTo 33 = .ok (.iadd, 1) := by decide +kernel
theorem dX5_lentTo_34 : decode cX5_lentTo 34 = .ok (.istore_n 2, 1) := by decide +kernel
theorem dX5_lentTo_35 : decode cX5_lentTo 35 = .ok (.iinc 3 1, 3) := by decide +kernel
theorem dX5_lentTo_38 : decode cX5_lentTo 38 = .ok (.goto (-34), 3) := by decide +kernel
theorem dX5_lentTo_41 : decode cX5_lentTo 41 = .ok (.iload_n 2, 1) := by decide +kernel
theorem dX5_lentTo_42 : decode cX5_lentTo 42 = .ok (.ireturn, 1) := by decide +kernel
set_option maxRecDepth 20000 in
theorem ggX5_holds_X5_leftOf : GoodIn wsX5_holds wsX5_leftOf := goodIn_r _ [9, 10, 11, 12, 20, 21, 22, 23, 24, 25, 26, 27, 28, 29, 30, 31, 32, 33, 34, 35, 36, 37, 38, 39, 40, 41, 42, 43, 44, 45, 46, 47, 48, 49, 50, 51, 52] (by decide +kernel) (by decide +kernel)
set_option maxRecDepth 20000 in
theorem gX5_holds_X5_leftOf : GoodIn wsX5_holds (wsV RX5 134 RX5 yX5_leftOf wsX5_leftOf) := goodIn_app (goodIn_of _ (by decide +kernel)) ggX5_holds_X5_leftOf
set_option maxRecDepth 20000 in
theorem ggX5_holds_X5_lentTo : GoodIn wsX5_holds wsX5_lentTo := goodIn_r _ [16, 17, 18, 19, 20, 21, 22, 23, 24, 25, 26, 27, 28, 29, 30, 31, 32, 33, 34, 35, 36, 37, 38, 39, 40, 41, 42, 43, 44, 45, 46, 47, 48, 49, 50, 51, 52] (by decide +kernel) (by decide +kernel)
set_option maxRecDepth 20000 in
theorem gX5_holds_X5_lentTo : GoodIn wsX5_holds (wsV RX5 179 RX5 yX5_lentTo wsX5_lentTo) := goodIn_app (goodIn_of _ (by decide +kernel)) ggX5_holds_X5_lentTo
theorem dX5_holds_0 : decode cX5_holds 0 = .ok (.aload_n 0, 1) := by decide +kernel
theorem dX5_holds_1 : decode cX5_holds 1 = .ok (.getfield 70, 3) := by decide +kernel
theorem dX5_holds_4 : decode cX5_holds 4 = .ok (.iload_n 2, 1) := by decide +kernel
theorem dX5_holds_5 : decode cX5_holds 5 = .ok (.iaload, 1) := by decide +kernel
theorem dX5_holds_6 : decode cX5_holds 6 = .ok (.istore_n 3, 1) := by decide +kernel
theorem dX5_holds_7 : decode cX5_holds 7 = .ok (.aload_n 0, 1) := by decide +kernel
theorem dX5_holds_8 : decode cX5_holds 8 = .ok (.getfield 67, 3) := by decide +kernel
theorem dX5_holds_11 : decode cX5_holds 11 = .ok (.iload_n 2, 1) := by decide +kernel
theorem dX5_holds_12 : decode cX5_holds 12 = .ok (.iaload, 1) := by decide +kernel
theorem dX5_holds_13 : decode cX5_holds 13 = .ok (.tableswitch 75 0 2 #[27, 43, 58], 27) := by decide +kernel
theorem dX5_holds_40 : decode cX5_holds 40 = .ok (.aload_n 0, 1) := by decide +kernel
theorem dX5_holds_41 : decode cX5_holds 41 = .ok (.getfield 16, 3) := by decide +kernel
theorem dX5_holds_44 : decode cX5_holds 44 = .ok (.iload_n 1, 1) := by decide +kernel
theorem dX5_holds_45 : decode cX5_holds 45 = .ok (.iaload, 1) := by decide +kernel
theorem dX5_holds_46 : decode cX5_holds 46 = .ok (.iload_n 3, 1) := by decide +kernel
theorem dX5_holds_47 : decode cX5_holds 47 = .ok (.if_icmp .lt 7, 3) := by decide +kernel
theorem dX5_holds_50 : decode cX5_holds 50 = .ok (.iconst 1, 1) := by decide +kernel
theorem dX5_holds_51 : decode cX5_holds 51 = .ok (.goto 4, 3) := by decide +kernel
theorem dX5_holds_54 : decode cX5_holds 54 = .ok (.iconst 0, 1) := by decide +kernel
theorem dX5_holds_55 : decode cX5_holds 55 = .ok (.ireturn, 1) := by decide +kernel
theorem dX5_holds_56 : decode cX5_holds 56 = .ok (.aload_n 0, 1) := by decide +kernel
theorem dX5_holds_57 : decode cX5_holds 57 = .ok (.iload_n 1, 1) := by decide +kernel
theorem dX5_holds_58 : decode cX5_holds 58 = .ok (.invokevirtual 134, 3) := by decide +kernel
theorem dX5_holds_61 : decode cX5_holds 61 = .ok (.iload_n 3, 1) := by decide +kernel
theorem dX5_holds_62 : decode cX5_holds 62 = .ok (.if_icmp .ge 7, 3) := by decide +kernel
theorem dX5_holds_65 : decode cX5_holds 65 = .ok (.iconst 1, 1) := by decide +kernel
theorem dX5_holds_66 : decode cX5_holds 66 = .ok (.goto 4, 3) := by decide +kernel
theorem dX5_holds_69 : decode cX5_holds 69 = .ok (.iconst 0, 1) := by decide +kernel
theorem dX5_holds_70 : decode cX5_holds 70 = .ok (.ireturn, 1) := by decide +kernel
theorem dX5_holds_71 : decode cX5_holds 71 = .ok (.aload_n 0, 1) := by decide +kernel
theorem dX5_holds_72 : decode cX5_holds 72 = .ok (.getfield 16, 3) := by decide +kernel
theorem dX5_holds_75 : decode cX5_holds 75 = .ok (.iload_n 1, 1) := by decide +kernel
theorem dX5_holds_76 : decode cX5_holds 76 = .ok (.iaload, 1) := by decide +kernel
theorem dX5_holds_77 : decode cX5_holds 77 = .ok (.iload_n 3, 1) := by decide +kernel
theorem dX5_holds_78 : decode cX5_holds 78 = .ok (.irem, 1) := by decide +kernel
theorem dX5_holds_79 : decode cX5_holds 79 = .ok (.ifCond .ne 7, 3) := by decide +kernel
theorem dX5_holds_82 : decode cX5_holds 82 = .ok (.iconst 1, 1) := by decide +kernel
theorem dX5_holds_83 : decode cX5_holds 83 = .ok (.goto 4, 3) := by decide +kernel
theorem dX5_holds_86 : decode cX5_holds 86 = .ok (.iconst 0, 1) := by decide +kernel
theorem dX5_holds_87 : decode cX5_holds 87 = .ok (.ireturn, 1) := by decide +kernel
theorem dX5_holds_88 : decode cX5_holds 88 = .ok (.aload_n 0, 1) := by decide +kernel
theorem dX5_holds_89 : decode cX5_holds 89 = .ok (.aload_n 0, 1) := by decide +kernel
theorem dX5_holds_90 : decode cX5_holds 90 = .ok (.getfield 28, 3) := by decide +kernel
theorem dX5_holds_93 : decode cX5_holds 93 = .ok (.iload_n 1, 1) := by decide +kernel
theorem dX5_holds_94 : decode cX5_holds 94 = .ok (.iaload, 1) := by decide +kernel
theorem dX5_holds_95 : decode cX5_holds 95 = .ok (.invokevirtual 179, 3) := by decide +kernel
theorem dX5_holds_98 : decode cX5_holds 98 = .ok (.iload_n 3, 1) := by decide +kernel
theorem dX5_holds_99 : decode cX5_holds 99 = .ok (.if_icmp .lt 7, 3) := by decide +kernel
theorem dX5_holds_102 : decode cX5_holds 102 = .ok (.iconst 1, 1) := by decide +kernel
theorem dX5_holds_103 : decode cX5_holds 103 = .ok (.goto 4, 3) := by decide +kernel
theorem dX5_holds_106 : decode cX5_holds 106 = .ok (.iconst 0, 1) := by decide +kernel
theorem dX5_holds_107 : decode cX5_holds 107 = .ok (.ireturn, 1) := by decide +kernel
set_option maxRecDepth 20000 in
theorem ggX5_firstThat_X5_holds : GoodIn wsX5_firstThat wsX5_holds := goodIn_r _ [7, 8, 9, 10, 11, 12, 13, 14, 6, 15, 16, 17, 18, 19, 20, 21, 22, 23, 24, 25, 26, 27, 28, 29, 30, 31, 32, 33, 34, 35, 36, 37, 38, 39, 40, 41, 42, 43, 44, 45, 46, 47, 48, 49, 50, 51, 52, 53, 54, 55, 56, 57, 58] (by decide +kernel) (by decide +kernel)
set_option maxRecDepth 20000 in
theorem gX5_firstThat_X5_holds : GoodIn wsX5_firstThat (wsV RX5 182 RX5 yX5_holds wsX5_holds) := goodIn_app (goodIn_of _ (by decide +kernel)) ggX5_firstThat_X5_holds
theorem dX5_firstThat_0 : decode cX5_firstThat 0 = .ok (.iconst 0, 1) := by decide +kernel
theorem dX5_firstThat_1 : decode cX5_firstThat 1 = .ok (.istore 4, 2) := by decide +kernel
theorem dX5_firstThat_3 : decode cX5_firstThat 3 = .ok (.iload 4, 2) := by decide +kernel
theorem dX5_firstThat_5 : decode cX5_firstThat 5 = .ok (.aload_n 0, 1) := by decide +kernel
theorem dX5_firstThat_6 : decode cX5_firstThat 6 = .ok (.getfield 76, 3) := by decide +kernel
theorem dX5_firstThat_9 : decode cX5_firstThat 9 = .ok (.iload_n 2, 1) := by decide +kernel
theorem dX5_firstThat_10 : decode cX5_firstThat 10 = .ok (.iaload, 1) := by decide +kernel
theorem dX5_firstThat_11 : decode cX5_firstThat 11 = .ok (.if_icmp .ge 43, 3) := by decide +kernel
theorem dX5_firstThat_14 : decode cX5_firstThat 14 = .ok (.aload_n 0, 1) := by decide +kernel
theorem dX5_firstThat_15 : decode cX5_firstThat 15 = .ok (.getfield 64, 3) := by decide +kernel
theorem dX5_firstThat_18 : decode cX5_firstThat 18 = .ok (.bipush 12, 2) := by decide +kernel
theorem dX5_firstThat_20 : decode cX5_firstThat 20 = .ok (.iload_n 2, 1) := by decide +kernel
theorem dX5_firstThat_21 : decode cX5_firstThat 21 = .ok (.imul, 1) := by decide +kernel
theorem dX5_firstThat_22 : decode cX5_firstThat 22 = .ok (.iload 4, 2) := by decide +kernel
theorem dX5_firstThat_24 : decode cX5_firstThat 24 = .ok (.iadd, 1) := by decide +kernel
theorem dX5_firstThat_25 : decode cX5_firstThat 25 = .ok (.iaload, 1) := by decide +kernel
theorem dX5_firstThat_26 : decode cX5_firstThat 26 = .ok (.iload_n 3, 1) := by decide +kernel
theorem dX5_firstThat_27 : decode cX5_firstThat 27 = .ok (.if_icmp .ne 21, 3) := by decide +kernel
theorem dX5_firstThat_30 : decode cX5_firstThat 30 = .ok (.aload_n 0, 1) := by decide +kernel
theorem dX5_firstThat_31 : decode cX5_firstThat 31 = .ok (.iload_n 1, 1) := by decide +kernel
theorem dX5_firstThat_32 : decode cX5_firstThat 32 = .ok (.bipush 12, 2) := by decide +kernel
theorem dX5_firstThat_34 : decode cX5_firstThat 34 = .ok (.iload_n 2, 1) := by decide +kernel
theorem dX5_firstThat_35 : decode cX5_firstThat 35 = .ok (.imul, 1) := by decide +kernel
theorem dX5_firstThat_36 : decode cX5_firstThat 36 = .ok (.iload 4, 2) := by decide +kernel
theorem dX5_firstThat_38 : decode cX5_firstThat 38 = .ok (.iadd, 1) := by decide +kernel
theorem dX5_firstThat_39 : decode cX5_firstThat 39 = .ok (.invokevirtual 182, 3) := by decide +kernel
theorem dX5_firstThat_42 : decode cX5_firstThat 42 = .ok (.ifCond .eq 6, 3) := by decide +kernel
theorem dX5_firstThat_45 : decode cX5_firstThat 45 = .ok (.iload 4, 2) := by decide +kernel
theorem dX5_firstThat_47 : decode cX5_firstThat 47 = .ok (.ireturn, 1) := by decide +kernel
theorem dX5_firstThat_48 : decode cX5_firstThat 48 = .ok (.iinc 4 1, 3) := by decide +kernel
theorem dX5_firstThat_51 : decode cX5_firstThat 51 = .ok (.goto (-48), 3) := by decide +kernel
theorem dX5_firstThat_54 : decode cX5_firstThat 54 = .ok (.iconst (-1), 1) := by decide +kernel
theorem dX5_firstThat_55 : decode cX5_firstThat 55 = .ok (.ireturn, 1) := by decide +kernel
set_option maxRecDepth 20000 in
theorem ggX5_rulingFor_X5_firstThat : GoodIn wsX5_rulingFor wsX5_firstThat := goodIn_r _ [8, 9, 10, 11, 12, 13, 7, 14, 15, 16, 17, 2, 18, 19, 20, 21, 22, 23, 24, 25, 26, 27, 28, 29, 30, 31, 32, 33, 34, 35, 36, 37, 38, 39, 40, 41, 42, 43, 44, 45, 46, 47, 48, 49, 50, 51, 52, 53, 54, 55, 56, 57, 58, 59, 60, 61, 62, 63, 64] (by decide +kernel) (by decide +kernel)
set_option maxRecDepth 20000 in
theorem gX5_rulingFor_X5_firstThat : GoodIn wsX5_rulingFor (wsV RX5 185 RX5 yX5_firstThat wsX5_firstThat) := goodIn_app (goodIn_of _ (by decide +kernel)) ggX5_rulingFor_X5_firstThat
theorem dX5_rulingFor_0 : decode cX5_rulingFor 0 = .ok (.aload_n 0, 1) := by decide +kernel
theorem dX5_rulingFor_1 : decode cX5_rulingFor 1 = .ok (.getfield 43, 3) := by decide +kernel
theorem dX5_rulingFor_4 : decode cX5_rulingFor 4 = .ok (.aload_n 0, 1) := by decide +kernel
theorem dX5_rulingFor_5 : decode cX5_rulingFor 5 = .ok (.getfield 28, 3) := by decide +kernel
theorem dX5_rulingFor_8 : decode cX5_rulingFor 8 = .ok (.iload_n 1, 1) := by decide +kernel
theorem dX5_rulingFor_9 : decode cX5_rulingFor 9 = .ok (.iaload, 1) := by decide +kernel
theorem dX5_rulingFor_10 : decode cX5_rulingFor 10 = .ok (.iaload, 1) := by decide +kernel
theorem dX5_rulingFor_11 : decode cX5_rulingFor 11 = .ok (.istore_n 2, 1) := by decide +kernel
theorem dX5_rulingFor_12 : decode cX5_rulingFor 12 = .ok (.iconst (-1), 1) := by decide +kernel
theorem dX5_rulingFor_13 : decode cX5_rulingFor 13 = .ok (.istore_n 3, 1) := by decide +kernel
theorem dX5_rulingFor_14 : decode cX5_rulingFor 14 = .ok (.aload_n 0, 1) := by decide +kernel
theorem dX5_rulingFor_15 : decode cX5_rulingFor 15 = .ok (.iload_n 1, 1) := by decide +kernel
theorem dX5_rulingFor_16 : decode cX5_rulingFor 16 = .ok (.iload_n 2, 1) := by decide +kernel
theorem dX5_rulingFor_17 : decode cX5_rulingFor 17 = .ok (.iconst (-1), 1) := by decide +kernel
theorem dX5_rulingFor_18 : decode cX5_rulingFor 18 = .ok (.invokevirtual 185, 3) := by decide +kernel
theorem dX5_rulingFor_21 : decode cX5_rulingFor 21 = .ok (.istore 4, 2) := by decide +kernel
theorem dX5_rulingFor_23 : decode cX5_rulingFor 23 = .ok (.iload 4, 2) := by decide +kernel
theorem dX5_rulingFor_25 : decode cX5_rulingFor 25 = .ok (.iconst (-1), 1) := by decide +kernel
theorem dX5_rulingFor_26 : decode cX5_rulingFor 26 = .ok (.if_icmp .eq 18, 3) := by decide +kernel
theorem dX5_rulingFor_29 : decode cX5_rulingFor 29 = .ok (.iload 4, 2) := by decide +kernel
theorem dX5_rulingFor_31 : decode cX5_rulingFor 31 = .ok (.istore_n 3, 1) := by decide +kernel
theorem dX5_rulingFor_32 : decode cX5_rulingFor 32 = .ok (.aload_n 0, 1) := by decide +kernel
theorem dX5_rulingFor_33 : decode cX5_rulingFor 33 = .ok (.iload_n 1, 1) := by decide +kernel
theorem dX5_rulingFor_34 : decode cX5_rulingFor 34 = .ok (.iload_n 2, 1) := by decide +kernel
theorem dX5_rulingFor_35 : decode cX5_rulingFor 35 = .ok (.iload_n 3, 1) := by decide +kernel
theorem dX5_rulingFor_36 : decode cX5_rulingFor 36 = .ok (.invokevirtual 185, 3) := by decide +kernel
theorem dX5_rulingFor_39 : decode cX5_rulingFor 39 = .ok (.istore 4, 2) := by decide +kernel
theorem dX5_rulingFor_41 : decode cX5_rulingFor 41 = .ok (.goto (-18), 3) := by decide +kernel
theorem dX5_rulingFor_44 : decode cX5_rulingFor 44 = .ok (.iload_n 3, 1) := by decide +kernel
theorem dX5_rulingFor_45 : decode cX5_rulingFor 45 = .ok (.iconst (-1), 1) := by decide +kernel
theorem dX5_rulingFor_46 : decode cX5_rulingFor 46 = .ok (.if_icmp .ne 7, 3) := by decide +kernel
theorem dX5_rulingFor_49 : decode cX5_rulingFor 49 = .ok (.iconst (-1), 1) := by decide +kernel
theorem dX5_rulingFor_50 : decode cX5_rulingFor 50 = .ok (.goto 14, 3) := by decide +kernel
theorem dX5_rulingFor_53 : decode cX5_rulingFor 53 = .ok (.aload_n 0, 1) := by decide +kernel
theorem dX5_rulingFor_54 : decode cX5_rulingFor 54 = .ok (.getfield 73, 3) := by decide +kernel
theorem dX5_rulingFor_57 : decode cX5_rulingFor 57 = .ok (.bipush 12, 2) := by decide +kernel
theorem dX5_rulingFor_59 : decode cX5_rulingFor 59 = .ok (.iload_n 2, 1) := by decide +kernel
theorem dX5_rulingFor_60 : decode cX5_rulingFor 60 = .ok (.imul, 1) := by decide +kernel
theorem dX5_rulingFor_61 : decode cX5_rulingFor 61 = .ok (.iload_n 3, 1) := by decide +kernel
theorem dX5_rulingFor_62 : decode cX5_rulingFor 62 = .ok (.iadd, 1) := by decide +kernel
theorem dX5_rulingFor_63 : decode cX5_rulingFor 63 = .ok (.iaload, 1) := by decide +kernel
theorem dX5_rulingFor_64 : decode cX5_rulingFor 64 = .ok (.ireturn, 1) := by decide +kernel
set_option maxRecDepth 20000 in
theorem ggX5_asks_X5_isGroup : GoodIn wsX5_asks wsX5_isGroup := goodIn_r _ [6, 7, 8, 9, 5, 10, 16, 17, 18, 19, 20, 21, 22, 23, 24, 25, 26, 27, 28, 29, 30, 31, 32, 33, 34, 35, 36, 37, 38, 39, 40, 41, 42, 43, 44, 45, 46, 47, 48] (by decide +kernel) (by decide +kernel)
set_option maxRecDepth 20000 in
theorem gX5_asks_X5_isGroup : GoodIn wsX5_asks (wsV RX5 127 RX5 yX5_isGroup wsX5_isGroup) := goodIn_app (goodIn_of _ (by decide +kernel)) ggX5_asks_X5_isGroup
set_option maxRecDepth 20000 in
theorem ggX5_asks_X5_isFine : GoodIn wsX5_asks wsX5_isFine := goodIn_r _ [14, 15, 16, 17, 18, 19, 20, 21, 22, 23, 24, 25, 26, 27, 28, 29, 30, 31, 32, 33, 34, 35, 36, 37, 38, 39, 40, 41, 42, 43, 44, 45, 46, 47, 48] (by decide +kernel) (by decide +kernel)
set_option maxRecDepth 20000 in
theorem gX5_asks_X5_isFine : GoodIn wsX5_asks (wsV RX5 99 RX5 yX5_isFine wsX5_isFine) := goodIn_app (goodIn_of _ (by decide +kernel)) ggX5_asks_X5_isFine
theorem dX5_asks_0 : decode cX5_asks 0 = .ok (.aload_n 0, 1) := by decide +kernel
theorem dX5_asks_1 : decode cX5_asks 1 = .ok (.iload_n 1, 1) := by decide +kernel
theorem dX5_asks_2 : decode cX5_asks 2 = .ok (.invokevirtual 127, 3) := by decide +kernel
theorem dX5_asks_5 : decode cX5_asks 5 = .ok (.istore_n 2, 1) := by decide +kernel
theorem dX5_asks_6 : decode cX5_asks 6 = .ok (.aload_n 0, 1) := by decide +kernel
theorem dX5_asks_7 : decode cX5_asks 7 = .ok (.iload_n 2, 1) := by decide +kernel
theorem dX5_asks_8 : decode cX5_asks 8 = .ok (.ifCond .ne 7, 3) := by decide +kernel
theorem dX5_asks_11 : decode cX5_asks 11 = .ok (.iconst 1, 1) := by decide +kernel
theorem dX5_asks_12 : decode cX5_asks 12 = .ok (.goto 18, 3) := by decide +kernel
theorem dX5_asks_15 : decode cX5_asks 15 = .ok (.aload_n 0, 1) := by decide +kernel
theorem dX5_asks_16 : decode cX5_asks 16 = .ok (.getfield 28, 3) := by decide +kernel
theorem dX5_asks_19 : decode cX5_asks 19 = .ok (.iload_n 1, 1) := by decide +kernel
theorem dX5_asks_20 : decode cX5_asks 20 = .ok (.iaload, 1) := by decide +kernel
theorem dX5_asks_21 : decode cX5_asks 21 = .ok (.iconst (-1), 1) := by decide +kernel
theorem dX5_asks_22 : decode cX5_asks 22 = .ok (.if_icmp .ne 7, 3) := by decide +kernel
theorem dX5_asks_25 : decode cX5_asks 25 = .ok (.iconst 2, 1) := by decide +kernel
theorem dX5_asks_26 : decode cX5_asks 26 = .ok (.goto 4, 3) := by decide +kernel
theorem dX5_asks_29 : decode cX5_asks 29 = .ok (.iconst 0, 1) := by decide +kernel
theorem dX5_asks_30 : decode cX5_asks 30 = .ok (.invokevirtual 99, 3) := by decide +kernel
theorem dX5_asks_33 : decode cX5_asks 33 = .ok (.ireturn, 1) := by decide +kernel
set_option maxRecDepth 20000 in
theorem ggX5_ruling_X5_asks : GoodIn wsX5_ruling wsX5_asks := goodIn_r _ [5, 6, 7, 8, 9, 4, 10, 11, 12, 13, 14, 15, 16, 17, 18, 19, 53, 54, 55, 56, 57, 58, 59, 60, 61, 62, 63, 64, 65, 66, 67, 68, 69, 70, 71, 72, 73, 74, 75, 76, 77, 78, 79, 80, 81, 82, 83, 84, 85] (by decide +kernel) (by decide +kernel)
set_option maxRecDepth 20000 in
theorem gX5_ruling_X5_asks : GoodIn wsX5_ruling (wsV RX5 189 RX5 yX5_asks wsX5_asks) := goodIn_app (goodIn_of _ (by decide +kernel)) ggX5_ruling_X5_asks
set_option maxRecDepth 20000 in
theorem ggX5_ruling_X5_rulingFor : GoodIn wsX5_ruling wsX5_rulingFor := goodIn_r _ [23, 24, 6, 25, 26, 27, 28, 4, 29, 30, 31, 32, 33, 34, 35, 36, 37, 38, 39, 40, 41, 42, 43, 44, 45, 46, 47, 48, 49, 50, 51, 52, 53, 54, 55, 56, 57, 58, 59, 60, 61, 62, 63, 64, 65, 66, 67, 68, 69, 70, 71, 72, 73, 74, 75, 76, 77, 78, 79, 80, 81, 82, 83, 84, 85] (by decide +kernel) (by decide +kernel)
set_option maxRecDepth 20000 in
theorem gX5_ruling_X5_rulingFor : GoodIn wsX5_ruling (wsV RX5 192 RX5 yX5_rulingFor wsX5_rulingFor) := goodIn_app (goodIn_of _ (by decide +kernel)) ggX5_ruling_X5_rulingFor
theorem dX5_ruling_0 : decode cX5_ruling 0 = .ok (.aload_n 0, 1) := by decide +kernel
theorem dX5_ruling_1 : decode cX5_ruling 1 = .ok (.iload_n 1, 1) := by decide +kernel
theorem dX5_ruling_2 : decode cX5_ruling 2 = .ok (.invokevirtual 189, 3) := by decide +kernel
theorem dX5_ruling_5 : decode cX5_ruling 5 = .ok (.ifCond .eq 11, 3) := by decide +kernel
theorem dX5_ruling_8 : decode cX5_ruling 8 = .ok (.aload_n 0, 1) := by decide +kernel
theorem dX5_ruling_9 : decode cX5_ruling 9 = .ok (.iload_n 1, 1) := by decide +kernel
theorem dX5_ruling_10 : decode cX5_ruling 10 = .ok (.invokevirtual 192, 3) := by decide +kernel
theorem dX5_ruling_13 : decode cX5_ruling 13 = .ok (.goto 4, 3) := by decide +kernel
theorem dX5_ruling_16 : decode cX5_ruling 16 = .ok (.iconst 0, 1) := by decide +kernel
theorem dX5_ruling_17 : decode cX5_ruling 17 = .ok (.ireturn, 1) := by decide +kernel
set_option maxRecDepth 20000 in
theorem ggX5_rulingFromBelow_X5_asks : GoodIn wsX5_rulingFromBelow wsX5_asks := goodIn_r _ [5, 6, 7, 8, 9, 4, 10, 11, 12, 13, 14, 15, 16, 17, 18, 19, 53, 54, 55, 56, 57, 58, 59, 60, 61, 62, 63, 64, 65, 66, 67, 68, 69, 70, 71, 72, 73, 74, 75, 76, 77, 78, 79, 80, 81, 82, 83, 84, 85] (by decide +kernel) (by decide +kernel)
set_option maxRecDepth 20000 in
theorem gX5_rulingFromBelow_X5_asks : GoodIn wsX5_rulingFromBelow (wsV RX5 189 RX5 yX5_asks wsX5_asks) := goodIn_app (goodIn_of _ (by decide +kernel)) ggX5_rulingFromBelow_X5_asks
set_option maxRecDepth 20000 in
theorem ggX5_rulingFromBelow_X5_rulingFor : GoodIn wsX5_rulingFromBelow wsX5_rulingFor := goodIn_r _ [23, 24, 6, 25, 26, 27, 28, 4, 29, 30, 31, 32, 33, 34, 35, 36, 37, 38, 39, 40, 41, 42, 43, 44, 45, 46, 47, 48, 49, 50, 51, 52, 53, 54, 55, 56, 57, 58, 59, 60, 61, 62, 63, 64, 65, 66, 67, 68, 69, 70, 71, 72, 73, 74, 75, 76, 77, 78, 79, 80, 81, 82, 83, 84, 85] (by decide +kernel) (by decide +kernel)
set_option maxRecDepth 20000 in
theorem gX5_rulingFromBelow_X5_rulingFor : GoodIn wsX5_rulingFromBelow (wsV RX5 192 RX5 yX5_rulingFor wsX5_rulingFor) := goodIn_app (goodIn_of _ (by decide +kernel)) ggX5_rulingFromBelow_X5_rulingFor
theorem dX5_rulingFromBelow_0 : decode cX5_rulingFromBelow 0 = .ok (.aload_n 0, 1) := by decide +kernel
theorem dX5_rulingFromBelow_1 : decode cX5_rulingFromBelow 1 = .ok (.iload_n 1, 1) := by decide +kernel
theorem dX5_rulingFromBelow_2 : decode cX5_rulingFromBelow 2 = .ok (.invokevirtual 189, 3) := by decide +kernel
theorem dX5_rulingFromBelow_5 : decode cX5_rulingFromBelow 5 = .ok (.ifCond .eq 11, 3) := by decide +kernel
theorem dX5_rulingFromBelow_8 : decode cX5_rulingFromBelow 8 = .ok (.aload_n 0, 1) := by decide +kernel
theorem dX5_rulingFromBelow_9 : decode cX5_rulingFromBelow 9 = .ok (.iload_n 1, 1) := by decide +kernel
theorem dX5_rulingFromBelow_10 : decode cX5_rulingFromBelow 10 = .ok (.invokevirtual 192, 3) := by decide +kernel
theorem dX5_rulingFromBelow_13 : decode cX5_rulingFromBelow 13 = .ok (.goto 4, 3) := by decide +kernel
theorem dX5_rulingFromBelow_16 : decode cX5_rulingFromBelow 16 = .ok (.iconst 0, 1) := by decide +kernel
theorem dX5_rulingFromBelow_17 : decode cX5_rulingFromBelow 17 = .ok (.ireturn, 1) := by decide +kernel
set_option maxRecDepth 20000 in
theorem ggX5_depth_X5_isTitle : GoodIn wsX5_depth wsX5_isTitle := goodIn_r _ [7, 8, 9, 10, 6, 11, 17, 18, 19, 20, 21, 22, 23, 24, 25, 26, 27, 28, 29, 30, 31, 32, 33, 34, 35, 36, 37, 38, 39, 40, 41, 42, 43, 44, 45, 46, 47, 48, 49] (by decide +kernel) (by decide +kernel)
set_option maxRecDepth 20000 in
theorem gX5_depth_X5_isTitle : GoodIn wsX5_depth (wsV RX5 109 RX5 yX5_isTitle wsX5_isTitle) := goodIn_app (goodIn_of _ (by decide +kernel)) ggX5_depth_X5_isTitle
set_option maxRecDepth 20000 in
theorem ggX5_depth_X5_isFine : GoodIn wsX5_depth wsX5_isFine := goodIn_r _ [15, 16, 17, 18, 19, 20, 21, 22, 23, 24, 25, 26, 27, 28, 29, 30, 31, 32, 33, 34, 35, 36, 37, 38, 39, 40, 41, 42, 43, 44, 45, 46, 47, 48, 49] (by decide +kernel) (by decide +kernel)
set_option maxRecDepth 20000 in
theorem gX5_depth_X5_isFine : GoodIn wsX5_depth (wsV RX5 99 RX5 yX5_isFine wsX5_isFine) := goodIn_app (goodIn_of _ (by decide +kernel)) ggX5_depth_X5_isFine
theorem dX5_depth_0 : decode cX5_depth 0 = .ok (.aload_n 0, 1) := by decide +kernel
theorem dX5_depth_1 : decode cX5_depth 1 = .ok (.aload_n 0, 1) := by decide +kernel
theorem dX5_depth_2 : decode cX5_depth 2 = .ok (.iload_n 1, 1) := by decide +kernel
theorem dX5_depth_3 : decode cX5_depth 3 = .ok (.invokevirtual 109, 3) := by decide +kernel
theorem dX5_depth_6 : decode cX5_depth 6 = .ok (.ifCond .eq 7, 3) := by decide +kernel
theorem dX5_depth_9 : decode cX5_depth 9 = .ok (.iconst 0, 1) := by decide +kernel
theorem dX5_depth_10 : decode cX5_depth 10 = .ok (.goto 4, 3) := by decide +kernel
theorem dX5_depth_13 : decode cX5_depth 13 = .ok (.iconst 1, 1) := by decide +kernel
theorem dX5_depth_14 : decode cX5_depth 14 = .ok (.invokevirtual 99, 3) := by decide +kernel
theorem dX5_depth_17 : decode cX5_depth 17 = .ok (.ifCond .ne 5, 3) := by decide +kernel
theorem dX5_depth_20 : decode cX5_depth 20 = .ok (.iconst 0, 1) := by decide +kernel
theorem dX5_depth_21 : decode cX5_depth 21 = .ok (.ireturn, 1) := by decide +kernel
theorem dX5_depth_22 : decode cX5_depth 22 = .ok (.iconst 0, 1) := by decide +kernel
theorem dX5_depth_23 : decode cX5_depth 23 = .ok (.istore_n 2, 1) := by decide +kernel
theorem dX5_depth_24 : decode cX5_depth 24 = .ok (.iconst 0, 1) := by decide +kernel
theorem dX5_depth_25 : decode cX5_depth 25 = .ok (.istore_n 3, 1) := by decide +kernel
theorem dX5_depth_26 : decode cX5_depth 26 = .ok (.iload_n 3, 1) := by decide +kernel
theorem dX5_depth_27 : decode cX5_depth 27 = .ok (.aload_n 0, 1) := by decide +kernel
theorem dX5_depth_28 : decode cX5_depth 28 = .ok (.getfield 76, 3) := by decide +kernel
theorem dX5_depth_31 : decode cX5_depth 31 = .ok (.iload_n 1, 1) := by decide +kernel
theorem dX5_depth_32 : decode cX5_depth 32 = .ok (.iaload, 1) := by decide +kernel
theorem dX5_depth_33 : decode cX5_depth 33 = .ok (.if_icmp .ge 54, 3) := by decide +kernel
theorem dX5_depth_36 : decode cX5_depth 36 = .ok (.iconst 0, 1) := by decide +kernel
theorem dX5_depth_37 : decode cX5_depth 37 = .ok (.istore 4, 2) := by decide +kernel
theorem dX5_depth_39 : decode cX5_depth 39 = .ok (.iload_n 3, 1) := by decide +kernel
theorem dX5_depth_40 : decode cX5_depth 40 = .ok (.istore 5, 2) := by decide +kernel
theorem dX5_depth_42 : decode cX5_depth 42 = .ok (.iload 5, 2) := by decide +kernel
theorem dX5_depth_44 : decode cX5_depth 44 = .ok (.iconst (-1), 1) := by decide +kernel
theorem dX5_depth_45 : decode cX5_depth 45 = .ok (.if_icmp .eq 23, 3) := by decide +kernel
theorem dX5_depth_48 : decode cX5_depth 48 = .ok (.iinc 4 1, 3) := by decide +kernel
theorem dX5_depth_51 : decode cX5_depth 51 = .ok (.aload_n 0, 1) := by decide +kernel
theorem dX5_depth_52 : decode cX5_depth 52 = .ok (.getfield 64, 3) := by decide +kernel
theorem dX5_depth_55 : decode cX5_depth 55 = .ok (.bipush 12, 2) := by decide +kernel
theorem dX5_depth_57 : decode cX5_depth 57 = .ok (.iload_n 1, 1) := by decide +kernel
theorem dX5_depth_58 : decode cX5_depth 58 = .ok (.imul, 1) := by decide +kernel
theorem dX5_depth_59 : decode cX5_depth 59 = .ok (.iload 5, 2) := by decide +kernel
theorem dX5_depth_61 : decode cX5_depth 61 = .ok (.iadd, 1) := by decide +kernel
theorem dX5_depth_62 : decode cX5_depth 62 = .ok (.iaload, 1) := by decide +kernel
theorem dX5_depth_63 : decode cX5_depth 63 = .ok (.istore 5, 2) := by decide +kernel
theorem dX5_depth_65 : decode cX5_depth 65 = .ok (.goto (-23), 3) := by decide +kernel
theorem dX5_depth_68 : decode cX5_depth 68 = .ok (.iload 4, 2) := by decide +kernel
theorem dX5_depth_70 : decode cX5_depth 70 = .ok (.iload_n 2, 1) := by decide +kernel
theorem dX5_depth_71 : decode cX5_depth 71 = .ok (.if_icmp .le 8, 3) := by decide +kernel
theorem dX5_depth_74 : decode cX5_depth 74 = .ok (.iload 4, 2) := by decide +kernel
theorem dX5_depth_76 : decode cX5_depth 76 = .ok (.goto 4, 3) := by decide +kernel
theorem dX5_depth_79 : decode cX5_depth 79 = .ok (.iload_n 2, 1) := by decide +kernel
theorem dX5_depth_80 : decode cX5_depth 80 = .ok (.istore_n 2, 1) := by decide +kernel
theorem dX5_depth_81 : decode cX5_depth 81 = .ok (.iinc 3 1, 3) := by decide +kernel
theorem dX5_depth_84 : decode cX5_depth 84 = .ok (.goto (-58), 3) := by decide +kernel
theorem dX5_depth_87 : decode cX5_depth 87 = .ok (.iload_n 2, 1) := by decide +kernel
theorem dX5_depth_88 : decode cX5_depth 88 = .ok (.ireturn, 1) := by decide +kernel
theorem dJ6_bitCount_0f7a4_0 : decode cJ6_bitCount_0f7a4 0 = .ok (.iload_n 0, 1) := by decide +kernel
theorem dJ6_bitCount_0f7a4_1 : decode cJ6_bitCount_0f7a4 1 = .ok (.iload_n 0, 1) := by decide +kernel
theorem dJ6_bitCount_0f7a4_2 : decode cJ6_bitCount_0f7a4 2 = .ok (.iconst 1, 1) := by decide +kernel
theorem dJ6_bitCount_0f7a4_3 : decode cJ6_bitCount_0f7a4 3 = .ok (.iushr, 1) := by decide +kernel
theorem dJ6_bitCount_0f7a4_4 : decode cJ6_bitCount_0f7a4 4 = .ok (.ldc_w 265, 3) := by decide +kernel
theorem dJ6_bitCount_0f7a4_7 : decode cJ6_bitCount_0f7a4 7 = .ok (.iand, 1) := by decide +kernel
theorem dJ6_bitCount_0f7a4_8 : decode cJ6_bitCount_0f7a4 8 = .ok (.isub, 1) := by decide +kernel
theorem dJ6_bitCount_0f7a4_9 : decode cJ6_bitCount_0f7a4 9 = .ok (.istore_n 0, 1) := by decide +kernel
theorem dJ6_bitCount_0f7a4_10 : decode cJ6_bitCount_0f7a4 10 = .ok (.iload_n 0, 1) := by decide +kernel
theorem dJ6_bitCount_0f7a4_11 : decode cJ6_bitCount_0f7a4 11 = .ok (.ldc_w 266, 3) := by decide +kernel
theorem dJ6_bitCount_0f7a4_14 : decode cJ6_bitCount_0f7a4 14 = .ok (.iand, 1) := by decide +kernel
theorem dJ6_bitCount_0f7a4_15 : decode cJ6_bitCount_0f7a4 15 = .ok (.iload_n 0, 1) := by decide +kernel
theorem dJ6_bitCount_0f7a4_16 : decode cJ6_bitCount_0f7a4 16 = .ok (.iconst 2, 1) := by decide +kernel
theorem dJ6_bitCount_0f7a4_17 : decode cJ6_bitCount_0f7a4 17 = .ok (.iushr, 1) := by decide +kernel
theorem dJ6_bitCount_0f7a4_18 : decode cJ6_bitCount_0f7a4 18 = .ok (.ldc_w 266, 3) := by decide +kernel
theorem dJ6_bitCount_0f7a4_21 : decode cJ6_bitCount_0f7a4 21 = .ok (.iand, 1) := by decide +kernel
theorem dJ6_bitCount_0f7a4_22 : decode cJ6_bitCount_0f7a4 22 = .ok (.iadd, 1) := by decide +kernel
theorem dJ6_bitCount_0f7a4_23 : decode cJ6_bitCount_0f7a4 23 = .ok (.istore_n 0, 1) := by decide +kernel
theorem dJ6_bitCount_0f7a4_24 : decode cJ6_bitCount_0f7a4 24 = .ok (.iload_n 0, 1) := by decide +kernel
theorem dJ6_bitCount_0f7a4_25 : decode cJ6_bitCount_0f7a4 25 = .ok (.iload_n 0, 1) := by decide +kernel
theorem dJ6_bitCount_0f7a4_26 : decode cJ6_bitCount_0f7a4 26 = .ok (.iconst 4, 1) := by decide +kernel
theorem dJ6_bitCount_0f7a4_27 : decode cJ6_bitCount_0f7a4 27 = .ok (.iushr, 1) := by decide +kernel
theorem dJ6_bitCount_0f7a4_28 : decode cJ6_bitCount_0f7a4 28 = .ok (.iadd, 1) := by decide +kernel
theorem dJ6_bitCount_0f7a4_29 : decode cJ6_bitCount_0f7a4 29 = .ok (.ldc_w 267, 3) := by decide +kernel
theorem dJ6_bitCount_0f7a4_32 : decode cJ6_bitCount_0f7a4 32 = .ok (.iand, 1) := by decide +kernel
theorem dJ6_bitCount_0f7a4_33 : decode cJ6_bitCount_0f7a4 33 = .ok (.istore_n 0, 1) := by decide +kernel
theorem dJ6_bitCount_0f7a4_34 : decode cJ6_bitCount_0f7a4 34 = .ok (.iload_n 0, 1) := by decide +kernel
theorem dJ6_bitCount_0f7a4_35 : decode cJ6_bitCount_0f7a4 35 = .ok (.iload_n 0, 1) := by decide +kernel
theorem dJ6_bitCount_0f7a4_36 : decode cJ6_bitCount_0f7a4 36 = .ok (.bipush 8, 2) := by decide +kernel
theorem dJ6_bitCount_0f7a4_38 : decode cJ6_bitCount_0f7a4 38 = .ok (.iushr, 1) := by decide +kernel
theorem dJ6_bitCount_0f7a4_39 : decode cJ6_bitCount_0f7a4 39 = .ok (.iadd, 1) := by decide +kernel
theorem dJ6_bitCount_0f7a4_40 : decode cJ6_bitCount_0f7a4 40 = .ok (.istore_n 0, 1) := by decide +kernel
theorem dJ6_bitCount_0f7a4_41 : decode cJ6_bitCount_0f7a4 41 = .ok (.iload_n 0, 1) := by decide +kernel
theorem dJ6_bitCount_0f7a4_42 : decode cJ6_bitCount_0f7a4 42 = .ok (.iload_n 0, 1) := by decide +kernel
theorem dJ6_bitCount_0f7a4_43 : decode cJ6_bitCount_0f7a4 43 = .ok (.bipush 16, 2) := by decide +kernel
theorem dJ6_bitCount_0f7a4_45 : decode cJ6_bitCount_0f7a4 45 = .ok (.iushr, 1) := by decide +kernel
theorem dJ6_bitCount_0f7a4_46 : decode cJ6_bitCount_0f7a4 46 = .ok (.iadd, 1) := by decide +kernel
theorem dJ6_bitCount_0f7a4_47 : decode cJ6_bitCount_0f7a4 47 = .ok (.istore_n 0, 1) := by decide +kernel
theorem dJ6_bitCount_0f7a4_48 : decode cJ6_bitCount_0f7a4 48 = .ok (.iload_n 0, 1) := by decide +kernel
theorem dJ6_bitCount_0f7a4_49 : decode cJ6_bitCount_0f7a4 49 = .ok (.bipush 63, 2) := by decide +kernel
theorem dJ6_bitCount_0f7a4_51 : decode cJ6_bitCount_0f7a4 51 = .ok (.iand, 1) := by decide +kernel
theorem dJ6_bitCount_0f7a4_52 : decode cJ6_bitCount_0f7a4 52 = .ok (.ireturn, 1) := by decide +kernel
theorem dJ9_max_7cf53_0 : decode cJ9_max_7cf53 0 = .ok (.iload_n 0, 1) := by decide +kernel
theorem dJ9_max_7cf53_1 : decode cJ9_max_7cf53 1 = .ok (.iload_n 1, 1) := by decide +kernel
theorem dJ9_max_7cf53_2 : decode cJ9_max_7cf53 2 = .ok (.if_icmp .lt 7, 3) := by decide +kernel
theorem dJ9_max_7cf53_5 : decode cJ9_max_7cf53 5 = .ok (.iload_n 0, 1) := by decide +kernel
theorem dJ9_max_7cf53_6 : decode cJ9_max_7cf53 6 = .ok (.goto 4, 3) := by decide +kernel
theorem dJ9_max_7cf53_9 : decode cJ9_max_7cf53 9 = .ok (.iload_n 1, 1) := by decide +kernel
theorem dJ9_max_7cf53_10 : decode cJ9_max_7cf53 10 = .ok (.ireturn, 1) := by decide +kernel
theorem dJ9_min_7cf53_0 : decode cJ9_min_7cf53 0 = .ok (.iload_n 0, 1) := by decide +kernel
theorem dJ9_min_7cf53_1 : decode cJ9_min_7cf53 1 = .ok (.iload_n 1, 1) := by decide +kernel
theorem dJ9_min_7cf53_2 : decode cJ9_min_7cf53 2 = .ok (.if_icmp .gt 7, 3) := by decide +kernel
theorem dJ9_min_7cf53_5 : decode cJ9_min_7cf53 5 = .ok (.iload_n 0, 1) := by decide +kernel
theorem dJ9_min_7cf53_6 : decode cJ9_min_7cf53 6 = .ok (.goto 4, 3) := by decide +kernel
theorem dJ9_min_7cf53_9 : decode cJ9_min_7cf53 9 = .ok (.iload_n 1, 1) := by decide +kernel
theorem dJ9_min_7cf53_10 : decode cJ9_min_7cf53 10 = .ok (.ireturn, 1) := by decide +kernel
