theorem dX4_isOffered_15 : decode cX4_isOffered 15 = .ok (.iload_n 1, 1) := by decide +kernel
theorem dX4_isOffered_16 : decode cX4_isOffered 16 = .ok (.invokevirtual 83, 3) := by decide +kernel
theorem dX4_isOffered_19 : decode cX4_isOffered 19 = .ok (.iconst (-1), 1) := by decide +kernel
theorem dX4_isOffered_20 : decode cX4_isOffered 20 = .ok (.if_icmp .ne 49, 3) := by decide +kernel
theorem dX4_isOffered_23 : decode cX4_isOffered 23 = .ok (.aload_n 0, 1) := by decide +kernel
theorem dX4_isOffered_24 : decode cX4_isOffered 24 = .ok (.getfield 19, 3) := by decide +kernel
theorem dX4_isOffered_27 : decode cX4_isOffered 27 = .ok (.iload_n 2, 1) := by decide +kernel
theorem dX4_isOffered_28 : decode cX4_isOffered 28 = .ok (.aload_n 0, 1) := by decide +kernel
theorem dX4_isOffered_29 : decode cX4_isOffered 29 = .ok (.getfield 10, 3) := by decide +kernel
theorem dX4_isOffered_32 : decode cX4_isOffered 32 = .ok (.getfield 169, 3) := by decide +kernel
theorem dX4_isOffered_35 : decode cX4_isOffered 35 = .ok (.iload_n 1, 1) := by decide +kernel
theorem dX4_isOffered_36 : decode cX4_isOffered 36 = .ok (.invokevirtual 173, 3) := by decide +kernel
theorem dX4_isOffered_39 : decode cX4_isOffered 39 = .ok (.aload_n 0, 1) := by decide +kernel
theorem dX4_isOffered_40 : decode cX4_isOffered 40 = .ok (.getfield 10, 3) := by decide +kernel
theorem dX4_isOffered_43 : decode cX4_isOffered 43 = .ok (.iload_n 1, 1) := by decide +kernel
theorem dX4_isOffered_44 : decode cX4_isOffered 44 = .ok (.invokevirtual 112, 3) := by decide +kernel
theorem dX4_isOffered_47 : decode cX4_isOffered 47 = .ok (.invokevirtual 178, 3) := by decide +kernel
theorem dX4_isOffered_50 : decode cX4_isOffered 50 = .ok (.ifCond .eq 19, 3) := by decide +kernel
theorem dX4_isOffered_53 : decode cX4_isOffered 53 = .ok (.aload_n 0, 1) := by decide +kernel
theorem dX4_isOffered_54 : decode cX4_isOffered 54 = .ok (.getfield 19, 3) := by decide +kernel
theorem dX4_isOffered_57 : decode cX4_isOffered 57 = .ok (.iload_n 2, 1) := by decide +kernel
theorem dX4_isOffered_58 : decode cX4_isOffered 58 = .ok (.invokevirtual 130, 3) := by decide +kernel
theorem dX4_isOffered_61 : decode cX4_isOffered 61 = .ok (.iconst (-1), 1) := by decide +kernel
theorem dX4_isOffered_62 : decode cX4_isOffered 62 = .ok (.if_icmp .eq 7, 3) := by decide +kernel
theorem dX4_isOffered_65 : decode cX4_isOffered 65 = .ok (.iconst 1, 1) := by decide +kernel
theorem dX4_isOffered_66 : decode cX4_isOffered 66 = .ok (.goto 4, 3) := by decide +kernel
theorem dX4_isOffered_69 : decode cX4_isOffered 69 = .ok (.iconst 0, 1) := by decide +kernel
theorem dX4_isOffered_70 : decode cX4_isOffered 70 = .ok (.ireturn, 1) := by decide +kernel
set_option maxRecDepth 20000 in
theorem ggX4_offeredTitles_X4_isOffered : GoodIn wsX4_offeredTitles wsX4_isOffered := goodIn_r _ [6, 7, 1, 8, 9, 10, 11, 12, 13, 14, 15, 16, 17, 18, 19, 20, 21, 22, 23, 24, 25, 26, 27, 28, 29, 30, 31, 32, 33, 34, 35, 36, 37, 38, 39, 40, 41, 42, 43, 44, 45, 46, 47, 48, 49, 50, 51, 52, 53, 54, 55, 56, 57, 58, 59, 60, 61, 62, 63, 64, 65, 66, 67, 68, 69, 70, 71, 72, 73, 74, 75, 76, 77, 78, 79, 80, 81, 82, 83, 84, 85, 86, 98, 99, 100, 101, 102, 103, 104, 105, 106, 107, 87, 88, 89, 90, 91, 92, 93, 94, 95, 96, 97] (by decide +kernel) (by decide +kernel)
set_option maxRecDepth 20000 in
theorem gX4_offeredTitles_X4_isOffered : GoodIn wsX4_offeredTitles (wsV RX4 126 RX4 yX4_isOffered wsX4_isOffered) := goodIn_app (goodIn_of _ (by decide +kernel)) ggX4_offeredTitles_X4_isOffered
theorem dX4_offeredTitles_0 : decode cX4_offeredTitles 0 = .ok (.iconst 0, 1) := by decide +kernel
theorem dX4_offeredTitles_1 : decode cX4_offeredTitles 1 = .ok (.istore_n 2, 1) := by decide +kernel
theorem dX4_offeredTitles_2 : decode cX4_offeredTitles 2 = .ok (.iconst 0, 1) := by decide +kernel
theorem dX4_offeredTitles_3 : decode cX4_offeredTitles 3 = .ok (.istore_n 3, 1) := by decide +kernel
theorem dX4_offeredTitles_4 : decode cX4_offeredTitles 4 = .ok (.iload_n 3, 1) := by decide +kernel
theorem dX4_offeredTitles_5 : decode cX4_offeredTitles 5 = .ok (.aload_n 0, 1) := by decide +kernel
theorem dX4_offeredTitles_6 : decode cX4_offeredTitles 6 = .ok (.getfield 19, 3) := by decide +kernel
theorem dX4_offeredTitles_9 : decode cX4_offeredTitles 9 = .ok (.getfield 49, 3) := by decide +kernel
theorem dX4_offeredTitles_12 : decode cX4_offeredTitles 12 = .ok (.if_icmp .ge 24, 3) := by decide +kernel
theorem dX4_offeredTitles_15 : decode cX4_offeredTitles 15 = .ok (.aload_n 0, 1) := by decide +kernel
theorem dX4_offeredTitles_16 : decode cX4_offeredTitles 16 = .ok (.iload_n 1, 1) := by decide +kernel
theorem dX4_offeredTitles_17 : decode cX4_offeredTitles 17 = .ok (.iload_n 3, 1) := by decide +kernel
theorem dX4_offeredTitles_18 : decode cX4_offeredTitles 18 = .ok (.invokevirtual 126, 3) := by decide +kernel
theorem dX4_offeredTitles_21 : decode cX4_offeredTitles 21 = .ok (.ifCond .eq 9, 3) := by decide +kernel
theorem dX4_offeredTitles_24 : decode cX4_offeredTitles 24 = .ok (.iload_n 2, 1) := by decide +kernel
theorem dX4_offeredTitles_25 : decode cX4_offeredTitles 25 = .ok (.iconst 1, 1) := by decide +kernel
theorem dX4_offeredTitles_26 : decode cX4_offeredTitles 26 = .ok (.iload_n 3, 1) := by decide +kernel
theorem dX4_offeredTitles_27 : decode cX4_offeredTitles 27 = .ok (.ishl, 1) := by decide +kernel
theorem dX4_offeredTitles_28 : decode cX4_offeredTitles 28 = .ok (.ior, 1) := by decide +kernel
theorem dX4_offeredTitles_29 : decode cX4_offeredTitles 29 = .ok (.istore_n 2, 1) := by decide +kernel
theorem dX4_offeredTitles_30 : decode cX4_offeredTitles 30 = .ok (.iinc 3 1, 3) := by decide +kernel
theorem dX4_offeredTitles_33 : decode cX4_offeredTitles 33 = .ok (.goto (-29), 3) := by decide +kernel
theorem dX4_offeredTitles_36 : decode cX4_offeredTitles 36 = .ok (.iload_n 2, 1) := by decide +kernel
theorem dX4_offeredTitles_37 : decode cX4_offeredTitles 37 = .ok (.ireturn, 1) := by decide +kernel
set_option maxRecDepth 20000 in
theorem ggX4_playedBy_X3_heldBy : GoodIn wsX4_playedBy wsX3_heldBy := goodIn_r _ [6, 7, 8, 9, 10, 11, 12, 13, 14, 19, 20, 21, 22, 23, 24, 25, 26, 27, 28, 29, 30] (by decide +kernel) (by decide +kernel)
set_option maxRecDepth 20000 in
theorem gX4_playedBy_X3_heldBy : GoodIn wsX4_playedBy (wsV RX4 83 RX3 yX3_heldBy wsX3_heldBy) := goodIn_app (goodIn_of _ (by decide +kernel)) ggX4_playedBy_X3_heldBy
set_option maxRecDepth 20000 in
theorem ggX4_playedBy_X2_at : GoodIn wsX4_playedBy wsX2_at := goodIn_r _ [13, 14, 30] (by decide +kernel) (by decide +kernel)
set_option maxRecDepth 20000 in
theorem gX4_playedBy_X2_at : GoodIn wsX4_playedBy (wsV RX4 173 RX2 yX2_at wsX2_at) := goodIn_app (goodIn_of _ (by decide +kernel)) ggX4_playedBy_X2_at
theorem dX4_playedBy_0 : decode cX4_playedBy 0 = .ok (.aload_n 0, 1) := by decide +kernel
theorem dX4_playedBy_1 : decode cX4_playedBy 1 = .ok (.getfield 19, 3) := by decide +kernel
theorem dX4_playedBy_4 : decode cX4_playedBy 4 = .ok (.getfield 182, 3) := by decide +kernel
theorem dX4_playedBy_7 : decode cX4_playedBy 7 = .ok (.aload_n 0, 1) := by decide +kernel
theorem dX4_playedBy_8 : decode cX4_playedBy 8 = .ok (.getfield 19, 3) := by decide +kernel
theorem dX4_playedBy_11 : decode cX4_playedBy 11 = .ok (.iload_n 1, 1) := by decide +kernel
theorem dX4_playedBy_12 : decode cX4_playedBy 12 = .ok (.invokevirtual 83, 3) := by decide +kernel
theorem dX4_playedBy_15 : decode cX4_playedBy 15 = .ok (.invokevirtual 173, 3) := by decide +kernel
theorem dX4_playedBy_18 : decode cX4_playedBy 18 = .ok (.ireturn, 1) := by decide +kernel
set_option maxRecDepth 20000 in
theorem ggX4_holdingFor_X3_heldBy : GoodIn wsX4_holdingFor wsX3_heldBy := goodIn_r _ [8, 9, 10, 11, 12, 13, 14, 15, 16, 65, 66, 67, 68, 69, 70, 71, 72, 73, 74, 75, 76] (by decide +kernel) (by decide +kernel)
set_option maxRecDepth 20000 in
theorem gX4_holdingFor_X3_heldBy : GoodIn wsX4_holdingFor (wsV RX4 83 RX3 yX3_heldBy wsX3_heldBy) := goodIn_app (goodIn_of _ (by decide +kernel)) ggX4_holdingFor_X3_heldBy
set_option maxRecDepth 20000 in
theorem ggX4_holdingFor_X3_piecesLentTo : GoodIn wsX4_holdingFor wsX3_piecesLentTo := goodIn_r _ [20, 9, 21, 22, 11, 12, 13, 14, 15, 16, 65, 66, 67, 68, 69, 70, 71, 72, 73, 74, 75, 76] (by decide +kernel) (by decide +kernel)
set_option maxRecDepth 20000 in
theorem gX4_holdingFor_X3_piecesLentTo : GoodIn wsX4_holdingFor (wsV RX4 185 RX3 yX3_piecesLentTo wsX3_piecesLentTo) := goodIn_app (goodIn_of _ (by decide +kernel)) ggX4_holdingFor_X3_piecesLentTo
set_option maxRecDepth 20000 in
theorem ggX4_holdingFor_X4_playedBy : GoodIn wsX4_holdingFor wsX4_playedBy := goodIn_r _ [27, 1, 4, 5, 6, 7, 8, 9, 10, 11, 12, 13, 14, 15, 16, 28, 53, 54, 55, 65, 66, 67, 68, 69, 70, 71, 72, 73, 74, 75, 76] (by decide +kernel) (by decide +kernel)
set_option maxRecDepth 20000 in
theorem gX4_holdingFor_X4_playedBy : GoodIn wsX4_holdingFor (wsV RX4 154 RX4 yX4_playedBy wsX4_playedBy) := goodIn_app (goodIn_of _ (by decide +kernel)) ggX4_holdingFor_X4_playedBy
set_option maxRecDepth 20000 in
theorem ggX4_holdingFor_X2_at : GoodIn wsX4_holdingFor wsX2_at := goodIn_r _ [15, 16, 76] (by decide +kernel) (by decide +kernel)
set_option maxRecDepth 20000 in
theorem gX4_holdingFor_X2_at : GoodIn wsX4_holdingFor (wsV RX4 173 RX2 yX2_at wsX2_at) := goodIn_app (goodIn_of _ (by decide +kernel)) ggX4_holdingFor_X2_at
set_option maxRecDepth 20000 in
theorem ggX4_holdingFor_X0_minutesLeft : GoodIn wsX4_holdingFor wsX0_minutesLeft := goodIn_r _ [33, 34, 35, 36, 37, 38, 39, 40, 12, 13, 14, 15, 16, 56, 57, 58, 59, 60, 61, 62, 63, 64, 76] (by decide +kernel) (by decide +kernel)
set_option maxRecDepth 20000 in
theorem gX4_holdingFor_X0_minutesLeft : GoodIn wsX4_holdingFor (wsV RX4 112 RX0 yX0_minutesLeft wsX0_minutesLeft) := goodIn_app (goodIn_of _ (by decide +kernel)) ggX4_holdingFor_X0_minutesLeft
set_option maxRecDepth 20000 in
theorem ggX4_holdingFor_X1_holding : GoodIn wsX4_holdingFor wsX1_holding := goodIn_r _ [45, 46, 47, 48, 49, 12, 13, 14, 15, 16, 50, 51, 44, 52, 77, 78, 79, 80, 81, 76] (by decide +kernel) (by decide +kernel)
set_option maxRecDepth 20000 in
theorem gX4_holdingFor_X1_holding : GoodIn wsX4_holdingFor (wsV RX4 188 RX1 yX1_holding wsX1_holding) := goodIn_app (goodIn_of _ (by decide +kernel)) ggX4_holdingFor_X1_holding
theorem dX4_holdingFor_0 : decode cX4_holdingFor 0 = .ok (.aload_n 0, 1) := by decide +kernel
theorem dX4_holdingFor_1 : decode cX4_holdingFor 1 = .ok (.getfield 19, 3) := by decide +kernel
theorem dX4_holdingFor_4 : decode cX4_holdingFor 4 = .ok (.aload_n 0, 1) := by decide +kernel
theorem dX4_holdingFor_5 : decode cX4_holdingFor 5 = .ok (.getfield 19, 3) := by decide +kernel
theorem dX4_holdingFor_8 : decode cX4_holdingFor 8 = .ok (.iload_n 1, 1) := by decide +kernel
theorem dX4_holdingFor_9 : decode cX4_holdingFor 9 = .ok (.invokevirtual 83, 3) := by decide +kernel
theorem dX4_holdingFor_12 : decode cX4_holdingFor 12 = .ok (.invokevirtual 185, 3) := by decide +kernel
theorem dX4_holdingFor_15 : decode cX4_holdingFor 15 = .ok (.istore_n 2, 1) := by decide +kernel
theorem dX4_holdingFor_16 : decode cX4_holdingFor 16 = .ok (.aload_n 0, 1) := by decide +kernel
theorem dX4_holdingFor_17 : decode cX4_holdingFor 17 = .ok (.getfield 26, 3) := by decide +kernel
theorem dX4_holdingFor_20 : decode cX4_holdingFor 20 = .ok (.aload_n 0, 1) := by decide +kernel
theorem dX4_holdingFor_21 : decode cX4_holdingFor 21 = .ok (.iload_n 1, 1) := by decide +kernel
theorem dX4_holdingFor_22 : decode cX4_holdingFor 22 = .ok (.invokevirtual 154, 3) := by decide +kernel
theorem dX4_holdingFor_25 : decode cX4_holdingFor 25 = .ok (.aload_n 0, 1) := by decide +kernel
theorem dX4_holdingFor_26 : decode cX4_holdingFor 26 = .ok (.getfield 10, 3) := by decide +kernel
theorem dX4_holdingFor_29 : decode cX4_holdingFor 29 = .ok (.getfield 169, 3) := by decide +kernel
theorem dX4_holdingFor_32 : decode cX4_holdingFor 32 = .ok (.iload_n 1, 1) := by decide +kernel
theorem dX4_holdingFor_33 : decode cX4_holdingFor 33 = .ok (.invokevirtual 173, 3) := by decide +kernel
theorem dX4_holdingFor_36 : decode cX4_holdingFor 36 = .ok (.aload_n 0, 1) := by decide +kernel
theorem dX4_holdingFor_37 : decode cX4_holdingFor 37 = .ok (.getfield 10, 3) := by decide +kernel
theorem dX4_holdingFor_40 : decode cX4_holdingFor 40 = .ok (.iload_n 1, 1) := by decide +kernel
theorem dX4_holdingFor_41 : decode cX4_holdingFor 41 = .ok (.invokevirtual 112, 3) := by decide +kernel
theorem dX4_holdingFor_44 : decode cX4_holdingFor 44 = .ok (.iload_n 2, 1) := by decide +kernel
theorem dX4_holdingFor_45 : decode cX4_holdingFor 45 = .ok (.invokevirtual 188, 3) := by decide +kernel
theorem dX4_holdingFor_48 : decode cX4_holdingFor 48 = .ok (.ireturn, 1) := by decide +kernel
theorem dX4_checkIndex_0 : decode cX4_checkIndex 0 = .ok (.iload_n 0, 1) := by decide +kernel
theorem dX4_checkIndex_1 : decode cX4_checkIndex 1 = .ok (.ifCond .lt 8, 3) := by decide +kernel
theorem dX4_checkIndex_4 : decode cX4_checkIndex 4 = .ok (.iload_n 0, 1) := by decide +kernel
theorem dX4_checkIndex_5 : decode cX4_checkIndex 5 = .ok (.iload_n 1, 1) := by decide +kernel
theorem dX4_checkIndex_6 : decode cX4_checkIndex 6 = .ok (.if_icmp .lt 13, 3) := by decide +kernel
theorem dX4_checkIndex_9 : decode cX4_checkIndex 9 = .ok (.new 192, 3) := by decide +kernel
theorem dX4_checkIndex_12 : decode cX4_checkIndex 12 = .ok (.dup, 1) := by decide +kernel
theorem dX4_checkIndex_13 : decode cX4_checkIndex 13 = .ok (.ldc 194, 2) := by decide +kernel
theorem dX4_checkIndex_15 : decode cX4_checkIndex 15 = .ok (.invokespecial 196, 3) := by decide +kernel
theorem dX4_checkIndex_18 : decode cX4_checkIndex 18 = .ok (.athrow, 1) := by decide +kernel
theorem dX4_checkIndex_19 : decode cX4_checkIndex 19 = .ok (.return_, 1) := by decide +kernel
theorem dX4_checkRange_0 : decode cX4_checkRange 0 = .ok (.iload_n 0, 1) := by decide +kernel
theorem dX4_checkRange_1 : decode cX4_checkRange 1 = .ok (.iload_n 1, 1) := by decide +kernel
theorem dX4_checkRange_2 : decode cX4_checkRange 2 = .ok (.if_icmp .lt 8, 3) := by decide +kernel
theorem dX4_checkRange_5 : decode cX4_checkRange 5 = .ok (.iload_n 0, 1) := by decide +kernel
theorem dX4_checkRange_6 : decode cX4_checkRange 6 = .ok (.iload_n 2, 1) := by decide +kernel
theorem dX4_checkRange_7 : decode cX4_checkRange 7 = .ok (.if_icmp .le 13, 3) := by decide +kernel
theorem dX4_checkRange_10 : decode cX4_checkRange 10 = .ok (.new 199, 3) := by decide +kernel
theorem dX4_checkRange_13 : decode cX4_checkRange 13 = .ok (.dup, 1) := by decide +kernel
theorem dX4_checkRange_14 : decode cX4_checkRange 14 = .ok (.ldc 201, 2) := by decide +kernel
theorem dX4_checkRange_16 : decode cX4_checkRange 16 = .ok (.invokespecial 203, 3) := by decide +kernel
theorem dX4_checkRange_19 : decode cX4_checkRange 19 = .ok (.athrow, 1) := by decide +kernel
theorem dX4_checkRange_20 : decode cX4_checkRange 20 = .ok (.return_, 1) := by decide +kernel
theorem dX4_checkState_0 : decode cX4_checkState 0 = .ok (.iload_n 0, 1) := by decide +kernel
theorem dX4_checkState_1 : decode cX4_checkState 1 = .ok (.ifCond .ne 13, 3) := by decide +kernel
theorem dX4_checkState_4 : decode cX4_checkState 4 = .ok (.new 204, 3) := by decide +kernel
theorem dX4_checkState_7 : decode cX4_checkState 7 = .ok (.dup, 1) := by decide +kernel
theorem dX4_checkState_8 : decode cX4_checkState 8 = .ok (.ldc 206, 2) := by decide +kernel
theorem dX4_checkState_10 : decode cX4_checkState 10 = .ok (.invokespecial 208, 3) := by decide +kernel
theorem dX4_checkState_13 : decode cX4_checkState 13 = .ok (.athrow, 1) := by decide +kernel
theorem dX4_checkState_14 : decode cX4_checkState 14 = .ok (.return_, 1) := by decide +kernel
theorem dX4_contains_0 : decode cX4_contains 0 = .ok (.iload_n 0, 1) := by decide +kernel
theorem dX4_contains_1 : decode cX4_contains 1 = .ok (.iload_n 1, 1) := by decide +kernel
theorem dX4_contains_2 : decode cX4_contains 2 = .ok (.ishr, 1) := by decide +kernel
theorem dX4_contains_3 : decode cX4_contains 3 = .ok (.iconst 1, 1) := by decide +kernel
theorem dX4_contains_4 : decode cX4_contains 4 = .ok (.iand, 1) := by decide +kernel
theorem dX4_contains_5 : decode cX4_contains 5 = .ok (.ifCond .eq 7, 3) := by decide +kernel
theorem dX4_contains_8 : decode cX4_contains 8 = .ok (.iconst 1, 1) := by decide +kernel
theorem dX4_contains_9 : decode cX4_contains 9 = .ok (.goto 4, 3) := by decide +kernel
theorem dX4_contains_12 : decode cX4_contains 12 = .ok (.iconst 0, 1) := by decide +kernel
theorem dX4_contains_13 : decode cX4_contains 13 = .ok (.ireturn, 1) := by decide +kernel
theorem dX5_init_0 : decode cX5_init 0 = .ok (.aload_n 0, 1) := by decide +kernel
theorem dX5_init_1 : decode cX5_init 1 = .ok (.invokespecial 1, 3) := by decide +kernel
theorem dX5_init_4 : decode cX5_init 4 = .ok (.aload_n 0, 1) := by decide +kernel
theorem dX5_init_5 : decode cX5_init 5 = .ok (.bipush 10, 2) := by decide +kernel
theorem dX5_init_7 : decode cX5_init 7 = .ok (.newarray .int, 2) := by decide +kernel
theorem dX5_init_9 : decode cX5_init 9 = .ok (.putfield 7, 3) := by decide +kernel
theorem dX5_init_12 : decode cX5_init 12 = .ok (.aload_n 0, 1) := by decide +kernel
theorem dX5_init_13 : decode cX5_init 13 = .ok (.bipush 10, 2) := by decide +kernel
theorem dX5_init_15 : decode cX5_init 15 = .ok (.newarray .int, 2) := by decide +kernel
theorem dX5_init_17 : decode cX5_init 17 = .ok (.putfield 13, 3) := by decide +kernel
theorem dX5_init_20 : decode cX5_init 20 = .ok (.aload_n 0, 1) := by decide +kernel
theorem dX5_init_21 : decode cX5_init 21 = .ok (.bipush 30, 2) := by decide +kernel
theorem dX5_init_23 : decode cX5_init 23 = .ok (.newarray .int, 2) := by decide +kernel
theorem dX5_init_25 : decode cX5_init 25 = .ok (.putfield 16, 3) := by decide +kernel
theorem dX5_init_28 : decode cX5_init 28 = .ok (.aload_n 0, 1) := by decide +kernel
theorem dX5_init_29 : decode cX5_init 29 = .ok (.bipush 30, 2) := by decide +kernel
theorem dX5_init_31 : decode cX5_init 31 = .ok (.newarray .int, 2) := by decide +kernel
theorem dX5_init_33 : decode cX5_init 33 = .ok (.putfield 19, 3) := by decide +kernel
theorem dX5_init_36 : decode cX5_init 36 = .ok (.aload_n 0, 1) := by decide +kernel
theorem dX5_init_37 : decode cX5_init 37 = .ok (.bipush 30, 2) := by decide +kernel
theorem dX5_init_39 : decode cX5_init 39 = .ok (.newarray .int, 2) := by decide +kernel
theorem dX5_init_41 : decode cX5_init 41 = .ok (.putfield 22, 3) := by decide +kernel
theorem dX5_init_44 : decode cX5_init 44 = .ok (.aload_n 0, 1) := by decide +kernel
theorem dX5_init_45 : decode cX5_init 45 = .ok (.bipush 30, 2) := by decide +kernel
theorem dX5_init_47 : decode cX5_init 47 = .ok (.newarray .int, 2) := by decide +kernel
theorem dX5_init_49 : decode cX5_init 49 = .ok (.putfield 25, 3) := by decide +kernel
theorem dX5_init_52 : decode cX5_init 52 = .ok (.aload_n 0, 1) := by decide +kernel
theorem dX5_init_53 : decode cX5_init 53 = .ok (.bipush 30, 2) := by decide +kernel
theorem dX5_init_55 : decode cX5_init 55 = .ok (.newarray .int, 2) := by decide +kernel
theorem dX5_init_57 : decode cX5_init 57 = .ok (.putfield 28, 3) := by decide +kernel
theorem dX5_init_60 : decode cX5_init 60 = .ok (.aload_n 0, 1) := by decide +kernel
theorem dX5_init_61 : decode cX5_init 61 = .ok (.bipush 8, 2) := by decide +kernel
theorem dX5_init_63 : decode cX5_init 63 = .ok (.newarray .int, 2) := by decide +kernel
theorem dX5_init_65 : decode cX5_init 65 = .ok (.putfield 31, 3) := by decide +kernel
theorem dX5_init_68 : decode cX5_init 68 = .ok (.aload_n 0, 1) := by decide +kernel
theorem dX5_init_69 : decode cX5_init 69 = .ok (.bipush 8, 2) := by decide +kernel
theorem dX5_init_71 : decode cX5_init 71 = .ok (.newarray .int, 2) := by decide +kernel
theorem dX5_init_73 : decode cX5_init 73 = .ok (.putfield 34, 3) := by decide +kernel
theorem dX5_init_76 : decode cX5_init 76 = .ok (.aload_n 0, 1) := by decide +kernel
theorem dX5_init_77 : decode cX5_init 77 = .ok (.bipush 8, 2) := by decide +kernel
theorem dX5_init_79 : decode cX5_init 79 = .ok (.newarray .int, 2) := by decide +kernel
theorem dX5_init_81 : decode cX5_init 81 = .ok (.putfield 37, 3) := by decide +kernel
theorem dX5_init_84 : decode cX5_init 84 = .ok (.aload_n 0, 1) := by decide +kernel
theorem dX5_init_85 : decode cX5_init 85 = .ok (.bipush 32, 2) := by decide +kernel
theorem dX5_init_87 : decode cX5_init 87 = .ok (.newarray .int, 2) := by decide +kernel
theorem dX5_init_89 : decode cX5_init 89 = .ok (.putfield 40, 3) := by decide +kernel
theorem dX5_init_92 : decode cX5_init 92 = .ok (.aload_n 0, 1) := by decide +kernel
theorem dX5_init_93 : decode cX5_init 93 = .ok (.bipush 16, 2) := by decide +kernel
theorem dX5_init_95 : decode cX5_init 95 = .ok (.newarray .int, 2) := by decide +kernel
theorem dX5_init_97 : decode cX5_init 97 = .ok (.putfield 43, 3) := by decide +kernel
theorem dX5_init_100 : decode cX5_init 100 = .ok (.aload_n 0, 1) := by decide +kernel
theorem dX5_init_101 : decode cX5_init 101 = .ok (.bipush 16, 2) := by decide +kernel
theorem dX5_init_103 : decode cX5_init 103 = .ok (.newarray .int, 2) := by decide +kernel
theorem dX5_init_105 : decode cX5_init 105 = .ok (.putfield 46, 3) := by decide +kernel
theorem dX5_init_108 : decode cX5_init 108 = .ok (.aload_n 0, 1) := by decide +kernel
theorem dX5_init_109 : decode cX5_init 109 = .ok (.bipush 64, 2) := by decide +kernel
theorem dX5_init_111 : decode cX5_init 111 = .ok (.newarray .int, 2) := by decide +kernel
theorem dX5_init_113 : decode cX5_init 113 = .ok (.putfield 49, 3) := by decide +kernel
theorem dX5_init_116 : decode cX5_init 116 = .ok (.aload_n 0, 1) := by decide +kernel
theorem dX5_init_117 : decode cX5_init 117 = .ok (.bipush 64, 2) := by decide +kernel
theorem dX5_init_119 : decode cX5_init 119 = .ok (.newarray .int, 2) := by decide +kernel
theorem dX5_init_121 : decode cX5_init 121 = .ok (.putfield 52, 3) := by decide +kernel
theorem dX5_init_124 : decode cX5_init 124 = .ok (.aload_n 0, 1) := by decide +kernel
theorem dX5_init_125 : decode cX5_init 125 = .ok (.bipush 64, 2) := by decide +kernel
theorem dX5_init_127 : decode cX5_init 127 = .ok (.newarray .int, 2) := by decide +kernel
theorem dX5_init_129 : decode cX5_init 129 = .ok (.putfield 55, 3) := by decide +kernel
theorem dX5_init_132 : decode cX5_init 132 = .ok (.aload_n 0, 1) := by decide +kernel
theorem dX5_init_133 : decode cX5_init 133 = .ok (.bipush 64, 2) := by decide +kernel
theorem dX5_init_135 : decode cX5_init 135 = .ok (.newarray .int, 2) := by decide +kernel
theorem dX5_init_137 : decode cX5_init 137 = .ok (.putfield 58, 3) := by decide +kernel
theorem dX5_init_140 : decode cX5_init 140 = .ok (.aload_n 0, 1) := by decide +kernel
theorem dX5_init_141 : decode cX5_init 141 = .ok (.bipush 64, 2) := by decide +kernel
theorem dX5_init_143 : decode cX5_init 143 = .ok (.newarray .int, 2) := by decide +kernel
theorem dX5_init_145 : decode cX5_init 145 = .ok (.putfield 61, 3) := by decide +kernel
theorem dX5_init_148 : decode cX5_init 148 = .ok (.aload_n 0, 1) := by decide +kernel
theorem dX5_init_149 : decode cX5_init 149 = .ok (.bipush 96, 2) := by decide +kernel
theorem dX5_init_151 : decode cX5_init 151 = .ok (.newarray .int, 2) := by decide +kernel
theorem dX5_init_153 : decode cX5_init 153 = .ok (.putfield 64, 3) := by decide +kernel
theorem dX5_init_156 : decode cX5_init 156 = .ok (.aload_n 0, 1) := by decide +kernel
theorem dX5_init_157 : decode cX5_init 157 = .ok (.bipush 96, 2) := by decide +kernel
theorem dX5_init_159 : decode cX5_init 159 = .ok (.newarray .int, 2) := by decide +kernel
theorem dX5_init_161 : decode cX5_init 161 = .ok (.putfield 67, 3) := by decide +kernel
theorem dX5_init_164 : decode cX5_init 164 = .ok (.aload_n 0, 1) := by decide +kernel
theorem dX5_init_165 : decode cX5_init 165 = .ok (.bipush 96, 2) := by decide +kernel
theorem dX5_init_167 : decode cX5_init 167 = .ok (.newarray .int, 2) := by decide +kernel
theorem dX5_init_169 : decode cX5_init 169 = .ok (.putfield 70, 3) := by decide +kernel
theorem dX5_init_172 : decode cX5_init 172 = .ok (.aload_n 0, 1) := by decide +kernel
theorem dX5_init_173 : decode cX5_init 173 = .ok (.bipush 96, 2) := by decide +kernel
theorem dX5_init_175 : decode cX5_init 175 = .ok (.newarray .int, 2) := by decide +kernel
theorem dX5_init_177 : decode cX5_init 177 = .ok (.putfield 73, 3) := by decide +kernel
theorem dX5_init_180 : decode cX5_init 180 = .ok (.aload_n 0, 1) := by decide +kernel
theorem dX5_init_181 : decode cX5_init 181 = .ok (.bipush 8, 2) := by decide +kernel
theorem dX5_init_183 : decode cX5_init 183 = .ok (.newarray .int, 2) := by decide +kernel
theorem dX5_init_185 : decode cX5_init 185 = .ok (.putfield 76, 3) := by decide +kernel
theorem dX5_init_188 : decode cX5_init 188 = .ok (.return_, 1) := by decide +kernel
theorem dX5_thrown_0 : decode cX5_thrown 0 = .ok (.aload_n 0, 1) := by decide +kernel
theorem dX5_thrown_1 : decode cX5_thrown 1 = .ok (.getfield 79, 3) := by decide +kernel
theorem dX5_thrown_4 : decode cX5_thrown 4 = .ok (.ireturn, 1) := by decide +kernel
theorem dX5_isFine_0 : decode cX5_isFine 0 = .ok (.aload_n 0, 1) := by decide +kernel
theorem dX5_isFine_1 : decode cX5_isFine 1 = .ok (.iload_n 1, 1) := by decide +kernel
theorem dX5_isFine_2 : decode cX5_isFine 2 = .ok (.putfield 79, 3) := by decide +kernel
theorem dX5_isFine_5 : decode cX5_isFine 5 = .ok (.iload_n 1, 1) := by decide +kernel
theorem dX5_isFine_6 : decode cX5_isFine 6 = .ok (.ifCond .ne 7, 3) := by decide +kernel
theorem dX5_isFine_9 : decode cX5_isFine 9 = .ok (.iconst 1, 1) := by decide +kernel
theorem dX5_isFine_10 : decode cX5_isFine 10 = .ok (.goto 4, 3) := by decide +kernel
theorem dX5_isFine_13 : decode cX5_isFine 13 = .ok (.iconst 0, 1) := by decide +kernel
theorem dX5_isFine_14 : decode cX5_isFine 14 = .ok (.ireturn, 1) := by decide +kernel
theorem dX5_isIn_0 : decode cX5_isIn 0 = .ok (.iload_n 0, 1) := by decide +kernel
theorem dX5_isIn_1 : decode cX5_isIn 1 = .ok (.iload_n 1, 1) := by decide +kernel
theorem dX5_isIn_2 : decode cX5_isIn 2 = .ok (.if_icmp .lt 12, 3) := by decide +kernel
theorem dX5_isIn_5 : decode cX5_isIn 5 = .ok (.iload_n 0, 1) := by decide +kernel
theorem dX5_isIn_6 : decode cX5_isIn 6 = .ok (.iload_n 2, 1) := by decide +kernel
theorem dX5_isIn_7 : decode cX5_isIn 7 = .ok (.if_icmp .gt 7, 3) := by decide +kernel
theorem dX5_isIn_10 : decode cX5_isIn 10 = .ok (.iconst 1, 1) := by decide +kernel
theorem dX5_isIn_11 : decode cX5_isIn 11 = .ok (.goto 4, 3) := by decide +kernel
theorem dX5_isIn_14 : decode cX5_isIn 14 = .ok (.iconst 0, 1) := by decide +kernel
theorem dX5_isIn_15 : decode cX5_isIn 15 = .ok (.ireturn, 1) := by decide +kernel
set_option maxRecDepth 20000 in
theorem ggX5_isTitle_X5_isIn : GoodIn wsX5_isTitle wsX5_isIn := goodIn_r _ [5] (by decide +kernel) (by decide +kernel)
set_option maxRecDepth 20000 in
theorem gX5_isTitle_X5_isIn : GoodIn wsX5_isTitle (va_wsS RX5 86 yX5_isIn wsX5_isIn) := goodIn_app (goodIn_of _ (by decide +kernel)) ggX5_isTitle_X5_isIn
theorem dX5_isTitle_0 : decode cX5_isTitle 0 = .ok (.iload_n 1, 1) := by decide +kernel
theorem dX5_isTitle_1 : decode cX5_isTitle 1 = .ok (.iconst 0, 1) := by decide +kernel
theorem dX5_isTitle_2 : decode cX5_isTitle 2 = .ok (.aload_n 0, 1) := by decide +kernel
theorem dX5_isTitle_3 : decode cX5_isTitle 3 = .ok (.getfield 83, 3) := by decide +kernel
theorem dX5_isTitle_6 : decode cX5_isTitle 6 = .ok (.iconst 1, 1) := by decide +kernel
theorem dX5_isTitle_7 : decode cX5_isTitle 7 = .ok (.isub, 1) := by decide +kernel
theorem dX5_isTitle_8 : decode cX5_isTitle 8 = .ok (.invokestatic 86, 3) := by decide +kernel
theorem dX5_isTitle_11 : decode cX5_isTitle 11 = .ok (.ireturn, 1) := by decide +kernel
set_option maxRecDepth 20000 in
theorem ggX5_isCopy_X5_isIn : GoodIn wsX5_isCopy wsX5_isIn := goodIn_r _ [5] (by decide +kernel) (by decide +kernel)
set_option maxRecDepth 20000 in
theorem gX5_isCopy_X5_isIn : GoodIn wsX5_isCopy (va_wsS RX5 86 yX5_isIn wsX5_isIn) := goodIn_app (goodIn_of _ (by decide +kernel)) ggX5_isCopy_X5_isIn
theorem dX5_isCopy_0 : decode cX5_isCopy 0 = .ok (.iload_n 1, 1) := by decide +kernel
theorem dX5_isCopy_1 : decode cX5_isCopy 1 = .ok (.iconst 0, 1) := by decide +kernel
theorem dX5_isCopy_2 : decode cX5_isCopy 2 = .ok (.aload_n 0, 1) := by decide +kernel
theorem dX5_isCopy_3 : decode cX5_isCopy 3 = .ok (.getfield 90, 3) := by decide +kernel
theorem dX5_isCopy_6 : decode cX5_isCopy 6 = .ok (.iconst 1, 1) := by decide +kernel
theorem dX5_isCopy_7 : decode cX5_isCopy 7 = .ok (.isub, 1) := by decide +kernel
theorem dX5_isCopy_8 : decode cX5_isCopy 8 = .ok (.invokestatic 86, 3) := by decide +kernel
theorem dX5_isCopy_11 : decode cX5_isCopy 11 = .ok (.ireturn, 1) := by decide +kernel
set_option maxRecDepth 20000 in
theorem ggX5_isKind_X5_isIn : GoodIn wsX5_isKind wsX5_isIn := goodIn_r _ [4] (by decide +kernel) (by decide +kernel)
set_option maxRecDepth 20000 in
theorem gX5_isKind_X5_isIn : GoodIn wsX5_isKind (va_wsS RX5 86 yX5_isIn wsX5_isIn) := goodIn_app (goodIn_of _ (by decide +kernel)) ggX5_isKind_X5_isIn
theorem dX5_isKind_0 : decode cX5_isKind 0 = .ok (.iload_n 0, 1) := by decide +kernel
theorem dX5_isKind_1 : decode cX5_isKind 1 = .ok (.iconst 0, 1) := by decide +kernel
theorem dX5_isKind_2 : decode cX5_isKind 2 = .ok (.iconst 3, 1) := by decide +kernel
theorem dX5_isKind_3 : decode cX5_isKind 3 = .ok (.invokestatic 86, 3) := by decide +kernel
theorem dX5_isKind_6 : decode cX5_isKind 6 = .ok (.ireturn, 1) := by decide +kernel
set_option maxRecDepth 20000 in
theorem ggX5_isGroup_X5_isIn : GoodIn wsX5_isGroup wsX5_isIn := goodIn_r _ [5] (by decide +kernel) (by decide +kernel)
set_option maxRecDepth 20000 in
theorem gX5_isGroup_X5_isIn : GoodIn wsX5_isGroup (va_wsS RX5 86 yX5_isIn wsX5_isIn) := goodIn_app (goodIn_of _ (by decide +kernel)) ggX5_isGroup_X5_isIn
theorem dX5_isGroup_0 : decode cX5_isGroup 0 = .ok (.iload_n 1, 1) := by decide +kernel
theorem dX5_isGroup_1 : decode cX5_isGroup 1 = .ok (.iconst 0, 1) := by decide +kernel
theorem dX5_isGroup_2 : decode cX5_isGroup 2 = .ok (.aload_n 0, 1) := by decide +kernel
theorem dX5_isGroup_3 : decode cX5_isGroup 3 = .ok (.getfield 93, 3) := by decide +kernel
theorem dX5_isGroup_6 : decode cX5_isGroup 6 = .ok (.iconst 1, 1) := by decide +kernel
theorem dX5_isGroup_7 : decode cX5_isGroup 7 = .ok (.isub, 1) := by decide +kernel
theorem dX5_isGroup_8 : decode cX5_isGroup 8 = .ok (.invokestatic 86, 3) := by decide +kernel
theorem dX5_isGroup_11 : decode cX5_isGroup 11 = .ok (.ireturn, 1) := by decide +kernel
set_option maxRecDepth 20000 in
theorem ggX5_pass_X5_isIn : GoodIn wsX5_pass wsX5_isIn := goodIn_r _ [5] (by decide +kernel) (by decide +kernel)
set_option maxRecDepth 20000 in
theorem gX5_pass_X5_isIn : GoodIn wsX5_pass (va_wsS RX5 86 yX5_isIn wsX5_isIn) := goodIn_app (goodIn_of _ (by decide +kernel)) ggX5_pass_X5_isIn
set_option maxRecDepth 20000 in
theorem ggX5_pass_X5_isFine : GoodIn wsX5_pass wsX5_isFine := goodIn_r _ [9, 10, 11, 12, 13, 14, 15, 16, 17, 18, 19, 20, 21, 22, 23, 24, 25, 26, 27, 28, 29, 30, 31, 32, 33, 34, 35, 36, 37, 38, 39, 40, 41, 42, 43] (by decide +kernel) (by decide +kernel)
set_option maxRecDepth 20000 in
theorem gX5_pass_X5_isFine : GoodIn wsX5_pass (wsV RX5 99 RX5 yX5_isFine wsX5_isFine) := goodIn_app (goodIn_of _ (by decide +kernel)) ggX5_pass_X5_isFine
theorem dX5_pass_0 : decode cX5_pass 0 = .ok (.aload_n 0, 1) := by decide +kernel
theorem dX5_pass_1 : decode cX5_pass 1 = .ok (.iload_n 1, 1) := by decide +kernel
theorem dX5_pass_2 : decode cX5_pass 2 = .ok (.iconst 1, 1) := by decide +kernel
theorem dX5_pass_3 : decode cX5_pass 3 = .ok (.sipush 500, 3) := by decide +kernel
theorem dX5_pass_6 : decode cX5_pass 6 = .ok (.invokestatic 86, 3) := by decide +kernel
theorem dX5_pass_9 : decode cX5_pass 9 = .ok (.ifCond .ne 7, 3) := by decide +kernel
theorem dX5_pass_12 : decode cX5_pass 12 = .ok (.iconst 1, 1) := by decide +kernel
theorem dX5_pass_13 : decode cX5_pass 13 = .ok (.goto 20, 3) := by decide +kernel
theorem dX5_pass_16 : decode cX5_pass 16 = .ok (.aload_n 0, 1) := by decide +kernel
theorem dX5_pass_17 : decode cX5_pass 17 = .ok (.getfield 96, 3) := by decide +kernel
theorem dX5_pass_20 : decode cX5_pass 20 = .ok (.iload_n 1, 1) := by decide +kernel
theorem dX5_pass_21 : decode cX5_pass 21 = .ok (.iadd, 1) := by decide +kernel
theorem dX5_pass_22 : decode cX5_pass 22 = .ok (.sipush 20000, 3) := by decide +kernel
theorem dX5_pass_25 : decode cX5_pass 25 = .ok (.if_icmp .le 7, 3) := by decide +kernel
theorem dX5_pass_28 : decode cX5_pass 28 = .ok (.iconst 2, 1) := by decide +kernel
theorem dX5_pass_29 : decode cX5_pass 29 = .ok (.goto 4, 3) := by decide +kernel
theorem dX5_pass_32 : decode cX5_pass 32 = .ok (.iconst 0, 1) := by decide +kernel
theorem dX5_pass_33 : decode cX5_pass 33 = .ok (.invokevirtual 99, 3) := by decide +kernel
theorem dX5_pass_36 : decode cX5_pass 36 = .ok (.ifCond .ne 5, 3) := by decide +kernel
theorem dX5_pass_39 : decode cX5_pass 39 = .ok (.iconst 0, 1) := by decide +kernel
theorem dX5_pass_40 : decode cX5_pass 40 = .ok (.ireturn, 1) := by decide +kernel
theorem dX5_pass_41 : decode cX5_pass 41 = .ok (.aload_n 0, 1) := by decide +kernel
theorem dX5_pass_42 : decode cX5_pass 42 = .ok (.dup, 1) := by decide +kernel
theorem dX5_pass_43 : decode cX5_pass 43 = .ok (.getfield 96, 3) := by decide +kernel
theorem dX5_pass_46 : decode cX5_pass 46 = .ok (.iload_n 1, 1) := by decide +kernel
theorem dX5_pass_47 : decode cX5_pass 47 = .ok (.iadd, 1) := by decide +kernel
theorem dX5_pass_48 : decode cX5_pass 48 = .ok (.putfield 96, 3) := by decide +kernel
theorem dX5_pass_51 : decode cX5_pass 51 = .ok (.aload_n 0, 1) := by decide +kernel
theorem dX5_pass_52 : decode cX5_pass 52 = .ok (.getfield 96, 3) := by decide +kernel
theorem dX5_pass_55 : decode cX5_pass 55 = .ok (.ireturn, 1) := by decide +kernel
theorem dX5_now_0 : decode cX5_now 0 = .ok (.aload_n 0, 1) := by decide +kernel
theorem dX5_now_1 : decode cX5_now 1 = .ok (.iconst 0, 1) := by decide +kernel
theorem dX5_now_2 : decode cX5_now 2 = .ok (.putfield 79, 3) := by decide +kernel
theorem dX5_now_5 : decode cX5_now 5 = .ok (.aload_n 0, 1) := by decide +kernel
theorem dX5_now_6 : decode cX5_now 6 = .ok (.getfield 96, 3) := by decide +kernel
theorem dX5_now_9 : decode cX5_now 9 = .ok (.ireturn, 1) := by decide +kernel
set_option maxRecDepth 20000 in
theorem ggX5_addTable_X5_isIn : GoodIn wsX5_addTable wsX5_isIn := goodIn_r _ [7] (by decide +kernel) (by decide +kernel)
set_option maxRecDepth 20000 in
theorem gX5_addTable_X5_isIn : GoodIn wsX5_addTable (va_wsS RX5 86 yX5_isIn wsX5_isIn) := goodIn_app (goodIn_of _ (by decide +kernel)) ggX5_addTable_X5_isIn
set_option maxRecDepth 20000 in
theorem ggX5_addTable_X5_isFine : GoodIn wsX5_addTable wsX5_isFine := goodIn_r _ [11, 12, 13, 14, 15, 16, 17, 18, 19, 20, 21, 22, 23, 24, 25, 26, 27, 28, 29, 30, 31, 32, 33, 34, 35, 36, 37, 38, 39, 40, 41, 42, 43, 44, 45] (by decide +kernel) (by decide +kernel)
set_option maxRecDepth 20000 in
theorem gX5_addTable_X5_isFine : GoodIn wsX5_addTable (wsV RX5 99 RX5 yX5_isFine wsX5_isFine) := goodIn_app (goodIn_of _ (by decide +kernel)) ggX5_addTable_X5_isFine
theorem dX5_addTable_0 : decode cX5_addTable 0 = .ok (.aload_n 0, 1) := by decide +kernel
theorem dX5_addTable_1 : decode cX5_addTable 1 = .ok (.iload_n 1, 1) := by decide +kernel
theorem dX5_addTable_2 : decode cX5_addTable 2 = .ok (.iconst 2, 1) := by decide +kernel
theorem dX5_addTable_3 : decode cX5_addTable 3 = .ok (.bipush 6, 2) := by decide +kernel
theorem dX5_addTable_5 : decode cX5_addTable 5 = .ok (.invokestatic 86, 3) := by decide +kernel
theorem dX5_addTable_8 : decode cX5_addTable 8 = .ok (.ifCond .ne 7, 3) := by decide +kernel
theorem dX5_addTable_11 : decode cX5_addTable 11 = .ok (.iconst 1, 1) := by decide +kernel
theorem dX5_addTable_12 : decode cX5_addTable 12 = .ok (.goto 17, 3) := by decide +kernel
theorem dX5_addTable_15 : decode cX5_addTable 15 = .ok (.aload_n 0, 1) := by decide +kernel
theorem dX5_addTable_16 : decode cX5_addTable 16 = .ok (.getfield 103, 3) := by decide +kernel
theorem dX5_addTable_19 : decode cX5_addTable 19 = .ok (.bipush 10, 2) := by decide +kernel
theorem dX5_addTable_21 : decode cX5_addTable 21 = .ok (.if_icmp .ne 7, 3) := by decide +kernel
theorem dX5_addTable_24 : decode cX5_addTable 24 = .ok (.iconst 2, 1) := by decide +kernel
theorem dX5_addTable_25 : decode cX5_addTable 25 = .ok (.goto 4, 3) := by decide +kernel
theorem dX5_addTable_28 : decode cX5_addTable 28 = .ok (.iconst 0, 1) := by decide +kernel
theorem dX5_addTable_29 : decode cX5_addTable 29 = .ok (.invokevirtual 99, 3) := by decide +kernel
theorem dX5_addTable_32 : decode cX5_addTable 32 = .ok (.ifCond .ne 5, 3) := by decide +kernel
theorem dX5_addTable_35 : decode cX5_addTable 35 = .ok (.iconst 0, 1) := by decide +kernel
theorem dX5_addTable_36 : decode cX5_addTable 36 = .ok (.ireturn, 1) := by decide +kernel
theorem dX5_addTable_37 : decode cX5_addTable 37 = .ok (.aload_n 0, 1) := by decide +kernel
theorem dX5_addTable_38 : decode cX5_addTable 38 = .ok (.getfield 7, 3) := by decide +kernel
theorem dX5_addTable_41 : decode cX5_addTable 41 = .ok (.aload_n 0, 1) := by decide +kernel
theorem dX5_addTable_42 : decode cX5_addTable 42 = .ok (.getfield 103, 3) := by decide +kernel
theorem dX5_addTable_45 : decode cX5_addTable 45 = .ok (.iload_n 1, 1) := by decide +kernel
theorem dX5_addTable_46 : decode cX5_addTable 46 = .ok (.iastore, 1) := by decide +kernel
theorem dX5_addTable_47 : decode cX5_addTable 47 = .ok (.aload_n 0, 1) := by decide +kernel
theorem dX5_addTable_48 : decode cX5_addTable 48 = .ok (.getfield 13, 3) := by decide +kernel
theorem dX5_addTable_51 : decode cX5_addTable 51 = .ok (.aload_n 0, 1) := by decide +kernel
theorem dX5_addTable_52 : decode cX5_addTable 52 = .ok (.getfield 103, 3) := by decide +kernel
theorem dX5_addTable_55 : decode cX5_addTable 55 = .ok (.iconst (-1), 1) := by decide +kernel
theorem dX5_addTable_56 : decode cX5_addTable 56 = .ok (.iastore, 1) := by decide +kernel
theorem dX5_addTable_57 : decode cX5_addTable 57 = .ok (.aload_n 0, 1) := by decide +kernel
theorem dX5_addTable_58 : decode cX5_addTable 58 = .ok (.dup, 1) := by decide +kernel
theorem dX5_addTable_59 : decode cX5_addTable 59 = .ok (.getfield 103, 3) := by decide +kernel
theorem dX5_addTable_62 : decode cX5_addTable 62 = .ok (.iconst 1, 1) := by decide +kernel
theorem dX5_addTable_63 : decode cX5_addTable 63 = .ok (.iadd, 1) := by decide +kernel
theorem dX5_addTable_64 : decode cX5_addTable 64 = .ok (.putfield 103, 3) := by decide +kernel
theorem dX5_addTable_67 : decode cX5_addTable 67 = .ok (.aload_n 0, 1) := by decide +kernel
theorem dX5_addTable_68 : decode cX5_addTable 68 = .ok (.getfield 103, 3) := by decide +kernel
theorem dX5_addTable_71 : decode cX5_addTable 71 = .ok (.iconst 1, 1) := by decide +kernel
theorem dX5_addTable_72 : decode cX5_addTable 72 = .ok (.isub, 1) := by decide +kernel
theorem dX5_addTable_73 : decode cX5_addTable 73 = .ok (.ireturn, 1) := by decide +kernel
set_option maxRecDepth 20000 in
theorem ggX5_arePieces_X5_isIn : GoodIn wsX5_arePieces wsX5_isIn := goodIn_r _ [4] (by decide +kernel) (by decide +kernel)
set_option maxRecDepth 20000 in
theorem gX5_arePieces_X5_isIn : GoodIn wsX5_arePieces (va_wsS RX5 86 yX5_isIn wsX5_isIn) := goodIn_app (goodIn_of _ (by decide +kernel)) ggX5_arePieces_X5_isIn
theorem dX5_arePieces_0 : decode cX5_arePieces 0 = .ok (.iload_n 0, 1) := by decide +kernel
theorem dX5_arePieces_1 : decode cX5_arePieces 1 = .ok (.iconst 0, 1) := by decide +kernel
theorem dX5_arePieces_2 : decode cX5_arePieces 2 = .ok (.bipush 9, 2) := by decide +kernel
theorem dX5_arePieces_4 : decode cX5_arePieces 4 = .ok (.invokestatic 86, 3) := by decide +kernel
theorem dX5_arePieces_7 : decode cX5_arePieces 7 = .ok (.ireturn, 1) := by decide +kernel
set_option maxRecDepth 20000 in
theorem ggX5_addTitle_X5_isIn : GoodIn wsX5_addTitle wsX5_isIn := goodIn_r _ [9] (by decide +kernel) (by decide +kernel)
set_option maxRecDepth 20000 in
theorem gX5_addTitle_X5_isIn : GoodIn wsX5_addTitle (va_wsS RX5 86 yX5_isIn wsX5_isIn) := goodIn_app (goodIn_of _ (by decide +kernel)) ggX5_addTitle_X5_isIn
set_option maxRecDepth 20000 in
theorem ggX5_addTitle_X5_arePieces : GoodIn wsX5_addTitle wsX5_arePieces := goodIn_r _ [12, 6, 7, 8, 9] (by decide +kernel) (by decide +kernel)
set_option maxRecDepth 20000 in
theorem gX5_addTitle_X5_arePieces : GoodIn wsX5_addTitle (va_wsS RX5 106 yX5_arePieces wsX5_arePieces) := goodIn_app (goodIn_of _ (by decide +kernel)) ggX5_addTitle_X5_arePieces
set_option maxRecDepth 20000 in
theorem ggX5_addTitle_X5_isFine : GoodIn wsX5_addTitle wsX5_isFine := goodIn_r _ [16, 17, 18, 19, 20, 21, 22, 23, 24, 25, 26, 27, 28, 29, 30, 31, 32, 33, 34, 35, 36, 37, 38, 39, 40, 41, 42, 43, 44, 45, 46, 47, 48, 49, 50] (by decide +kernel) (by decide +kernel)
set_option maxRecDepth 20000 in
theorem gX5_addTitle_X5_isFine : GoodIn wsX5_addTitle (wsV RX5 99 RX5 yX5_isFine wsX5_isFine) := goodIn_app (goodIn_of _ (by decide +kernel)) ggX5_addTitle_X5_isFine
theorem dX5_addTitle_0 : decode cX5_addTitle 0 = .ok (.iload_n 1, 1) := by decide +kernel
theorem dX5_addTitle_1 : decode cX5_addTitle 1 = .ok (.iconst 1, 1) := by decide +kernel
theorem dX5_addTitle_2 : decode cX5_addTitle 2 = .ok (.bipush 12, 2) := by decide +kernel
theorem dX5_addTitle_4 : decode cX5_addTitle 4 = .ok (.invokestatic 86, 3) := by decide +kernel
theorem dX5_addTitle_7 : decode cX5_addTitle 7 = .ok (.ifCond .eq 28, 3) := by decide +kernel
theorem dX5_addTitle_10 : decode cX5_addTitle 10 = .ok (.iload_n 2, 1) := by decide +kernel
theorem dX5_addTitle_11 : decode cX5_addTitle 11 = .ok (.iload_n 1, 1) := by decide +kernel
theorem dX5_addTitle_12 : decode cX5_addTitle 12 = .ok (.bipush 12, 2) := by decide +kernel
theorem dX5_addTitle_14 : decode cX5_addTitle 14 = .ok (.invokestatic 86, 3) := by decide +kernel
theorem dX5_addTitle_17 : decode cX5_addTitle 17 = .ok (.ifCond .eq 18, 3) := by decide +kernel
theorem dX5_addTitle_20 : decode cX5_addTitle 20 = .ok (.iload_n 3, 1) := by decide +kernel
theorem dX5_addTitle_21 : decode cX5_addTitle 21 = .ok (.iconst 5, 1) := by decide +kernel
theorem dX5_addTitle_22 : decode cX5_addTitle 22 = .ok (.sipush 300, 3) := by decide +kernel
theorem dX5_addTitle_25 : decode cX5_addTitle 25 = .ok (.invokestatic 86, 3) := by decide +kernel
theorem dX5_addTitle_28 : decode cX5_addTitle 28 = .ok (.ifCond .eq 7, 3) := by decide +kernel
theorem dX5_addTitle_31 : decode cX5_addTitle 31 = .ok (.iconst 1, 1) := by decide +kernel
theorem dX5_addTitle_32 : decode cX5_addTitle 32 = .ok (.goto 4, 3) := by decide +kernel
theorem dX5_addTitle_35 : decode cX5_addTitle 35 = .ok (.iconst 0, 1) := by decide +kernel
theorem dX5_addTitle_36 : decode cX5_addTitle 36 = .ok (.istore 8, 2) := by decide +kernel
theorem dX5_addTitle_38 : decode cX5_addTitle 38 = .ok (.iload 8, 2) := by decide +kernel
theorem dX5_addTitle_40 : decode cX5_addTitle 40 = .ok (.ifCond .eq 39, 3) := by decide +kernel
theorem dX5_addTitle_43 : decode cX5_addTitle 43 = .ok (.iload 4, 2) := by decide +kernel
theorem dX5_addTitle_45 : decode cX5_addTitle 45 = .ok (.invokestatic 106, 3) := by decide +kernel
theorem dX5_addTitle_48 : decode cX5_addTitle 48 = .ok (.ifCond .eq 31, 3) := by decide +kernel
theorem dX5_addTitle_51 : decode cX5_addTitle 51 = .ok (.iload 5, 2) := by decide +kernel
theorem dX5_addTitle_53 : decode cX5_addTitle 53 = .ok (.invokestatic 106, 3) := by decide +kernel
theorem dX5_addTitle_56 : decode cX5_addTitle 56 = .ok (.ifCond .eq 23, 3) := by decide +kernel
theorem dX5_addTitle_59 : decode cX5_addTitle 59 = .ok (.iload 6, 2) := by decide +kernel
theorem dX5_addTitle_61 : decode cX5_addTitle 61 = .ok (.invokestatic 106, 3) := by decide +kernel
theorem dX5_addTitle_64 : decode cX5_addTitle 64 = .ok (.ifCond .eq 15, 3) := by decide +kernel
theorem dX5_addTitle_67 : decode cX5_addTitle 67 = .ok (.iload 7, 2) := by decide +kernel
theorem dX5_addTitle_69 : decode cX5_addTitle 69 = .ok (.invokestatic 106, 3) := by decide +kernel
theorem dX5_addTitle_72 : decode cX5_addTitle 72 = .ok (.ifCond .eq 7, 3) := by decide +kernel
theorem dX5_addTitle_75 : decode cX5_addTitle 75 = .ok (.iconst 1, 1) := by decide +kernel
theorem dX5_addTitle_76 : decode cX5_addTitle 76 = .ok (.goto 4, 3) := by decide +kernel
theorem dX5_addTitle_79 : decode cX5_addTitle 79 = .ok (.iconst 0, 1) := by decide +kernel
theorem dX5_addTitle_80 : decode cX5_addTitle 80 = .ok (.istore 8, 2) := by decide +kernel
theorem dX5_addTitle_82 : decode cX5_addTitle 82 = .ok (.aload_n 0, 1) := by decide +kernel
theorem dX5_addTitle_83 : decode cX5_addTitle 83 = .ok (.iload 8, 2) := by decide +kernel
theorem dX5_addTitle_85 : decode cX5_addTitle 85 = .ok (.ifCond .ne 7, 3) := by decide +kernel
theorem dX5_addTitle_88 : decode cX5_addTitle 88 = .ok (.iconst 1, 1) := by decide +kernel
theorem dX5_addTitle_89 : decode cX5_addTitle 89 = .ok (.goto 17, 3) := by decide +kernel
theorem dX5_addTitle_92 : decode cX5_addTitle 92 = .ok (.aload_n 0, 1) := by decide +kernel
theorem dX5_addTitle_93 : decode cX5_addTitle 93 = .ok (.getfield 83, 3) := by decide +kernel
theorem dX5_addTitle_96 : decode cX5_addTitle 96 = .ok (.bipush 8, 2) := by decide +kernel
theorem dX5_addTitle_98 : decode cX5_addTitle 98 = .ok (.if_icmp .ne 7, 3) := by decide +kernel
theorem dX5_addTitle_101 : decode cX5_addTitle 101 = .ok (.iconst 2, 1) := by decide +kernel
theorem dX5_addTitle_102 : decode cX5_addTitle 102 = .ok (.goto 4, 3) := by decide +kernel
theorem dX5_addTitle_105 : decode cX5_addTitle 105 = .ok (.iconst 0, 1) := by decide +kernel
theorem dX5_addTitle_106 : decode cX5_addTitle 106 = .ok (.invokevirtual 99, 3) := by decide +kernel
theorem dX5_addTitle_109 : decode cX5_addTitle 109 = .ok (.ifCond .ne 5, 3) := by decide +kernel
theorem dX5_addTitle_112 : decode cX5_addTitle 112 = .ok (.iconst 0, 1) := by decide +kernel
theorem dX5_addTitle_113 : decode cX5_addTitle 113 = .ok (.ireturn, 1) := by decide +kernel
theorem dX5_addTitle_114 : decode cX5_addTitle 114 = .ok (.aload_n 0, 1) := by decide +kernel
theorem dX5_addTitle_115 : decode cX5_addTitle 115 = .ok (.getfield 31, 3) := by decide +kernel
theorem dX5_addTitle_118 : decode cX5_addTitle 118 = .ok (.aload_n 0, 1) := by decide +kernel
theorem dX5_addTitle_119 : decode cX5_addTitle 119 = .ok (.getfield 83, 3) := by decide +kernel
theorem dX5_addTitle_122 : decode cX5_addTitle 122 = .ok (.iload_n 1, 1) := by decide +kernel
theorem dX5_addTitle_123 : decode cX5_addTitle 123 = .ok (.iastore, 1) := by decide +kernel
theorem dX5_addTitle_124 : decode cX5_addTitle 124 = .ok (.aload_n 0, 1) := by decide +kernel
theorem dX5_addTitle_125 : decode cX5_addTitle 125 = .ok (.getfield 34, 3) := by decide +kernel
theorem dX5_addTitle_128 : decode cX5_addTitle 128 = .ok (.aload_n 0, 1) := by decide +kernel
theorem dX5_addTitle_129 : decode cX5_addTitle 129 = .ok (.getfield 83, 3) := by decide +kernel
theorem dX5_addTitle_132 : decode cX5_addTitle 132 = .ok (.iload_n 2, 1) := by decide +kernel
theorem dX5_addTitle_133 : decode cX5_addTitle 133 = .ok (.iastore, 1) := by decide +kernel
theorem dX5_addTitle_134 : decode cX5_addTitle 134 = .ok (.aload_n 0, 1) := by decide +kernel
theorem dX5_addTitle_135 : decode cX5_addTitle 135 = .ok (.getfield 37, 3) := by decide +kernel
theorem dX5_addTitle_138 : decode cX5_addTitle 138 = .ok (.aload_n 0, 1) := by decide +kernel
theorem dX5_addTitle_139 : decode cX5_addTitle 139 = .ok (.getfield 83, 3) := by decide +kernel
theorem dX5_addTitle_142 : decode cX5_addTitle 142 = .ok (.iload_n 3, 1) := by decide +kernel
theorem dX5_addTitle_143 : decode cX5_addTitle 143 = .ok (.iastore, 1) := by decide +kernel
theorem dX5_addTitle_144 : decode cX5_addTitle 144 = .ok (.aload_n 0, 1) := by decide +kernel
theorem dX5_addTitle_145 : decode cX5_addTitle 145 = .ok (.getfield 40, 3) := by decide +kernel
theorem dX5_addTitle_148 : decode cX5_addTitle 148 = .ok (.iconst 4, 1) := by decide +kernel
theorem dX5_addTitle_149 : decode cX5_addTitle 149 = .ok (.aload_n 0, 1) := by decide +kernel
theorem dX5_addTitle_150 : decode cX5_addTitle 150 = .ok (.getfield 83, 3) := by decide +kernel
theorem dX5_addTitle_153 : decode cX5_addTitle 153 = .ok (.imul, 1) := by decide +kernel
theorem dX5_addTitle_154 : decode cX5_addTitle 154 = .ok (.iload 4, 2) := by decide +kernel
theorem dX5_addTitle_156 : decode cX5_addTitle 156 = .ok (.iastore, 1) := by decide +kernel
theorem dX5_addTitle_157 : decode cX5_addTitle 157 = .ok (.aload_n 0, 1) := by decide +kernel
theorem dX5_addTitle_158 : decode cX5_addTitle 158 = .ok (.getfield 40, 3) := by decide +kernel
theorem dX5_addTitle_161 : decode cX5_addTitle 161 = .ok (.iconst 4, 1) := by decide +kernel
theorem dX5_addTitle_162 : decode cX5_addTitle 162 = .ok (.aload_n 0, 1) := by decide +kernel
theorem dX5_addTitle_163 : decode cX5_addTitle 163 = .ok (.getfield 83, 3) := by decide +kernel
theorem dX5_addTitle_166 : decode cX5_addTitle 166 = .ok (.imul, 1) := by decide +kernel
theorem dX5_addTitle_167 : decode cX5_addTitle 167 = .ok (.iconst 1, 1) := by decide +kernel
theorem dX5_addTitle_168 : decode cX5_addTitle 168 = .ok (.iadd, 1) := by decide +kernel
theorem dX5_addTitle_169 : decode cX5_addTitle 169 = .ok (.iload 5, 2) := by decide +kernel
theorem dX5_addTitle_171 : decode cX5_addTitle 171 = .ok (.iastore, 1) := by decide +kernel
theorem dX5_addTitle_172 : decode cX5_addTitle 172 = .ok (.aload_n 0, 1) := by decide +kernel
theorem dX5_addTitle_173 : decode cX5_addTitle 173 = .ok (.getfield 40, 3) := by decide +kernel
theorem dX5_addTitle_176 : decode cX5_addTitle 176 = .ok (.iconst 4, 1) := by decide +kernel
theorem dX5_addTitle_177 : decode cX5_addTitle 177 = .ok (.aload_n 0, 1) := by decide +kernel
theorem dX5_addTitle_178 : decode cX5_addTitle 178 = .ok (.getfield 83, 3) := by decide +kernel
theorem dX5_addTitle_181 : decode cX5_addTitle 181 = .ok (.imul, 1) := by decide +kernel
theorem dX5_addTitle_182 : decode cX5_addTitle 182 = .ok (.iconst 2, 1) := by decide +kernel
theorem dX5_addTitle_183 : decode cX5_addTitle 183 = .ok (.iadd, 1) := by decide +kernel
theorem dX5_addTitle_184 : decode cX5_addTitle 184 = .ok (.iload 6, 2) := by decide +kernel
theorem dX5_addTitle_186 : decode cX5_addTitle 186 = .ok (.iastore, 1) := by decide +kernel
theorem dX5_addTitle_187 : decode cX5_addTitle 187 = .ok (.aload_n 0, 1) := by decide +kernel
theorem dX5_addTitle_188 : decode cX5_addTitle 188 = .ok (.getfield 40, 3) := by decide +kernel
theorem dX5_addTitle_191 : decode cX5_addTitle 191 = .ok (.iconst 4, 1) := by decide +kernel
theorem dX5_addTitle_192 : decode cX5_addTitle 192 = .ok (.aload_n 0, 1) := by decide +kernel
theorem dX5_addTitle_193 : decode cX5_addTitle 193 = .ok (.getfield 83, 3) := by decide +kernel
theorem dX5_addTitle_196 : decode cX5_addTitle 196 = .ok (.imul, 1) := by decide +kernel
theorem dX5_addTitle_197 : decode cX5_addTitle 197 = .ok (.iconst 3, 1) := by decide +kernel
theorem dX5_addTitle_198 : decode cX5_addTitle 198 = .ok (.iadd, 1) := by decide +kernel
theorem dX5_addTitle_199 : decode cX5_addTitle 199 = .ok (.iload 7, 2) := by decide +kernel
theorem dX5_addTitle_201 : decode cX5_addTitle 201 = .ok (.iastore, 1) := by decide +kernel
theorem dX5_addTitle_202 : decode cX5_addTitle 202 = .ok (.aload_n 0, 1) := by decide +kernel
theorem dX5_addTitle_203 : decode cX5_addTitle 203 = .ok (.dup, 1) := by decide +kernel
theorem dX5_addTitle_204 : decode cX5_addTitle 204 = .ok (.getfield 83, 3) := by decide +kernel
theorem dX5_addTitle_207 : decode cX5_addTitle 207 = .ok (.iconst 1, 1) := by decide +kernel
theorem dX5_addTitle_208 : decode cX5_addTitle 208 = .ok (.iadd, 1) := by decide +kernel
theorem dX5_addTitle_209 : decode cX5_addTitle 209 = .ok (.putfield 83, 3) := by decide +kernel
theorem dX5_addTitle_212 : decode cX5_addTitle 212 = .ok (.aload_n 0, 1) := by decide +kernel
theorem dX5_addTitle_213 : decode cX5_addTitle 213 = .ok (.getfield 83, 3) := by decide +kernel
theorem dX5_addTitle_216 : decode cX5_addTitle 216 = .ok (.iconst 1, 1) := by decide +kernel
theorem dX5_addTitle_217 : decode cX5_addTitle 217 = .ok (.isub, 1) := by decide +kernel
theorem dX5_addTitle_218 : decode cX5_addTitle 218 = .ok (.ireturn, 1) := by decide +kernel
set_option maxRecDepth 20000 in
theorem ggX5_addCopy_X5_isTitle : GoodIn wsX5_addCopy wsX5_isTitle := goodIn_r _ [10, 11, 12, 13, 9, 14, 20, 21, 22, 23, 24, 25, 26, 27, 28, 29, 30, 31, 32, 33, 34, 35, 36, 37, 38, 39, 40, 41, 42, 43, 44, 45, 46, 47, 48, 49, 50, 51, 52] (by decide +kernel) (by decide +kernel)
set_option maxRecDepth 20000 in
theorem gX5_addCopy_X5_isTitle : GoodIn wsX5_addCopy (wsV RX5 109 RX5 yX5_isTitle wsX5_isTitle) := goodIn_app (goodIn_of _ (by decide +kernel)) ggX5_addCopy_X5_isTitle
set_option maxRecDepth 20000 in
theorem ggX5_addCopy_X5_isFine : GoodIn wsX5_addCopy wsX5_isFine := goodIn_r _ [18, 19, 20, 21, 22, 23, 24, 25, 26, 27, 28, 29, 30, 31, 32, 33, 34, 35, 36, 37, 38, 39, 40, 41, 42, 43, 44, 45, 46, 47, 48, 49, 50, 51, 52] (by decide +kernel) (by decide +kernel)
set_option maxRecDepth 20000 in
theorem gX5_addCopy_X5_isFine : GoodIn wsX5_addCopy (wsV RX5 99 RX5 yX5_isFine wsX5_isFine) := goodIn_app (goodIn_of _ (by decide +kernel)) ggX5_addCopy_X5_isFine
theorem dX5_addCopy_0 : decode cX5_addCopy 0 = .ok (.aload_n 0, 1) := by decide +kernel
theorem dX5_addCopy_1 : decode cX5_addCopy 1 = .ok (.aload_n 0, 1) := by decide +kernel
theorem dX5_addCopy_2 : decode cX5_addCopy 2 = .ok (.iload_n 1, 1) := by decide +kernel
theorem dX5_addCopy_3 : decode cX5_addCopy 3 = .ok (.invokevirtual 109, 3) := by decide +kernel
theorem dX5_addCopy_6 : decode cX5_addCopy 6 = .ok (.ifCond .ne 7, 3) := by decide +kernel
theorem dX5_addCopy_9 : decode cX5_addCopy 9 = .ok (.iconst 1, 1) := by decide +kernel
theorem dX5_addCopy_10 : decode cX5_addCopy 10 = .ok (.goto 17, 3) := by decide +kernel
theorem dX5_addCopy_13 : decode cX5_addCopy 13 = .ok (.aload_n 0, 1) := by decide +kernel
theorem dX5_addCopy_14 : decode cX5_addCopy 14 = .ok (.getfield 90, 3) := by decide +kernel
theorem dX5_addCopy_17 : decode cX5_addCopy 17 = .ok (.bipush 16, 2) := by decide +kernel
theorem dX5_addCopy_19 : decode cX5_addCopy 19 = .ok (.if_icmp .ne 7, 3) := by decide +kernel
theorem dX5_addCopy_22 : decode cX5_addCopy 22 = .ok (.iconst 2, 1) := by decide +kernel
theorem dX5_addCopy_23 : decode cX5_addCopy 23 = .ok (.goto 4, 3) := by decide +kernel
theorem dX5_addCopy_26 : decode cX5_addCopy 26 = .ok (.iconst 0, 1) := by decide +kernel
theorem dX5_addCopy_27 : decode cX5_addCopy 27 = .ok (.invokevirtual 99, 3) := by decide +kernel
theorem dX5_addCopy_30 : decode cX5_addCopy 30 = .ok (.ifCond .ne 5, 3) := by decide +kernel
theorem dX5_addCopy_33 : decode cX5_addCopy 33 = .ok (.iconst 0, 1) := by decide +kernel
theorem dX5_addCopy_34 : decode cX5_addCopy 34 = .ok (.ireturn, 1) := by decide +kernel
theorem dX5_addCopy_35 : decode cX5_addCopy 35 = .ok (.aload_n 0, 1) := by decide +kernel
theorem dX5_addCopy_36 : decode cX5_addCopy 36 = .ok (.getfield 43, 3) := by decide +kernel
theorem dX5_addCopy_39 : decode cX5_addCopy 39 = .ok (.aload_n 0, 1) := by decide +kernel
theorem dX5_addCopy_40 : decode cX5_addCopy 40 = .ok (.getfield 90, 3) := by decide +kernel
theorem dX5_addCopy_43 : decode cX5_addCopy 43 = .ok (.iload_n 1, 1) := by decide +kernel
theorem dX5_addCopy_44 : decode cX5_addCopy 44 = .ok (.iastore, 1) := by decide +kernel
theorem dX5_addCopy_45 : decode cX5_addCopy 45 = .ok (.aload_n 0, 1) := by decide +kernel
theorem dX5_addCopy_46 : decode cX5_addCopy 46 = .ok (.getfield 46, 3) := by decide +kernel
theorem dX5_addCopy_49 : decode cX5_addCopy 49 = .ok (.aload_n 0, 1) := by decide +kernel
theorem dX5_addCopy_50 : decode cX5_addCopy 50 = .ok (.getfield 90, 3) := by decide +kernel
theorem dX5_addCopy_53 : decode cX5_addCopy 53 = .ok (.iconst 0, 1) := by decide +kernel
theorem dX5_addCopy_54 : decode cX5_addCopy 54 = .ok (.iastore, 1) := by decide +kernel
theorem dX5_addCopy_55 : decode cX5_addCopy 55 = .ok (.iconst 0, 1) := by decide +kernel
theorem dX5_addCopy_56 : decode cX5_addCopy 56 = .ok (.istore_n 2, 1) := by decide +kernel
theorem dX5_addCopy_57 : decode cX5_addCopy 57 = .ok (.iload_n 2, 1) := by decide +kernel
theorem dX5_addCopy_58 : decode cX5_addCopy 58 = .ok (.iconst 4, 1) := by decide +kernel
theorem dX5_addCopy_59 : decode cX5_addCopy 59 = .ok (.if_icmp .ge 32, 3) := by decide +kernel
theorem dX5_addCopy_62 : decode cX5_addCopy 62 = .ok (.aload_n 0, 1) := by decide +kernel
theorem dX5_addCopy_63 : decode cX5_addCopy 63 = .ok (.getfield 49, 3) := by decide +kernel
theorem dX5_addCopy_66 : decode cX5_addCopy 66 = .ok (.iconst 4, 1) := by decide +kernel
theorem dX5_addCopy_67 : decode cX5_addCopy 67 = .ok (.aload_n 0, 1) := by decide +kernel
theorem dX5_addCopy_68 : decode cX5_addCopy 68 = .ok (.getfield 90, 3) := by decide +kernel
theorem dX5_addCopy_71 : decode cX5_addCopy 71 = .ok (.imul, 1) := by decide +kernel
theorem dX5_addCopy_72 : decode cX5_addCopy 72 = .ok (.iload_n 2, 1) := by decide +kernel
theorem dX5_addCopy_73 : decode cX5_addCopy 73 = .ok (.iadd, 1) := by decide +kernel
theorem dX5_addCopy_74 : decode cX5_addCopy 74 = .ok (.aload_n 0, 1) := by decide +kernel
theorem dX5_addCopy_75 : decode cX5_addCopy 75 = .ok (.getfield 40, 3) := by decide +kernel
theorem dX5_addCopy_78 : decode cX5_addCopy 78 = .ok (.iconst 4, 1) := by decide +kernel
theorem dX5_addCopy_79 : decode cX5_addCopy 79 = .ok (.iload_n 1, 1) := by decide +kernel
theorem dX5_addCopy_80 : decode cX5_addCopy 80 = .ok (.imul, 1) := by decide +kernel
theorem dX5_addCopy_81 : decode cX5_addCopy 81 = .ok (.iload_n 2, 1) := by decide +kernel
theorem dX5_addCopy_82 : decode cX5_addCopy 82 = .ok (.iadd, 1) := by decide +kernel
theorem dX5_addCopy_83 : decode cX5_addCopy 83 = .ok (.iaload, 1) := by decide +kernel
theorem dX5_addCopy_84 : decode cX5_addCopy 84 = .ok (.iastore, 1) := by decide +kernel
theorem dX5_addCopy_85 : decode cX5_addCopy 85 = .ok (.iinc 2 1, 3) := by decide +kernel
theorem dX5_addCopy_88 : decode cX5_addCopy 88 = .ok (.goto (-31), 3) := by decide +kernel
theorem dX5_addCopy_91 : decode cX5_addCopy 91 = .ok (.aload_n 0, 1) := by decide +kernel
theorem dX5_addCopy_92 : decode cX5_addCopy 92 = .ok (.dup, 1) := by decide +kernel
theorem dX5_addCopy_93 : decode cX5_addCopy 93 = .ok (.getfield 90, 3) := by decide +kernel
theorem dX5_addCopy_96 : decode cX5_addCopy 96 = .ok (.iconst 1, 1) := by decide +kernel
theorem dX5_addCopy_97 : decode cX5_addCopy 97 = .ok (.iadd, 1) := by decide +kernel
theorem dX5_addCopy_98 : decode cX5_addCopy 98 = .ok (.putfield 90, 3) := by decide +kernel
theorem dX5_addCopy_101 : decode cX5_addCopy 101 = .ok (.aload_n 0, 1) := by decide +kernel
theorem dX5_addCopy_102 : decode cX5_addCopy 102 = .ok (.getfield 90, 3) := by decide +kernel
theorem dX5_addCopy_105 : decode cX5_addCopy 105 = .ok (.iconst 1, 1) := by decide +kernel
theorem dX5_addCopy_106 : decode cX5_addCopy 106 = .ok (.isub, 1) := by decide +kernel
theorem dX5_addCopy_107 : decode cX5_addCopy 107 = .ok (.ireturn, 1) := by decide +kernel
set_option maxRecDepth 20000 in
theorem ggX5_addRule_X5_isTitle : GoodIn wsX5_addRule wsX5_isTitle := goodIn_r _ [10, 11, 12, 13, 9, 14, 20, 21, 22, 23, 24, 25, 26, 27, 28, 29, 30, 31, 32, 33, 34, 35, 36, 37, 38, 39, 40, 41, 42, 43, 44, 45, 46, 47, 48, 49, 50, 51, 52] (by decide +kernel) (by decide +kernel)
set_option maxRecDepth 20000 in
theorem gX5_addRule_X5_isTitle : GoodIn wsX5_addRule (wsV RX5 109 RX5 yX5_isTitle wsX5_isTitle) := goodIn_app (goodIn_of _ (by decide +kernel)) ggX5_addRule_X5_isTitle
set_option maxRecDepth 20000 in
theorem ggX5_addRule_X5_isIn : GoodIn wsX5_addRule wsX5_isIn := goodIn_r _ [14] (by decide +kernel) (by decide +kernel)
set_option maxRecDepth 20000 in
theorem gX5_addRule_X5_isIn : GoodIn wsX5_addRule (va_wsS RX5 86 yX5_isIn wsX5_isIn) := goodIn_app (goodIn_of _ (by decide +kernel)) ggX5_addRule_X5_isIn
set_option maxRecDepth 20000 in
theorem ggX5_addRule_X5_isFine : GoodIn wsX5_addRule wsX5_isFine := goodIn_r _ [18, 19, 20, 21, 22, 23, 24, 25, 26, 27, 28, 29, 30, 31, 32, 33, 34, 35, 36, 37, 38, 39, 40, 41, 42, 43, 44, 45, 46, 47, 48, 49, 50, 51, 52] (by decide +kernel) (by decide +kernel)
set_option maxRecDepth 20000 in
theorem gX5_addRule_X5_isFine : GoodIn wsX5_addRule (wsV RX5 99 RX5 yX5_isFine wsX5_isFine) := goodIn_app (goodIn_of _ (by decide +kernel)) ggX5_addRule_X5_isFine
theorem dX5_addRule_0 : decode cX5_addRule 0 = .ok (.aload_n 0, 1) := by decide +kernel
theorem dX5_addRule_1 : decode cX5_addRule 1 = .ok (.iload_n 1, 1) := by decide +kernel
theorem dX5_addRule_2 : decode cX5_addRule 2 = .ok (.invokevirtual 109, 3) := by decide +kernel
theorem dX5_addRule_5 : decode cX5_addRule 5 = .ok (.ifCond .eq 23, 3) := by decide +kernel
theorem dX5_addRule_8 : decode cX5_addRule 8 = .ok (.iload_n 2, 1) := by decide +kernel
theorem dX5_addRule_9 : decode cX5_addRule 9 = .ok (.iconst (-1), 1) := by decide +kernel
theorem dX5_addRule_10 : decode cX5_addRule 10 = .ok (.aload_n 0, 1) := by decide +kernel
theorem dX5_addRule_11 : decode cX5_addRule 11 = .ok (.getfield 76, 3) := by decide +kernel
theorem dX5_addRule_14 : decode cX5_addRule 14 = .ok (.iload_n 1, 1) := by decide +kernel
theorem dX5_addRule_15 : decode cX5_addRule 15 = .ok (.iaload, 1) := by decide +kernel
theorem dX5_addRule_16 : decode cX5_addRule 16 = .ok (.iconst 1, 1) := by decide +kernel
theorem dX5_addRule_17 : decode cX5_addRule 17 = .ok (.isub, 1) := by decide +kernel
theorem dX5_addRule_18 : decode cX5_addRule 18 = .ok (.invokestatic 86, 3) := by decide +kernel
theorem dX5_addRule_21 : decode cX5_addRule 21 = .ok (.ifCond .eq 7, 3) := by decide +kernel
theorem dX5_addRule_24 : decode cX5_addRule 24 = .ok (.iconst 1, 1) := by decide +kernel
theorem dX5_addRule_25 : decode cX5_addRule 25 = .ok (.goto 4, 3) := by decide +kernel
theorem dX5_addRule_28 : decode cX5_addRule 28 = .ok (.iconst 0, 1) := by decide +kernel
theorem dX5_addRule_29 : decode cX5_addRule 29 = .ok (.istore 6, 2) := by decide +kernel
theorem dX5_addRule_31 : decode cX5_addRule 31 = .ok (.iload_n 3, 1) := by decide +kernel
theorem dX5_addRule_32 : decode cX5_addRule 32 = .ok (.iconst 0, 1) := by decide +kernel
theorem dX5_addRule_33 : decode cX5_addRule 33 = .ok (.iconst 3, 1) := by decide +kernel
theorem dX5_addRule_34 : decode cX5_addRule 34 = .ok (.invokestatic 86, 3) := by decide +kernel
theorem dX5_addRule_37 : decode cX5_addRule 37 = .ok (.ifCond .eq 30, 3) := by decide +kernel
theorem dX5_addRule_40 : decode cX5_addRule 40 = .ok (.iload 4, 2) := by decide +kernel
theorem dX5_addRule_42 : decode cX5_addRule 42 = .ok (.iconst 1, 1) := by decide +kernel
theorem dX5_addRule_43 : decode cX5_addRule 43 = .ok (.sipush 300, 3) := by decide +kernel
theorem dX5_addRule_46 : decode cX5_addRule 46 = .ok (.invokestatic 86, 3) := by decide +kernel
theorem dX5_addRule_49 : decode cX5_addRule 49 = .ok (.ifCond .eq 18, 3) := by decide +kernel
theorem dX5_addRule_52 : decode cX5_addRule 52 = .ok (.iload 5, 2) := by decide +kernel
theorem dX5_addRule_54 : decode cX5_addRule 54 = .ok (.iconst 0, 1) := by decide +kernel
theorem dX5_addRule_55 : decode cX5_addRule 55 = .ok (.bipush 99, 2) := by decide +kernel
theorem dX5_addRule_57 : decode cX5_addRule 57 = .ok (.invokestatic 86, 3) := by decide +kernel
theorem dX5_addRule_60 : decode cX5_addRule 60 = .ok (.ifCond .eq 7, 3) := by decide +kernel
theorem dX5_addRule_63 : decode cX5_addRule 63 = .ok (.iconst 1, 1) := by decide +kernel
theorem dX5_addRule_64 : decode cX5_addRule 64 = .ok (.goto 4, 3) := by decide +kernel
theorem dX5_addRule_67 : decode cX5_addRule 67 = .ok (.iconst 0, 1) := by decide +kernel
theorem dX5_addRule_68 : decode cX5_addRule 68 = .ok (.istore 7, 2) := by decide +kernel
theorem dX5_addRule_70 : decode cX5_addRule 70 = .ok (.aload_n 0, 1) := by decide +kernel
theorem dX5_addRule_71 : decode cX5_addRule 71 = .ok (.iload 6, 2) := by decide +kernel
theorem dX5_addRule_73 : decode cX5_addRule 73 = .ok (.ifCond .ne 7, 3) := by decide +kernel
theorem dX5_addRule_76 : decode cX5_addRule 76 = .ok (.iconst 1, 1) := by decide +kernel
theorem dX5_addRule_77 : decode cX5_addRule 77 = .ok (.goto 28, 3) := by decide +kernel
theorem dX5_addRule_80 : decode cX5_addRule 80 = .ok (.iload 7, 2) := by decide +kernel
theorem dX5_addRule_82 : decode cX5_addRule 82 = .ok (.ifCond .ne 7, 3) := by decide +kernel
theorem dX5_addRule_85 : decode cX5_addRule 85 = .ok (.iconst 2, 1) := by decide +kernel
theorem dX5_addRule_86 : decode cX5_addRule 86 = .ok (.goto 19, 3) := by decide +kernel
theorem dX5_addRule_89 : decode cX5_addRule 89 = .ok (.aload_n 0, 1) := by decide +kernel
theorem dX5_addRule_90 : decode cX5_addRule 90 = .ok (.getfield 76, 3) := by decide +kernel
theorem dX5_addRule_93 : decode cX5_addRule 93 = .ok (.iload_n 1, 1) := by decide +kernel
theorem dX5_addRule_94 : decode cX5_addRule 94 = .ok (.iaload, 1) := by decide +kernel
theorem dX5_addRule_95 : decode cX5_addRule 95 = .ok (.bipush 12, 2) := by decide +kernel
theorem dX5_addRule_97 : decode cX5_addRule 97 = .ok (.if_icmp .ne 7, 3) := by decide +kernel
theorem dX5_addRule_100 : decode cX5_addRule 100 = .ok (.iconst 3, 1) := by decide +kernel
theorem dX5_addRule_101 : decode cX5_addRule 101 = .ok (.goto 4, 3) := by decide +kernel
theorem dX5_addRule_104 : decode cX5_addRule 104 = .ok (.iconst 0, 1) := by decide +kernel
theorem dX5_addRule_105 : decode cX5_addRule 105 = .ok (.invokevirtual 99, 3) := by decide +kernel
theorem dX5_addRule_108 : decode cX5_addRule 108 = .ok (.ifCond .ne 5, 3) := by decide +kernel
theorem dX5_addRule_111 : decode cX5_addRule 111 = .ok (.iconst 0, 1) := by decide +kernel
theorem dX5_addRule_112 : decode cX5_addRule 112 = .ok (.ireturn, 1) := by decide +kernel
theorem dX5_addRule_113 : decode cX5_addRule 113 = .ok (.bipush 12, 2) := by decide +kernel
theorem dX5_addRule_115 : decode cX5_addRule 115 = .ok (.iload_n 1, 1) := by decide +kernel
theorem dX5_addRule_116 : decode cX5_addRule 116 = .ok (.imul, 1) := by decide +kernel
theorem dX5_addRule_117 : decode cX5_addRule 117 = .ok (.aload_n 0, 1) := by decide +kernel
theorem dX5_addRule_118 : decode cX5_addRule 118 = .ok (.getfield 76, 3) := by decide +kernel
theorem dX5_addRule_121 : decode cX5_addRule 121 = .ok (.iload_n 1, 1) := by decide +kernel
theorem dX5_addRule_122 : decode cX5_addRule 122 = .ok (.iaload, 1) := by decide +kernel
theorem dX5_addRule_123 : decode cX5_addRule 123 = .ok (.iadd, 1) := by decide +kernel
theorem dX5_addRule_124 : decode cX5_addRule 124 = .ok (.istore 8, 2) := by decide +kernel
theorem dX5_addRule_126 : decode cX5_addRule 126 = .ok (.aload_n 0, 1) := by decide +kernel
theorem dX5_addRule_127 : decode cX5_addRule 127 = .ok (.getfield 64, 3) := by decide +kernel
theorem dX5_addRule_130 : decode cX5_addRule 130 = .ok (.iload 8, 2) := by decide +kernel
theorem dX5_addRule_132 : decode cX5_addRule 132 = .ok (.iload_n 2, 1) := by decide +kernel
theorem dX5_addRule_133 : decode cX5_addRule 133 = .ok (.iastore, 1) := by decide +kernel
theorem dX5_addRule_134 : decode cX5_addRule 134 = .ok (.aload_n 0, 1) := by decide +kernel
theorem dX5_addRule_135 : decode cX5_addRule 135 = .ok (.getfield 67, 3) := by decide +kernel
theorem dX5_addRule_138 : decode cX5_addRule 138 = .ok (.iload 8, 2) := by decide +kernel
theorem dX5_addRule_140 : decode cX5_addRule 140 = .ok (.iload_n 3, 1) := by decide +kernel
theorem dX5_addRule_141 : decode cX5_addRule 141 = .ok (.iastore, 1) := by decide +kernel
theorem dX5_addRule_142 : decode cX5_addRule 142 = .ok (.aload_n 0, 1) := by decide +kernel
theorem dX5_addRule_143 : decode cX5_addRule 143 = .ok (.getfield 70, 3) := by decide +kernel
theorem dX5_addRule_146 : decode cX5_addRule 146 = .ok (.iload 8, 2) := by decide +kernel
theorem dX5_addRule_148 : decode cX5_addRule 148 = .ok (.iload 4, 2) := by decide +kernel
theorem dX5_addRule_150 : decode cX5_addRule 150 = .ok (.iastore, 1) := by decide +kernel
theorem dX5_addRule_151 : decode cX5_addRule 151 = .ok (.aload_n 0, 1) := by decide +kernel
theorem dX5_addRule_152 : decode cX5_addRule 152 = .ok (.getfield 73, 3) := by decide +kernel
theorem dX5_addRule_155 : decode cX5_addRule 155 = .ok (.iload 8, 2) := by decide +kernel
theorem dX5_addRule_157 : decode cX5_addRule 157 = .ok (.iload 5, 2) := by decide +kernel
theorem dX5_addRule_159 : decode cX5_addRule 159 = .ok (.iastore, 1) := by decide +kernel
theorem dX5_addRule_160 : decode cX5_addRule 160 = .ok (.aload_n 0, 1) := by decide +kernel
theorem dX5_addRule_161 : decode cX5_addRule 161 = .ok (.getfield 76, 3) := by decide +kernel
theorem dX5_addRule_164 : decode cX5_addRule 164 = .ok (.iload_n 1, 1) := by decide +kernel
theorem dX5_addRule_165 : decode cX5_addRule 165 = .ok (.dup2, 1) := by decide +kernel
theorem dX5_addRule_166 : decode cX5_addRule 166 = .ok (.iaload, 1) := by decide +kernel
theorem dX5_addRule_167 : decode cX5_addRule 167 = .ok (.iconst 1, 1) := by decide +kernel
theorem dX5_addRule_168 : decode cX5_addRule 168 = .ok (.iadd, 1) := by decide +kernel
theorem dX5_addRule_169 : decode cX5_addRule 169 = .ok (.iastore, 1) := by decide +kernel
theorem dX5_addRule_170 : decode cX5_addRule 170 = .ok (.aload_n 0, 1) := by decide +kernel
theorem dX5_addRule_171 : decode cX5_addRule 171 = .ok (.getfield 76, 3) := by decide +kernel
theorem dX5_addRule_174 : decode cX5_addRule 174 = .ok (.iload_n 1, 1) := by decide +kernel
theorem dX5_addRule_175 : decode cX5_addRule 175 = .ok (.iaload, 1) := by decide +kernel
theorem dX5_addRule_176 : decode cX5_addRule 176 = .ok (.iconst 1, 1) := by decide +kernel
theorem dX5_addRule_177 : decode cX5_addRule 177 = .ok (.isub, 1) := by decide +kernel
theorem dX5_addRule_178 : decode cX5_addRule 178 = .ok (.ireturn, 1) := by decide +kernel
theorem dX5_finds_0 : decode cX5_finds 0 = .ok (.aload_n 0, 1) := by decide +kernel
theorem dX5_finds_1 : decode cX5_finds 1 = .ok (.iconst (-1), 1) := by decide +kernel
theorem dX5_finds_2 : decode cX5_finds 2 = .ok (.putfield 112, 3) := by decide +kernel
theorem dX5_finds_5 : decode cX5_finds 5 = .ok (.iconst 0, 1) := by decide +kernel
theorem dX5_finds_6 : decode cX5_finds 6 = .ok (.istore_n 2, 1) := by decide +kernel
theorem dX5_finds_7 : decode cX5_finds 7 = .ok (.iload_n 2, 1) := by decide +kernel
theorem dX5_finds_8 : decode cX5_finds 8 = .ok (.aload_n 0, 1) := by decide +kernel
theorem dX5_finds_9 : decode cX5_finds 9 = .ok (.getfield 103, 3) := by decide +kernel
theorem dX5_finds_12 : decode cX5_finds 12 = .ok (.if_icmp .ge 134, 3) := by decide +kernel
theorem dX5_finds_15 : decode cX5_finds 15 = .ok (.iconst 1, 1) := by decide +kernel
theorem dX5_finds_16 : decode cX5_finds 16 = .ok (.istore_n 3, 1) := by decide +kernel
theorem dX5_finds_17 : decode cX5_finds 17 = .ok (.iload_n 2, 1) := by decide +kernel
theorem dX5_finds_18 : decode cX5_finds 18 = .ok (.istore 4, 2) := by decide +kernel
theorem dX5_finds_20 : decode cX5_finds 20 = .ok (.iload 4, 2) := by decide +kernel
theorem dX5_finds_22 : decode cX5_finds 22 = .ok (.aload_n 0, 1) := by decide +kernel
theorem dX5_finds_23 : decode cX5_finds 23 = .ok (.getfield 103, 3) := by decide +kernel
theorem dX5_finds_26 : decode cX5_finds 26 = .ok (.if_icmp .ge 114, 3) := by decide +kernel
theorem dX5_finds_29 : decode cX5_finds 29 = .ok (.aload_n 0, 1) := by decide +kernel
theorem dX5_finds_30 : decode cX5_finds 30 = .ok (.getfield 13, 3) := by decide +kernel
theorem dX5_finds_33 : decode cX5_finds 33 = .ok (.iload 4, 2) := by decide +kernel
theorem dX5_finds_35 : decode cX5_finds 35 = .ok (.iaload, 1) := by decide +kernel
theorem dX5_finds_36 : decode cX5_finds 36 = .ok (.iconst (-1), 1) := by decide +kernel
theorem dX5_finds_37 : decode cX5_finds 37 = .ok (.if_icmp .ne 103, 3) := by decide +kernel
theorem dX5_finds_40 : decode cX5_finds 40 = .ok (.iload_n 3, 1) := by decide +kernel
theorem dX5_finds_41 : decode cX5_finds 41 = .ok (.aload_n 0, 1) := by decide +kernel
theorem dX5_finds_42 : decode cX5_finds 42 = .ok (.getfield 7, 3) := by decide +kernel
theorem dX5_finds_45 : decode cX5_finds 45 = .ok (.iload 4, 2) := by decide +kernel
theorem dX5_finds_47 : decode cX5_finds 47 = .ok (.iaload, 1) := by decide +kernel
theorem dX5_finds_48 : decode cX5_finds 48 = .ok (.iconst 1, 1) := by decide +kernel
theorem dX5_finds_49 : decode cX5_finds 49 = .ok (.isub, 1) := by decide +kernel
theorem dX5_finds_50 : decode cX5_finds 50 = .ok (.iadd, 1) := by decide +kernel
theorem dX5_finds_51 : decode cX5_finds 51 = .ok (.istore_n 3, 1) := by decide +kernel
theorem dX5_finds_52 : decode cX5_finds 52 = .ok (.iload_n 3, 1) := by decide +kernel
theorem dX5_finds_53 : decode cX5_finds 53 = .ok (.iload_n 1, 1) := by decide +kernel
theorem dX5_finds_54 : decode cX5_finds 54 = .ok (.isub, 1) := by decide +kernel
theorem dX5_finds_55 : decode cX5_finds 55 = .ok (.istore 5, 2) := by decide +kernel
theorem dX5_finds_57 : decode cX5_finds 57 = .ok (.aload_n 0, 1) := by decide +kernel
theorem dX5_finds_58 : decode cX5_finds 58 = .ok (.getfield 112, 3) := by decide +kernel
theorem dX5_finds_61 : decode cX5_finds 61 = .ok (.iconst (-1), 1) := by decide +kernel
theorem dX5_finds_62 : decode cX5_finds 62 = .ok (.if_icmp .eq 34, 3) := by decide +kernel
theorem dX5_finds_65 : decode cX5_finds 65 = .ok (.iload 5, 2) := by decide +kernel
theorem dX5_finds_67 : decode cX5_finds 67 = .ok (.aload_n 0, 1) := by decide +kernel
theorem dX5_finds_68 : decode cX5_finds 68 = .ok (.getfield 112, 3) := by decide +kernel
theorem dX5_finds_71 : decode cX5_finds 71 = .ok (.if_icmp .lt 25, 3) := by decide +kernel
theorem dX5_finds_74 : decode cX5_finds 74 = .ok (.iload 5, 2) := by decide +kernel
theorem dX5_finds_76 : decode cX5_finds 76 = .ok (.aload_n 0, 1) := by decide +kernel
theorem dX5_finds_77 : decode cX5_finds 77 = .ok (.getfield 112, 3) := by decide +kernel
theorem dX5_finds_80 : decode cX5_finds 80 = .ok (.if_icmp .ne 20, 3) := by decide +kernel
theorem dX5_finds_83 : decode cX5_finds 83 = .ok (.iload 4, 2) := by decide +kernel
theorem dX5_finds_85 : decode cX5_finds 85 = .ok (.iconst 1, 1) := by decide +kernel
theorem dX5_finds_86 : decode cX5_finds 86 = .ok (.iadd, 1) := by decide +kernel
theorem dX5_finds_87 : decode cX5_finds 87 = .ok (.iload_n 2, 1) := by decide +kernel
theorem dX5_finds_88 : decode cX5_finds 88 = .ok (.isub, 1) := by decide +kernel
theorem dX5_finds_89 : decode cX5_finds 89 = .ok (.aload_n 0, 1) := by decide +kernel
theorem dX5_finds_90 : decode cX5_finds 90 = .ok (.getfield 115, 3) := by decide +kernel
theorem dX5_finds_93 : decode cX5_finds 93 = .ok (.if_icmp .ge 7, 3) := by decide +kernel
theorem dX5_finds_96 : decode cX5_finds 96 = .ok (.iconst 1, 1) := by decide +kernel
theorem dX5_finds_97 : decode cX5_finds 97 = .ok (.goto 4, 3) := by decide +kernel
theorem dX5_finds_100 : decode cX5_finds 100 = .ok (.iconst 0, 1) := by decide +kernel
theorem dX5_finds_101 : decode cX5_finds 101 = .ok (.istore 6, 2) := by decide +kernel
theorem dX5_finds_103 : decode cX5_finds 103 = .ok (.iload 5, 2) := by decide +kernel
theorem dX5_finds_105 : decode cX5_finds 105 = .ok (.ifCond .lt 29, 3) := by decide +kernel
theorem dX5_finds_108 : decode cX5_finds 108 = .ok (.iload 6, 2) := by decide +kernel
theorem dX5_finds_110 : decode cX5_finds 110 = .ok (.ifCond .eq 24, 3) := by decide +kernel
theorem dX5_finds_113 : decode cX5_finds 113 = .ok (.aload_n 0, 1) := by decide +kernel
theorem dX5_finds_114 : decode cX5_finds 114 = .ok (.iload 5, 2) := by decide +kernel
theorem dX5_finds_116 : decode cX5_finds 116 = .ok (.putfield 112, 3) := by decide +kernel
theorem dX5_finds_119 : decode cX5_finds 119 = .ok (.aload_n 0, 1) := by decide +kernel
theorem dX5_finds_120 : decode cX5_finds 120 = .ok (.iload_n 2, 1) := by decide +kernel
theorem dX5_finds_121 : decode cX5_finds 121 = .ok (.putfield 118, 3) := by decide +kernel
theorem dX5_finds_124 : decode cX5_finds 124 = .ok (.aload_n 0, 1) := by decide +kernel
theorem dX5_finds_125 : decode cX5_finds 125 = .ok (.iload 4, 2) := by decide +kernel
theorem dX5_finds_127 : decode cX5_finds 127 = .ok (.iconst 1, 1) := by decide +kernel
theorem dX5_finds_128 : decode cX5_finds 128 = .ok (.iadd, 1) := by decide +kernel
theorem dX5_finds_129 : decode cX5_finds 129 = .ok (.iload_n 2, 1) := by decide +kernel
theorem dX5_finds_130 : decode cX5_finds 130 = .ok (.isub, 1) := by decide +kernel
theorem dX5_finds_131 : decode cX5_finds 131 = .ok (.putfield 115, 3) := by decide +kernel
theorem dX5_finds_134 : decode cX5_finds 134 = .ok (.iinc 4 1, 3) := by decide +kernel
theorem dX5_finds_137 : decode cX5_finds 137 = .ok (.goto (-117), 3) := by decide +kernel
theorem dX5_finds_140 : decode cX5_finds 140 = .ok (.iinc 2 1, 3) := by decide +kernel
theorem dX5_finds_143 : decode cX5_finds 143 = .ok (.goto (-136), 3) := by decide +kernel
theorem dX5_finds_146 : decode cX5_finds 146 = .ok (.aload_n 0, 1) := by decide +kernel
theorem dX5_finds_147 : decode cX5_finds 147 = .ok (.getfield 112, 3) := by decide +kernel
theorem dX5_finds_150 : decode cX5_finds 150 = .ok (.iconst (-1), 1) := by decide +kernel
theorem dX5_finds_151 : decode cX5_finds 151 = .ok (.if_icmp .eq 7, 3) := by decide +kernel
theorem dX5_finds_154 : decode cX5_finds 154 = .ok (.iconst 1, 1) := by decide +kernel
theorem dX5_finds_155 : decode cX5_finds 155 = .ok (.goto 4, 3) := by decide +kernel
theorem dX5_finds_158 : decode cX5_finds 158 = .ok (.iconst 0, 1) := by decide +kernel
theorem dX5_finds_159 : decode cX5_finds 159 = .ok (.ireturn, 1) := by decide +kernel
set_option maxRecDepth 20000 in
theorem ggX5_sits_X5_finds : GoodIn wsX5_sits wsX5_finds := goodIn_r _ [12, 13, 14, 4, 15, 3, 2, 16, 17, 18, 19, 20, 21, 22, 23, 24, 25, 26, 27, 28, 29, 30, 31, 32, 33, 34, 35, 36, 37, 38, 39, 40, 41, 42, 43, 44, 45, 46, 47, 48] (by decide +kernel) (by decide +kernel)
set_option maxRecDepth 20000 in
theorem gX5_sits_X5_finds : GoodIn wsX5_sits (wsV RX5 121 RX5 yX5_finds wsX5_finds) := goodIn_app (goodIn_of _ (by decide +kernel)) ggX5_sits_X5_finds
theorem dX5_sits_0 : decode cX5_sits 0 = .ok (.aload_n 0, 1) := by decide +kernel
theorem dX5_sits_1 : decode cX5_sits 1 = .ok (.aload_n 0, 1) := by decide +kernel
theorem dX5_sits_2 : decode cX5_sits 2 = .ok (.getfield 16, 3) := by decide +kernel
theorem dX5_sits_5 : decode cX5_sits 5 = .ok (.iload_n 1, 1) := by decide +kernel
theorem dX5_sits_6 : decode cX5_sits 6 = .ok (.iaload, 1) := by decide +kernel
theorem dX5_sits_7 : decode cX5_sits 7 = .ok (.invokevirtual 121, 3) := by decide +kernel
theorem dX5_sits_10 : decode cX5_sits 10 = .ok (.ifCond .ne 5, 3) := by decide +kernel
theorem dX5_sits_13 : decode cX5_sits 13 = .ok (.iconst 0, 1) := by decide +kernel
theorem dX5_sits_14 : decode cX5_sits 14 = .ok (.ireturn, 1) := by decide +kernel
theorem dX5_sits_15 : decode cX5_sits 15 = .ok (.aload_n 0, 1) := by decide +kernel
theorem dX5_sits_16 : decode cX5_sits 16 = .ok (.getfield 118, 3) := by decide +kernel
theorem dX5_sits_19 : decode cX5_sits 19 = .ok (.istore_n 2, 1) := by decide +kernel
theorem dX5_sits_20 : decode cX5_sits 20 = .ok (.iload_n 2, 1) := by decide +kernel
theorem dX5_sits_21 : decode cX5_sits 21 = .ok (.aload_n 0, 1) := by decide +kernel
theorem dX5_sits_22 : decode cX5_sits 22 = .ok (.getfield 118, 3) := by decide +kernel
theorem dX5_sits_25 : decode cX5_sits 25 = .ok (.aload_n 0, 1) := by decide +kernel
theorem dX5_sits_26 : decode cX5_sits 26 = .ok (.getfield 115, 3) := by decide +kernel
theorem dX5_sits_29 : decode cX5_sits 29 = .ok (.iadd, 1) := by decide +kernel
theorem dX5_sits_30 : decode cX5_sits 30 = .ok (.if_icmp .ge 16, 3) := by decide +kernel
theorem dX5_sits_33 : decode cX5_sits 33 = .ok (.aload_n 0, 1) := by decide +kernel
theorem dX5_sits_34 : decode cX5_sits 34 = .ok (.getfield 13, 3) := by decide +kernel
theorem dX5_sits_37 : decode cX5_sits 37 = .ok (.iload_n 2, 1) := by decide +kernel
theorem dX5_sits_38 : decode cX5_sits 38 = .ok (.iload_n 1, 1) := by decide +kernel
theorem dX5_sits_39 : decode cX5_sits 39 = .ok (.iastore, 1) := by decide +kernel
theorem dX5_sits_40 : decode cX5_sits 40 = .ok (.iinc 2 1, 3) := by decide +kernel
theorem dX5_sits_43 : decode cX5_sits 43 = .ok (.goto (-23), 3) := by decide +kernel
theorem dX5_sits_46 : decode cX5_sits 46 = .ok (.aload_n 0, 1) := by decide +kernel
theorem dX5_sits_47 : decode cX5_sits 47 = .ok (.getfield 22, 3) := by decide +kernel
theorem dX5_sits_50 : decode cX5_sits 50 = .ok (.iload_n 1, 1) := by decide +kernel
theorem dX5_sits_51 : decode cX5_sits 51 = .ok (.iconst 1, 1) := by decide +kernel
theorem dX5_sits_52 : decode cX5_sits 52 = .ok (.iastore, 1) := by decide +kernel
theorem dX5_sits_53 : decode cX5_sits 53 = .ok (.aload_n 0, 1) := by decide +kernel
theorem dX5_sits_54 : decode cX5_sits 54 = .ok (.getfield 25, 3) := by decide +kernel
theorem dX5_sits_57 : decode cX5_sits 57 = .ok (.iload_n 1, 1) := by decide +kernel
theorem dX5_sits_58 : decode cX5_sits 58 = .ok (.aload_n 0, 1) := by decide +kernel
theorem dX5_sits_59 : decode cX5_sits 59 = .ok (.getfield 96, 3) := by decide +kernel
theorem dX5_sits_62 : decode cX5_sits 62 = .ok (.iastore, 1) := by decide +kernel
theorem dX5_sits_63 : decode cX5_sits 63 = .ok (.iconst 1, 1) := by decide +kernel
theorem dX5_sits_64 : decode cX5_sits 64 = .ok (.ireturn, 1) := by decide +kernel
set_option maxRecDepth 20000 in
theorem ggX5_arrive_X5_isIn : GoodIn wsX5_arrive wsX5_isIn := goodIn_r _ [9] (by decide +kernel) (by decide +kernel)
set_option maxRecDepth 20000 in
theorem gX5_arrive_X5_isIn : GoodIn wsX5_arrive (va_wsS RX5 86 yX5_isIn wsX5_isIn) := goodIn_app (goodIn_of _ (by decide +kernel)) ggX5_arrive_X5_isIn
set_option maxRecDepth 20000 in
theorem ggX5_arrive_X5_isFine : GoodIn wsX5_arrive wsX5_isFine := goodIn_r _ [13, 14, 31, 32, 33, 34, 35, 36, 37, 38, 39, 40, 41, 42, 43, 44, 45, 46, 47, 48, 49, 50, 51, 52, 53, 54, 55, 56, 57, 58, 59, 60, 61, 62, 63] (by decide +kernel) (by decide +kernel)
set_option maxRecDepth 20000 in
theorem gX5_arrive_X5_isFine : GoodIn wsX5_arrive (wsV RX5 99 RX5 yX5_isFine wsX5_isFine) := goodIn_app (goodIn_of _ (by decide +kernel)) ggX5_arrive_X5_isFine
set_option maxRecDepth 20000 in
theorem ggX5_arrive_X5_sits : GoodIn wsX5_arrive wsX5_sits := goodIn_r _ [18, 2, 19, 20, 21, 5, 22, 23, 24, 25, 26, 8, 27, 28, 29, 30, 31, 32, 33, 34, 35, 36, 37, 38, 39, 40, 41, 42, 43, 44, 45, 46, 47, 48, 49, 50, 51, 52, 53, 54, 55, 56, 57, 58, 59, 60, 61, 62, 63] (by decide +kernel) (by decide +kernel)
set_option maxRecDepth 20000 in
theorem gX5_arrive_X5_sits : GoodIn wsX5_arrive (wsV RX5 124 RX5 yX5_sits wsX5_sits) := goodIn_app (goodIn_of _ (by decide +kernel)) ggX5_arrive_X5_sits
theorem dX5_arrive_0 : decode cX5_arrive 0 = .ok (.aload_n 0, 1) := by decide +kernel
theorem dX5_arrive_1 : decode cX5_arrive 1 = .ok (.iload_n 1, 1) := by decide +kernel
theorem dX5_arrive_2 : decode cX5_arrive 2 = .ok (.iconst 1, 1) := by decide +kernel
theorem dX5_arrive_3 : decode cX5_arrive 3 = .ok (.bipush 12, 2) := by decide +kernel
theorem dX5_arrive_5 : decode cX5_arrive 5 = .ok (.invokestatic 86, 3) := by decide +kernel
theorem dX5_arrive_8 : decode cX5_arrive 8 = .ok (.ifCond .eq 15, 3) := by decide +kernel
theorem dX5_arrive_11 : decode cX5_arrive 11 = .ok (.iload_n 2, 1) := by decide +kernel
theorem dX5_arrive_12 : decode cX5_arrive 12 = .ok (.bipush 10, 2) := by decide +kernel
theorem dX5_arrive_14 : decode cX5_arrive 14 = .ok (.sipush 600, 3) := by decide +kernel
theorem dX5_arrive_17 : decode cX5_arrive 17 = .ok (.invokestatic 86, 3) := by decide +kernel
theorem dX5_arrive_20 : decode cX5_arrive 20 = .ok (.ifCond .ne 7, 3) := by decide +kernel
theorem dX5_arrive_23 : decode cX5_arrive 23 = .ok (.iconst 1, 1) := by decide +kernel
theorem dX5_arrive_24 : decode cX5_arrive 24 = .ok (.goto 17, 3) := by decide +kernel
theorem dX5_arrive_27 : decode cX5_arrive 27 = .ok (.aload_n 0, 1) := by decide +kernel
theorem dX5_arrive_28 : decode cX5_arrive 28 = .ok (.getfield 93, 3) := by decide +kernel
theorem dX5_arrive_31 : decode cX5_arrive 31 = .ok (.bipush 30, 2) := by decide +kernel
theorem dX5_arrive_33 : decode cX5_arrive 33 = .ok (.if_icmp .ne 7, 3) := by decide +kernel
theorem dX5_arrive_36 : decode cX5_arrive 36 = .ok (.iconst 2, 1) := by decide +kernel
theorem dX5_arrive_37 : decode cX5_arrive 37 = .ok (.goto 4, 3) := by decide +kernel
theorem dX5_arrive_40 : decode cX5_arrive 40 = .ok (.iconst 0, 1) := by decide +kernel
theorem dX5_arrive_41 : decode cX5_arrive 41 = .ok (.invokevirtual 99, 3) := by decide +kernel
theorem dX5_arrive_44 : decode cX5_arrive 44 = .ok (.ifCond .ne 5, 3) := by decide +kernel
theorem dX5_arrive_47 : decode cX5_arrive 47 = .ok (.iconst 0, 1) := by decide +kernel
theorem dX5_arrive_48 : decode cX5_arrive 48 = .ok (.ireturn, 1) := by decide +kernel
theorem dX5_arrive_49 : decode cX5_arrive 49 = .ok (.aload_n 0, 1) := by decide +kernel
theorem dX5_arrive_50 : decode cX5_arrive 50 = .ok (.getfield 93, 3) := by decide +kernel
theorem dX5_arrive_53 : decode cX5_arrive 53 = .ok (.istore_n 3, 1) := by decide +kernel
theorem dX5_arrive_54 : decode cX5_arrive 54 = .ok (.aload_n 0, 1) := by decide +kernel
theorem dX5_arrive_55 : decode cX5_arrive 55 = .ok (.getfield 16, 3) := by decide +kernel
theorem dX5_arrive_58 : decode cX5_arrive 58 = .ok (.iload_n 3, 1) := by decide +kernel
theorem dX5_arrive_59 : decode cX5_arrive 59 = .ok (.iload_n 1, 1) := by decide +kernel
theorem dX5_arrive_60 : decode cX5_arrive 60 = .ok (.iastore, 1) := by decide +kernel
theorem dX5_arrive_61 : decode cX5_arrive 61 = .ok (.aload_n 0, 1) := by decide +kernel
theorem dX5_arrive_62 : decode cX5_arrive 62 = .ok (.getfield 19, 3) := by decide +kernel
theorem dX5_arrive_65 : decode cX5_arrive 65 = .ok (.iload_n 3, 1) := by decide +kernel
theorem dX5_arrive_66 : decode cX5_arrive 66 = .ok (.iload_n 2, 1) := by decide +kernel
theorem dX5_arrive_67 : decode cX5_arrive 67 = .ok (.iastore, 1) := by decide +kernel
theorem dX5_arrive_68 : decode cX5_arrive 68 = .ok (.aload_n 0, 1) := by decide +kernel
theorem dX5_arrive_69 : decode cX5_arrive 69 = .ok (.getfield 28, 3) := by decide +kernel
theorem dX5_arrive_72 : decode cX5_arrive 72 = .ok (.iload_n 3, 1) := by decide +kernel
theorem dX5_arrive_73 : decode cX5_arrive 73 = .ok (.iconst (-1), 1) := by decide +kernel
theorem dX5_arrive_74 : decode cX5_arrive 74 = .ok (.iastore, 1) := by decide +kernel
theorem dX5_arrive_75 : decode cX5_arrive 75 = .ok (.aload_n 0, 1) := by decide +kernel
theorem dX5_arrive_76 : decode cX5_arrive 76 = .ok (.dup, 1) := by decide +kernel
theorem dX5_arrive_77 : decode cX5_arrive 77 = .ok (.getfield 93, 3) := by decide +kernel
theorem dX5_arrive_80 : decode cX5_arrive 80 = .ok (.iconst 1, 1) := by decide +kernel
theorem dX5_arrive_81 : decode cX5_arrive 81 = .ok (.iadd, 1) := by decide +kernel
theorem dX5_arrive_82 : decode cX5_arrive 82 = .ok (.putfield 93, 3) := by decide +kernel
theorem dX5_arrive_85 : decode cX5_arrive 85 = .ok (.aload_n 0, 1) := by decide +kernel
theorem dX5_arrive_86 : decode cX5_arrive 86 = .ok (.getfield 22, 3) := by decide +kernel
theorem dX5_arrive_89 : decode cX5_arrive 89 = .ok (.iload_n 3, 1) := by decide +kernel
theorem dX5_arrive_90 : decode cX5_arrive 90 = .ok (.aload_n 0, 1) := by decide +kernel
theorem dX5_arrive_91 : decode cX5_arrive 91 = .ok (.iload_n 3, 1) := by decide +kernel
theorem dX5_arrive_92 : decode cX5_arrive 92 = .ok (.invokevirtual 124, 3) := by decide +kernel
theorem dX5_arrive_95 : decode cX5_arrive 95 = .ok (.ifCond .eq 7, 3) := by decide +kernel
theorem dX5_arrive_98 : decode cX5_arrive 98 = .ok (.iconst 1, 1) := by decide +kernel
theorem dX5_arrive_99 : decode cX5_arrive 99 = .ok (.goto 4, 3) := by decide +kernel
theorem dX5_arrive_102 : decode cX5_arrive 102 = .ok (.iconst 0, 1) := by decide +kernel
theorem dX5_arrive_103 : decode cX5_arrive 103 = .ok (.iastore, 1) := by decide +kernel
theorem dX5_arrive_104 : decode cX5_arrive 104 = .ok (.iload_n 3, 1) := by decide +kernel
theorem dX5_arrive_105 : decode cX5_arrive 105 = .ok (.ireturn, 1) := by decide +kernel
set_option maxRecDepth 20000 in
theorem ggX5_leave_X5_isGroup : GoodIn wsX5_leave wsX5_isGroup := goodIn_r _ [10, 5, 11, 12, 9, 13, 34, 35, 36, 37, 38, 39, 40, 41, 42, 43, 44, 45, 46, 47, 48, 49, 50, 51, 52, 53, 54, 55, 56, 57, 58, 59, 60, 61, 62, 63, 64, 65, 66] (by decide +kernel) (by decide +kernel)
set_option maxRecDepth 20000 in
theorem gX5_leave_X5_isGroup : GoodIn wsX5_leave (wsV RX5 127 RX5 yX5_isGroup wsX5_isGroup) := goodIn_app (goodIn_of _ (by decide +kernel)) ggX5_leave_X5_isGroup
set_option maxRecDepth 20000 in
theorem ggX5_leave_X5_isFine : GoodIn wsX5_leave wsX5_isFine := goodIn_r _ [17, 18, 34, 35, 36, 37, 38, 39, 40, 41, 42, 43, 44, 45, 46, 47, 48, 49, 50, 51, 52, 53, 54, 55, 56, 57, 58, 59, 60, 61, 62, 63, 64, 65, 66] (by decide +kernel) (by decide +kernel)
set_option maxRecDepth 20000 in
theorem gX5_leave_X5_isFine : GoodIn wsX5_leave (wsV RX5 99 RX5 yX5_isFine wsX5_isFine) := goodIn_app (goodIn_of _ (by decide +kernel)) ggX5_leave_X5_isFine
set_option maxRecDepth 20000 in
theorem ggX5_leave_X5_sits : GoodIn wsX5_leave wsX5_sits := goodIn_r _ [22, 23, 24, 25, 4, 2, 26, 27, 28, 29, 30, 9, 31, 32, 3, 33, 34, 35, 36, 37, 38, 39, 40, 41, 42, 43, 44, 45, 46, 47, 48, 49, 50, 51, 52, 53, 54, 55, 56, 57, 58, 59, 60, 61, 62, 63, 64, 65, 66] (by decide +kernel) (by decide +kernel)
set_option maxRecDepth 20000 in
theorem gX5_leave_X5_sits : GoodIn wsX5_leave (wsV RX5 124 RX5 yX5_sits wsX5_sits) := goodIn_app (goodIn_of _ (by decide +kernel)) ggX5_leave_X5_sits
theorem dX5_leave_0 : decode cX5_leave 0 = .ok (.aload_n 0, 1) := by decide +kernel
theorem dX5_leave_1 : decode cX5_leave 1 = .ok (.iload_n 1, 1) := by decide +kernel
theorem dX5_leave_2 : decode cX5_leave 2 = .ok (.invokevirtual 127, 3) := by decide +kernel
theorem dX5_leave_5 : decode cX5_leave 5 = .ok (.istore_n 2, 1) := by decide +kernel
theorem dX5_leave_6 : decode cX5_leave 6 = .ok (.aload_n 0, 1) := by decide +kernel
theorem dX5_leave_7 : decode cX5_leave 7 = .ok (.iload_n 2, 1) := by decide +kernel
theorem dX5_leave_8 : decode cX5_leave 8 = .ok (.ifCond .ne 7, 3) := by decide +kernel
theorem dX5_leave_11 : decode cX5_leave 11 = .ok (.iconst 1, 1) := by decide +kernel
theorem dX5_leave_12 : decode cX5_leave 12 = .ok (.goto 28, 3) := by decide +kernel
theorem dX5_leave_15 : decode cX5_leave 15 = .ok (.aload_n 0, 1) := by decide +kernel
theorem dX5_leave_16 : decode cX5_leave 16 = .ok (.getfield 28, 3) := by decide +kernel
theorem dX5_leave_19 : decode cX5_leave 19 = .ok (.iload_n 1, 1) := by decide +kernel
theorem dX5_leave_20 : decode cX5_leave 20 = .ok (.iaload, 1) := by decide +kernel
theorem dX5_leave_21 : decode cX5_leave 21 = .ok (.iconst (-1), 1) := by decide +kernel
theorem dX5_leave_22 : decode cX5_leave 22 = .ok (.if_icmp .ne 13, 3) := by decide +kernel
theorem dX5_leave_25 : decode cX5_leave 25 = .ok (.aload_n 0, 1) := by decide +kernel
theorem dX5_leave_26 : decode cX5_leave 26 = .ok (.getfield 22, 3) := by decide +kernel
theorem dX5_leave_29 : decode cX5_leave 29 = .ok (.iload_n 1, 1) := by decide +kernel
theorem dX5_leave_30 : decode cX5_leave 30 = .ok (.iaload, 1) := by decide +kernel
theorem dX5_leave_31 : decode cX5_leave 31 = .ok (.iconst 2, 1) := by decide +kernel
theorem dX5_leave_32 : decode cX5_leave 32 = .ok (.if_icmp .ne 7, 3) := by decide +kernel
theorem dX5_leave_35 : decode cX5_leave 35 = .ok (.iconst 2, 1) := by decide +kernel
theorem dX5_leave_36 : decode cX5_leave 36 = .ok (.goto 4, 3) := by decide +kernel
theorem dX5_leave_39 : decode cX5_leave 39 = .ok (.iconst 0, 1) := by decide +kernel
theorem dX5_leave_40 : decode cX5_leave 40 = .ok (.invokevirtual 99, 3) := by decide +kernel
theorem dX5_leave_43 : decode cX5_leave 43 = .ok (.ifCond .ne 5, 3) := by decide +kernel
theorem dX5_leave_46 : decode cX5_leave 46 = .ok (.iconst 0, 1) := by decide +kernel
theorem dX5_leave_47 : decode cX5_leave 47 = .ok (.ireturn, 1) := by decide +kernel
theorem dX5_leave_48 : decode cX5_leave 48 = .ok (.aload_n 0, 1) := by decide +kernel
theorem dX5_leave_49 : decode cX5_leave 49 = .ok (.getfield 22, 3) := by decide +kernel
theorem dX5_leave_52 : decode cX5_leave 52 = .ok (.iload_n 1, 1) := by decide +kernel
theorem dX5_leave_53 : decode cX5_leave 53 = .ok (.iconst 2, 1) := by decide +kernel
theorem dX5_leave_54 : decode cX5_leave 54 = .ok (.iastore, 1) := by decide +kernel
theorem dX5_leave_55 : decode cX5_leave 55 = .ok (.iconst 0, 1) := by decide +kernel
theorem dX5_leave_56 : decode cX5_leave 56 = .ok (.istore_n 3, 1) := by decide +kernel
theorem dX5_leave_57 : decode cX5_leave 57 = .ok (.iload_n 3, 1) := by decide +kernel
theorem dX5_leave_58 : decode cX5_leave 58 = .ok (.aload_n 0, 1) := by decide +kernel
theorem dX5_leave_59 : decode cX5_leave 59 = .ok (.getfield 103, 3) := by decide +kernel
theorem dX5_leave_62 : decode cX5_leave 62 = .ok (.if_icmp .ge 35, 3) := by decide +kernel
theorem dX5_leave_65 : decode cX5_leave 65 = .ok (.aload_n 0, 1) := by decide +kernel
theorem dX5_leave_66 : decode cX5_leave 66 = .ok (.getfield 13, 3) := by decide +kernel
theorem dX5_leave_69 : decode cX5_leave 69 = .ok (.iload_n 3, 1) := by decide +kernel
theorem dX5_leave_70 : decode cX5_leave 70 = .ok (.aload_n 0, 1) := by decide +kernel
theorem dX5_leave_71 : decode cX5_leave 71 = .ok (.getfield 13, 3) := by decide +kernel
theorem dX5_leave_74 : decode cX5_leave 74 = .ok (.iload_n 3, 1) := by decide +kernel
theorem dX5_leave_75 : decode cX5_leave 75 = .ok (.iaload, 1) := by decide +kernel
theorem dX5_leave_76 : decode cX5_leave 76 = .ok (.iload_n 1, 1) := by decide +kernel
theorem dX5_leave_77 : decode cX5_leave 77 = .ok (.if_icmp .ne 7, 3) := by decide +kernel
theorem dX5_leave_80 : decode cX5_leave 80 = .ok (.iconst (-1), 1) := by decide +kernel
theorem dX5_leave_81 : decode cX5_leave 81 = .ok (.goto 9, 3) := by decide +kernel
theorem dX5_leave_84 : decode cX5_leave 84 = .ok (.aload_n 0, 1) := by decide +kernel
theorem dX5_leave_85 : decode cX5_leave 85 = .ok (.getfield 13, 3) := by decide +kernel
theorem dX5_leave_88 : decode cX5_leave 88 = .ok (.iload_n 3, 1) := by decide +kernel
theorem dX5_leave_89 : decode cX5_leave 89 = .ok (.iaload, 1) := by decide +kernel
theorem dX5_leave_90 : decode cX5_leave 90 = .ok (.iastore, 1) := by decide +kernel
theorem dX5_leave_91 : decode cX5_leave 91 = .ok (.iinc 3 1, 3) := by decide +kernel
theorem dX5_leave_94 : decode cX5_leave 94 = .ok (.goto (-37), 3) := by decide +kernel
theorem dX5_leave_97 : decode cX5_leave 97 = .ok (.iconst 0, 1) := by decide +kernel
theorem dX5_leave_98 : decode cX5_leave 98 = .ok (.istore_n 3, 1) := by decide +kernel
theorem dX5_leave_99 : decode cX5_leave 99 = .ok (.iconst 0, 1) := by decide +kernel
theorem dX5_leave_100 : decode cX5_leave 100 = .ok (.istore 4, 2) := by decide +kernel
theorem dX5_leave_102 : decode cX5_leave 102 = .ok (.iload 4, 2) := by decide +kernel
theorem dX5_leave_104 : decode cX5_leave 104 = .ok (.aload_n 0, 1) := by decide +kernel
theorem dX5_leave_105 : decode cX5_leave 105 = .ok (.getfield 93, 3) := by decide +kernel
theorem dX5_leave_108 : decode cX5_leave 108 = .ok (.if_icmp .ge 36, 3) := by decide +kernel
theorem dX5_leave_111 : decode cX5_leave 111 = .ok (.iload_n 3, 1) := by decide +kernel
theorem dX5_leave_112 : decode cX5_leave 112 = .ok (.aload_n 0, 1) := by decide +kernel
theorem dX5_leave_113 : decode cX5_leave 113 = .ok (.getfield 22, 3) := by decide +kernel
theorem dX5_leave_116 : decode cX5_leave 116 = .ok (.iload 4, 2) := by decide +kernel
theorem dX5_leave_118 : decode cX5_leave 118 = .ok (.iaload, 1) := by decide +kernel
theorem dX5_leave_119 : decode cX5_leave 119 = .ok (.ifCond .ne 16, 3) := by decide +kernel
theorem dX5_leave_122 : decode cX5_leave 122 = .ok (.aload_n 0, 1) := by decide +kernel
theorem dX5_leave_123 : decode cX5_leave 123 = .ok (.iload 4, 2) := by decide +kernel
theorem dX5_leave_125 : decode cX5_leave 125 = .ok (.invokevirtual 124, 3) := by decide +kernel
theorem dX5_leave_128 : decode cX5_leave 128 = .ok (.ifCond .eq 7, 3) := by decide +kernel
theorem dX5_leave_131 : decode cX5_leave 131 = .ok (.iconst 1, 1) := by decide +kernel
theorem dX5_leave_132 : decode cX5_leave 132 = .ok (.goto 4, 3) := by decide +kernel
theorem dX5_leave_135 : decode cX5_leave 135 = .ok (.iconst 0, 1) := by decide +kernel
theorem dX5_leave_136 : decode cX5_leave 136 = .ok (.iadd, 1) := by decide +kernel
theorem dX5_leave_137 : decode cX5_leave 137 = .ok (.istore_n 3, 1) := by decide +kernel
theorem dX5_leave_138 : decode cX5_leave 138 = .ok (.iinc 4 1, 3) := by decide +kernel
theorem dX5_leave_141 : decode cX5_leave 141 = .ok (.goto (-39), 3) := by decide +kernel
theorem dX5_leave_144 : decode cX5_leave 144 = .ok (.iload_n 3, 1) := by decide +kernel
theorem dX5_leave_145 : decode cX5_leave 145 = .ok (.ireturn, 1) := by decide +kernel
set_option maxRecDepth 20000 in
theorem ggX5_tableOf_X5_isGroup : GoodIn wsX5_tableOf wsX5_isGroup := goodIn_r _ [7, 8, 9, 10, 6, 11, 17, 18, 19, 20, 21, 22, 23, 24, 25, 26, 27, 28, 29, 30, 31, 32, 33, 34, 35, 36, 37, 38, 39, 40, 41, 42, 43, 44, 45, 46, 47, 48, 49] (by decide +kernel) (by decide +kernel)
set_option maxRecDepth 20000 in
theorem gX5_tableOf_X5_isGroup : GoodIn wsX5_tableOf (wsV RX5 127 RX5 yX5_isGroup wsX5_isGroup) := goodIn_app (goodIn_of _ (by decide +kernel)) ggX5_tableOf_X5_isGroup
set_option maxRecDepth 20000 in
theorem ggX5_tableOf_X5_isFine : GoodIn wsX5_tableOf wsX5_isFine := goodIn_r _ [15, 16, 17, 18, 19, 20, 21, 22, 23, 24, 25, 26, 27, 28, 29, 30, 31, 32, 33, 34, 35, 36, 37, 38, 39, 40, 41, 42, 43, 44, 45, 46, 47, 48, 49] (by decide +kernel) (by decide +kernel)
set_option maxRecDepth 20000 in
theorem gX5_tableOf_X5_isFine : GoodIn wsX5_tableOf (wsV RX5 99 RX5 yX5_isFine wsX5_isFine) := goodIn_app (goodIn_of _ (by decide +kernel)) ggX5_tableOf_X5_isFine
theorem dX5_tableOf_0 : decode cX5_tableOf 0 = .ok (.aload_n 0, 1) := by decide +kernel
theorem dX5_tableOf_1 : decode cX5_tableOf 1 = .ok (.aload_n 0, 1) := by decide +kernel
theorem dX5_tableOf_2 : decode cX5_tableOf 2 = .ok (.iload_n 1, 1) := by decide +kernel
theorem dX5_tableOf_3 : decode cX5_tableOf 3 = .ok (.invokevirtual 127, 3) := by decide +kernel
theorem dX5_tableOf_6 : decode cX5_tableOf 6 = .ok (.ifCond .eq 7, 3) := by decide +kernel
theorem dX5_tableOf_9 : decode cX5_tableOf 9 = .ok (.iconst 0, 1) := by decide +kernel
theorem dX5_tableOf_10 : decode cX5_tableOf 10 = .ok (.goto 4, 3) := by decide +kernel
theorem dX5_tableOf_13 : decode cX5_tableOf 13 = .ok (.iconst 1, 1) := by decide +kernel
theorem dX5_tableOf_14 : decode cX5_tableOf 14 = .ok (.invokevirtual 99, 3) := by decide +kernel
theorem dX5_tableOf_17 : decode cX5_tableOf 17 = .ok (.ifCond .ne 5, 3) := by decide +kernel
theorem dX5_tableOf_20 : decode cX5_tableOf 20 = .ok (.iconst 0, 1) := by decide +kernel
theorem dX5_tableOf_21 : decode cX5_tableOf 21 = .ok (.ireturn, 1) := by decide +kernel
theorem dX5_tableOf_22 : decode cX5_tableOf 22 = .ok (.iconst 0, 1) := by decide +kernel
theorem dX5_tableOf_23 : decode cX5_tableOf 23 = .ok (.istore_n 2, 1) := by decide +kernel
theorem dX5_tableOf_24 : decode cX5_tableOf 24 = .ok (.iload_n 2, 1) := by decide +kernel
theorem dX5_tableOf_25 : decode cX5_tableOf 25 = .ok (.aload_n 0, 1) := by decide +kernel
theorem dX5_tableOf_26 : decode cX5_tableOf 26 = .ok (.getfield 103, 3) := by decide +kernel
theorem dX5_tableOf_29 : decode cX5_tableOf 29 = .ok (.if_icmp .ge 21, 3) := by decide +kernel
theorem dX5_tableOf_32 : decode cX5_tableOf 32 = .ok (.aload_n 0, 1) := by decide +kernel
theorem dX5_tableOf_33 : decode cX5_tableOf 33 = .ok (.getfield 13, 3) := by decide +kernel
theorem dX5_tableOf_36 : decode cX5_tableOf 36 = .ok (.iload_n 2, 1) := by decide +kernel
theorem dX5_tableOf_37 : decode cX5_tableOf 37 = .ok (.iaload, 1) := by decide +kernel
theorem dX5_tableOf_38 : decode cX5_tableOf 38 = .ok (.iload_n 1, 1) := by decide +kernel
theorem dX5_tableOf_39 : decode cX5_tableOf 39 = .ok (.if_icmp .ne 5, 3) := by decide +kernel
theorem dX5_tableOf_42 : decode cX5_tableOf 42 = .ok (.iload_n 2, 1) := by decide +kernel
theorem dX5_tableOf_43 : decode cX5_tableOf 43 = .ok (.ireturn, 1) := by decide +kernel
theorem dX5_tableOf_44 : decode cX5_tableOf 44 = .ok (.iinc 2 1, 3) := by decide +kernel
theorem dX5_tableOf_47 : decode cX5_tableOf 47 = .ok (.goto (-23), 3) := by decide +kernel
theorem dX5_tableOf_50 : decode cX5_tableOf 50 = .ok (.iconst (-1), 1) := by decide +kernel
theorem dX5_tableOf_51 : decode cX5_tableOf 51 = .ok (.ireturn, 1) := by decide +kernel
set_option maxRecDepth 20000 in
theorem ggX5_tablesOf_X5_isGroup : GoodIn wsX5_tablesOf wsX5_isGroup := goodIn_r _ [7, 8, 9, 10, 6, 11, 17, 18, 19, 20, 21, 22, 23, 24, 25, 26, 27, 28, 29, 30, 31, 32, 33, 34, 35, 36, 37, 38, 39, 40, 41, 42, 43, 44, 45, 46, 47, 48, 49] (by decide +kernel) (by decide +kernel)
set_option maxRecDepth 20000 in
theorem gX5_tablesOf_X5_isGroup : GoodIn wsX5_tablesOf (wsV RX5 127 RX5 yX5_isGroup wsX5_isGroup) := goodIn_app (goodIn_of _ (by decide +kernel)) ggX5_tablesOf_X5_isGroup
set_option maxRecDepth 20000 in
theorem ggX5_tablesOf_X5_isFine : GoodIn wsX5_tablesOf wsX5_isFine := goodIn_r _ [15, 16, 17, 18, 19, 20, 21, 22, 23, 24, 25, 26, 27, 28, 29, 30, 31, 32, 33, 34, 35, 36, 37, 38, 39, 40, 41, 42, 43, 44, 45, 46, 47, 48, 49] (by decide +kernel) (by decide +kernel)
set_option maxRecDepth 20000 in
theorem gX5_tablesOf_X5_isFine : GoodIn wsX5_tablesOf (wsV RX5 99 RX5 yX5_isFine wsX5_isFine) := goodIn_app (goodIn_of _ (by decide +kernel)) ggX5_tablesOf_X5_isFine
theorem dX5_tablesOf_0 : decode cX5_tablesOf 0 = .ok (.aload_n 0, 1) := by decide +kernel
theorem dX5_tablesOf_1 : decode cX5_tablesOf 1 = .ok (.aload_n 0, 1) := by decide +kernel
theorem dX5_tablesOf_2 : decode cX5_tablesOf 2 = .ok (.iload_n 1, 1) := by decide +kernel
theorem dX5_tablesOf_3 : decode cX5_tablesOf 3 = .ok (.invokevirtual 127, 3) := by decide +kernel
theorem dX5_tablesOf_6 : decode cX5_tablesOf 6 = .ok (.ifCond .eq 7, 3) := by decide +kernel
theorem dX5_tablesOf_9 : decode cX5_tablesOf 9 = .ok (.iconst 0, 1) := by decide +kernel
theorem dX5_tablesOf_10 : decode cX5_tablesOf 10 = .ok (.goto 4, 3) := by decide +kernel
theorem dX5_tablesOf_13 : decode cX5_tablesOf 13 = .ok (.iconst 1, 1) := by decide +kernel
theorem dX5_tablesOf_14 : decode cX5_tablesOf 14 = .ok (.invokevirtual 99, 3) := by decide +kernel
theorem dX5_tablesOf_17 : decode cX5_tablesOf 17 = .ok (.ifCond .ne 5, 3) := by decide +kernel
theorem dX5_tablesOf_20 : decode cX5_tablesOf 20 = .ok (.iconst 0, 1) := by decide +kernel
theorem dX5_tablesOf_21 : decode cX5_tablesOf 21 = .ok (.ireturn, 1) := by decide +kernel
theorem dX5_tablesOf_22 : decode cX5_tablesOf 22 = .ok (.iconst 0, 1) := by decide +kernel
theorem dX5_tablesOf_23 : decode cX5_tablesOf 23 = .ok (.istore_n 2, 1) := by decide +kernel
theorem dX5_tablesOf_24 : decode cX5_tablesOf 24 = .ok (.iconst 0, 1) := by decide +kernel
theorem dX5_tablesOf_25 : decode cX5_tablesOf 25 = .ok (.istore_n 3, 1) := by decide +kernel
theorem dX5_tablesOf_26 : decode cX5_tablesOf 26 = .ok (.iload_n 3, 1) := by decide +kernel
theorem dX5_tablesOf_27 : decode cX5_tablesOf 27 = .ok (.aload_n 0, 1) := by decide +kernel
theorem dX5_tablesOf_28 : decode cX5_tablesOf 28 = .ok (.getfield 103, 3) := by decide +kernel
theorem dX5_tablesOf_31 : decode cX5_tablesOf 31 = .ok (.if_icmp .ge 27, 3) := by decide +kernel
theorem dX5_tablesOf_34 : decode cX5_tablesOf 34 = .ok (.iload_n 2, 1) := by decide +kernel
theorem dX5_tablesOf_35 : decode cX5_tablesOf 35 = .ok (.aload_n 0, 1) := by decide +kernel
theorem dX5_tablesOf_36 : decode cX5_tablesOf 36 = .ok (.getfield 13, 3) := by decide +kernel
theorem dX5_tablesOf_39 : decode cX5_tablesOf 39 = .ok (.iload_n 3, 1) := by decide +kernel
theorem dX5_tablesOf_40 : decode cX5_tablesOf 40 = .ok (.iaload, 1) := by decide +kernel
theorem dX5_tablesOf_41 : decode cX5_tablesOf 41 = .ok (.iload_n 1, 1) := by decide +kernel
theorem dX5_tablesOf_42 : decode cX5_tablesOf 42 = .ok (.if_icmp .ne 7, 3) := by decide +kernel
theorem dX5_tablesOf_45 : decode cX5_tablesOf 45 = .ok (.iconst 1, 1) := by decide +kernel
theorem dX5_tablesOf_46 : decode cX5_tablesOf 46 = .ok (.goto 4, 3) := by decide +kernel
theorem dX5_tablesOf_49 : decode cX5_tablesOf 49 = .ok (.iconst 0, 1) := by decide +kernel
theorem dX5_tablesOf_50 : decode cX5_tablesOf 50 = .ok (.iadd, 1) := by decide +kernel
theorem dX5_tablesOf_51 : decode cX5_tablesOf 51 = .ok (.istore_n 2, 1) := by decide +kernel
theorem dX5_tablesOf_52 : decode cX5_tablesOf 52 = .ok (.iinc 3 1, 3) := by decide +kernel
theorem dX5_tablesOf_55 : decode cX5_tablesOf 55 = .ok (.goto (-29), 3) := by decide +kernel
theorem dX5_tablesOf_58 : decode cX5_tablesOf 58 = .ok (.iload_n 2, 1) := by decide +kernel
theorem dX5_tablesOf_59 : decode cX5_tablesOf 59 = .ok (.ireturn, 1) := by decide +kernel
theorem dX5_waiting_0 : decode cX5_waiting 0 = .ok (.aload_n 0, 1) := by decide +kernel
theorem dX5_waiting_1 : decode cX5_waiting 1 = .ok (.iconst 0, 1) := by decide +kernel
theorem dX5_waiting_2 : decode cX5_waiting 2 = .ok (.putfield 79, 3) := by decide +kernel
theorem dX5_waiting_5 : decode cX5_waiting 5 = .ok (.iconst 0, 1) := by decide +kernel
theorem dX5_waiting_6 : decode cX5_waiting 6 = .ok (.istore_n 1, 1) := by decide +kernel
theorem dX5_waiting_7 : decode cX5_waiting 7 = .ok (.iconst 0, 1) := by decide +kernel
theorem dX5_waiting_8 : decode cX5_waiting 8 = .ok (.istore_n 2, 1) := by decide +kernel
theorem dX5_waiting_9 : decode cX5_waiting 9 = .ok (.iload_n 2, 1) := by decide +kernel
theorem dX5_waiting_10 : decode cX5_waiting 10 = .ok (.aload_n 0, 1) := by decide +kernel
theorem dX5_waiting_11 : decode cX5_waiting 11 = .ok (.getfield 93, 3) := by decide +kernel
theorem dX5_waiting_14 : decode cX5_waiting 14 = .ok (.if_icmp .ge 26, 3) := by decide +kernel
theorem dX5_waiting_17 : decode cX5_waiting 17 = .ok (.iload_n 1, 1) := by decide +kernel
theorem dX5_waiting_18 : decode cX5_waiting 18 = .ok (.aload_n 0, 1) := by decide +kernel
theorem dX5_waiting_19 : decode cX5_waiting 19 = .ok (.getfield 22, 3) := by decide +kernel
theorem dX5_waiting_22 : decode cX5_waiting 22 = .ok (.iload_n 2, 1) := by decide +kernel
theorem dX5_waiting_23 : decode cX5_waiting 23 = .ok (.iaload, 1) := by decide +kernel
theorem dX5_waiting_24 : decode cX5_waiting 24 = .ok (.ifCond .ne 7, 3) := by decide +kernel
theorem dX5_waiting_27 : decode cX5_waiting 27 = .ok (.iconst 1, 1) := by decide +kernel
theorem dX5_waiting_28 : decode cX5_waiting 28 = .ok (.goto 4, 3) := by decide +kernel
theorem dX5_waiting_31 : decode cX5_waiting 31 = .ok (.iconst 0, 1) := by decide +kernel
theorem dX5_waiting_32 : decode cX5_waiting 32 = .ok (.iadd, 1) := by decide +kernel
theorem dX5_waiting_33 : decode cX5_waiting 33 = .ok (.istore_n 1, 1) := by decide +kernel
theorem dX5_waiting_34 : decode cX5_waiting 34 = .ok (.iinc 2 1, 3) := by decide +kernel
theorem dX5_waiting_37 : decode cX5_waiting 37 = .ok (.goto (-28), 3) := by decide +kernel
theorem dX5_waiting_40 : decode cX5_waiting 40 = .ok (.iload_n 1, 1) := by decide +kernel
theorem dX5_waiting_41 : decode cX5_waiting 41 = .ok (.ireturn, 1) := by decide +kernel
set_option maxRecDepth 20000 in
theorem ggX5_wasteNow_X5_isIn : GoodIn wsX5_wasteNow wsX5_isIn := goodIn_r _ [6] (by decide +kernel) (by decide +kernel)
set_option maxRecDepth 20000 in
theorem gX5_wasteNow_X5_isIn : GoodIn wsX5_wasteNow (va_wsS RX5 86 yX5_isIn wsX5_isIn) := goodIn_app (goodIn_of _ (by decide +kernel)) ggX5_wasteNow_X5_isIn
set_option maxRecDepth 20000 in
theorem ggX5_wasteNow_X5_isFine : GoodIn wsX5_wasteNow wsX5_isFine := goodIn_r _ [10, 2, 20, 21, 22, 23, 24, 25, 26, 27, 28, 29, 30, 31, 32, 33, 34, 35, 36, 37, 38, 39, 40, 41, 42, 43, 44, 45, 46, 47, 48, 49, 50, 51, 52] (by decide +kernel) (by decide +kernel)
set_option maxRecDepth 20000 in
theorem gX5_wasteNow_X5_isFine : GoodIn wsX5_wasteNow (wsV RX5 99 RX5 yX5_isFine wsX5_isFine) := goodIn_app (goodIn_of _ (by decide +kernel)) ggX5_wasteNow_X5_isFine
set_option maxRecDepth 20000 in
theorem ggX5_wasteNow_X5_finds : GoodIn wsX5_wasteNow wsX5_finds := goodIn_r _ [14, 1, 15, 16, 17, 18, 19, 20, 21, 22, 23, 24, 25, 26, 27, 28, 29, 30, 31, 32, 33, 34, 35, 36, 37, 38, 39, 40, 41, 42, 43, 44, 45, 46, 47, 48, 49, 50, 51, 52] (by decide +kernel) (by decide +kernel)
set_option maxRecDepth 20000 in
theorem gX5_wasteNow_X5_finds : GoodIn wsX5_wasteNow (wsV RX5 121 RX5 yX5_finds wsX5_finds) := goodIn_app (goodIn_of _ (by decide +kernel)) ggX5_wasteNow_X5_finds
theorem dX5_wasteNow_0 : decode cX5_wasteNow 0 = .ok (.aload_n 0, 1) := by decide +kernel
theorem dX5_wasteNow_1 : decode cX5_wasteNow 1 = .ok (.iload_n 1, 1) := by decide +kernel
theorem dX5_wasteNow_2 : decode cX5_wasteNow 2 = .ok (.iconst 1, 1) := by decide +kernel
theorem dX5_wasteNow_3 : decode cX5_wasteNow 3 = .ok (.bipush 12, 2) := by decide +kernel
theorem dX5_wasteNow_5 : decode cX5_wasteNow 5 = .ok (.invokestatic 86, 3) := by decide +kernel
theorem dX5_wasteNow_8 : decode cX5_wasteNow 8 = .ok (.ifCond .eq 7, 3) := by decide +kernel
theorem dX5_wasteNow_11 : decode cX5_wasteNow 11 = .ok (.iconst 0, 1) := by decide +kernel
theorem dX5_wasteNow_12 : decode cX5_wasteNow 12 = .ok (.goto 4, 3) := by decide +kernel
theorem dX5_wasteNow_15 : decode cX5_wasteNow 15 = .ok (.iconst 1, 1) := by decide +kernel
theorem dX5_wasteNow_16 : decode cX5_wasteNow 16 = .ok (.invokevirtual 99, 3) := by decide +kernel
theorem dX5_wasteNow_19 : decode cX5_wasteNow 19 = .ok (.ifCond .eq 18, 3) := by decide +kernel
theorem dX5_wasteNow_22 : decode cX5_wasteNow 22 = .ok (.aload_n 0, 1) := by decide +kernel
theorem dX5_wasteNow_23 : decode cX5_wasteNow 23 = .ok (.iload_n 1, 1) := by decide +kernel
theorem dX5_wasteNow_24 : decode cX5_wasteNow 24 = .ok (.invokevirtual 121, 3) := by decide +kernel
theorem dX5_wasteNow_27 : decode cX5_wasteNow 27 = .ok (.ifCond .eq 10, 3) := by decide +kernel
theorem dX5_wasteNow_30 : decode cX5_wasteNow 30 = .ok (.aload_n 0, 1) := by decide +kernel
theorem dX5_wasteNow_31 : decode cX5_wasteNow 31 = .ok (.getfield 112, 3) := by decide +kernel
theorem dX5_wasteNow_34 : decode cX5_wasteNow 34 = .ok (.goto 15, 3) := by decide +kernel
theorem dX5_wasteNow_37 : decode cX5_wasteNow 37 = .ok (.aload_n 0, 1) := by decide +kernel
theorem dX5_wasteNow_38 : decode cX5_wasteNow 38 = .ok (.getfield 79, 3) := by decide +kernel
theorem dX5_wasteNow_41 : decode cX5_wasteNow 41 = .ok (.ifCond .le 7, 3) := by decide +kernel
theorem dX5_wasteNow_44 : decode cX5_wasteNow 44 = .ok (.iconst 0, 1) := by decide +kernel
theorem dX5_wasteNow_45 : decode cX5_wasteNow 45 = .ok (.goto 4, 3) := by decide +kernel
theorem dX5_wasteNow_48 : decode cX5_wasteNow 48 = .ok (.iconst (-1), 1) := by decide +kernel
theorem dX5_wasteNow_49 : decode cX5_wasteNow 49 = .ok (.ireturn, 1) := by decide +kernel
set_option maxRecDepth 20000 in
theorem ggX5_waste_X5_wasteNow : GoodIn wsX5_waste wsX5_wasteNow := goodIn_r _ [5, 6, 7, 8, 9, 4, 10, 11, 12, 13, 14, 15, 16, 17, 18, 19, 20, 21, 22, 23, 24, 25, 26, 27, 28, 29, 30, 31, 32, 33, 34, 35, 36, 37, 38, 39, 40, 41, 42, 43, 44, 45, 46, 47, 48, 49, 50, 51, 52, 53, 54, 55, 56] (by decide +kernel) (by decide +kernel)
set_option maxRecDepth 20000 in
theorem gX5_waste_X5_wasteNow : GoodIn wsX5_waste (wsV RX5 130 RX5 yX5_wasteNow wsX5_wasteNow) := goodIn_app (goodIn_of _ (by decide +kernel)) ggX5_waste_X5_wasteNow
theorem dX5_waste_0 : decode cX5_waste 0 = .ok (.aload_n 0, 1) := by decide +kernel
theorem dX5_waste_1 : decode cX5_waste 1 = .ok (.iload_n 1, 1) := by decide +kernel
theorem dX5_waste_2 : decode cX5_waste 2 = .ok (.invokevirtual 130, 3) := by decide +kernel
theorem dX5_waste_5 : decode cX5_waste 5 = .ok (.ireturn, 1) := by decide +kernel
set_option maxRecDepth 20000 in
theorem ggX5_wasteByAll_X5_wasteNow : GoodIn wsX5_wasteByAll wsX5_wasteNow := goodIn_r _ [5, 6, 7, 8, 9, 4, 10, 11, 12, 13, 14, 15, 16, 17, 18, 19, 20, 21, 22, 23, 24, 25, 26, 27, 28, 29, 30, 31, 32, 33, 34, 35, 36, 37, 38, 39, 40, 41, 42, 43, 44, 45, 46, 47, 48, 49, 50, 51, 52, 53, 54, 55, 56] (by decide +kernel) (by decide +kernel)
set_option maxRecDepth 20000 in
theorem gX5_wasteByAll_X5_wasteNow : GoodIn wsX5_wasteByAll (wsV RX5 130 RX5 yX5_wasteNow wsX5_wasteNow) := goodIn_app (goodIn_of _ (by decide +kernel)) ggX5_wasteByAll_X5_wasteNow
theorem dX5_wasteByAll_0 : decode cX5_wasteByAll 0 = .ok (.aload_n 0, 1) := by decide +kernel
theorem dX5_wasteByAll_1 : decode cX5_wasteByAll 1 = .ok (.iload_n 1, 1) := by decide +kernel
theorem dX5_wasteByAll_2 : decode cX5_wasteByAll 2 = .ok (.invokevirtual 130, 3) := by decide +kernel
theorem dX5_wasteByAll_5 : decode cX5_wasteByAll 5 = .ok (.ireturn, 1) := by decide +kernel
theorem dX5_leftOf_0 : decode cX5_leftOf 0 = .ok (.aload_n 0, 1) := by decide +kernel
theorem dX5_leftOf_1 : decode cX5_leftOf 1 = .ok (.getfield 25, 3) := by decide +kernel
theorem dX5_leftOf_4 : decode cX5_leftOf 4 = .ok (.iload_n 1, 1) := by decide +kernel
theorem dX5_leftOf_5 : decode cX5_leftOf 5 = .ok (.iaload, 1) := by decide +kernel
theorem dX5_leftOf_6 : decode cX5_leftOf 6 = .ok (.aload_n 0, 1) := by decide +kernel
theorem dX5_leftOf_7 : decode cX5_leftOf 7 = .ok (.getfield 19, 3) := by decide +kernel
theorem dX5_leftOf_10 : decode cX5_leftOf 10 = .ok (.iload_n 1, 1) := by decide +kernel
theorem dX5_leftOf_11 : decode cX5_leftOf 11 = .ok (.iaload, 1) := by decide +kernel
theorem dX5_leftOf_12 : decode cX5_leftOf 12 = .ok (.iadd, 1) := by decide +kernel
theorem dX5_leftOf_13 : decode cX5_leftOf 13 = .ok (.aload_n 0, 1) := by decide +kernel
theorem dX5_leftOf_14 : decode cX5_leftOf 14 = .ok (.getfield 96, 3) := by decide +kernel
theorem dX5_leftOf_17 : decode cX5_leftOf 17 = .ok (.isub, 1) := by decide +kernel
theorem dX5_leftOf_18 : decode cX5_leftOf 18 = .ok (.istore_n 2, 1) := by decide +kernel
theorem dX5_leftOf_19 : decode cX5_leftOf 19 = .ok (.iload_n 2, 1) := by decide +kernel
theorem dX5_leftOf_20 : decode cX5_leftOf 20 = .ok (.ifCond .ge 7, 3) := by decide +kernel
theorem dX5_leftOf_23 : decode cX5_leftOf 23 = .ok (.iconst 0, 1) := by decide +kernel
theorem dX5_leftOf_24 : decode cX5_leftOf 24 = .ok (.goto 4, 3) := by decide +kernel
theorem dX5_leftOf_27 : decode cX5_leftOf 27 = .ok (.iload_n 2, 1) := by decide +kernel
theorem dX5_leftOf_28 : decode cX5_leftOf 28 = .ok (.ireturn, 1) := by decide +kernel
set_option maxRecDepth 20000 in
theorem ggX5_left_X5_isGroup : GoodIn wsX5_left wsX5_isGroup := goodIn_r _ [6, 7, 8, 9, 5, 10, 23, 24, 25, 26, 27, 28, 29, 30, 31, 32, 33, 34, 35, 36, 37, 38, 39, 40, 41, 42, 43, 44, 45, 46, 47, 48, 49, 50, 51, 52, 53, 54, 55] (by decide +kernel) (by decide +kernel)
set_option maxRecDepth 20000 in
theorem gX5_left_X5_isGroup : GoodIn wsX5_left (wsV RX5 127 RX5 yX5_isGroup wsX5_isGroup) := goodIn_app (goodIn_of _ (by decide +kernel)) ggX5_left_X5_isGroup
set_option maxRecDepth 20000 in
theorem ggX5_left_X5_isFine : GoodIn wsX5_left wsX5_isFine := goodIn_r _ [14, 15, 23, 24, 25, 26, 27, 28, 29, 30, 31, 32, 33, 34, 35, 36, 37, 38, 39, 40, 41, 42, 43, 44, 45, 46, 47, 48, 49, 50, 51, 52, 53, 54, 55] (by decide +kernel) (by decide +kernel)
set_option maxRecDepth 20000 in
theorem gX5_left_X5_isFine : GoodIn wsX5_left (wsV RX5 99 RX5 yX5_isFine wsX5_isFine) := goodIn_app (goodIn_of _ (by decide +kernel)) ggX5_left_X5_isFine
set_option maxRecDepth 20000 in
theorem ggX5_left_X5_leftOf : GoodIn wsX5_left wsX5_leftOf := goodIn_r _ [19, 20, 21, 22, 23, 24, 25, 26, 27, 28, 29, 30, 31, 32, 33, 34, 35, 36, 37, 38, 39, 40, 41, 42, 43, 44, 45, 46, 47, 48, 49, 50, 51, 52, 53, 54, 55] (by decide +kernel) (by decide +kernel)
set_option maxRecDepth 20000 in
theorem gX5_left_X5_leftOf : GoodIn wsX5_left (wsV RX5 134 RX5 yX5_leftOf wsX5_leftOf) := goodIn_app (goodIn_of _ (by decide +kernel)) ggX5_left_X5_leftOf
theorem dX5_left_0 : decode cX5_left 0 = .ok (.aload_n 0, 1) := by decide +kernel
theorem dX5_left_1 : decode cX5_left 1 = .ok (.iload_n 1, 1) := by decide +kernel
theorem dX5_left_2 : decode cX5_left 2 = .ok (.invokevirtual 127, 3) := by decide +kernel
theorem dX5_left_5 : decode cX5_left 5 = .ok (.istore_n 2, 1) := by decide +kernel
theorem dX5_left_6 : decode cX5_left 6 = .ok (.aload_n 0, 1) := by decide +kernel
theorem dX5_left_7 : decode cX5_left 7 = .ok (.iload_n 2, 1) := by decide +kernel
theorem dX5_left_8 : decode cX5_left 8 = .ok (.ifCond .ne 7, 3) := by decide +kernel
theorem dX5_left_11 : decode cX5_left 11 = .ok (.iconst 1, 1) := by decide +kernel
theorem dX5_left_12 : decode cX5_left 12 = .ok (.goto 18, 3) := by decide +kernel
theorem dX5_left_15 : decode cX5_left 15 = .ok (.aload_n 0, 1) := by decide +kernel
theorem dX5_left_16 : decode cX5_left 16 = .ok (.getfield 22, 3) := by decide +kernel
theorem dX5_left_19 : decode cX5_left 19 = .ok (.iload_n 1, 1) := by decide +kernel
theorem dX5_left_20 : decode cX5_left 20 = .ok (.iaload, 1) := by decide +kernel
theorem dX5_left_21 : decode cX5_left 21 = .ok (.iconst 1, 1) := by decide +kernel
theorem dX5_left_22 : decode cX5_left 22 = .ok (.if_icmp .eq 7, 3) := by decide +kernel
theorem dX5_left_25 : decode cX5_left 25 = .ok (.iconst 2, 1) := by decide +kernel
theorem dX5_left_26 : decode cX5_left 26 = .ok (.goto 4, 3) := by decide +kernel
theorem dX5_left_29 : decode cX5_left 29 = .ok (.iconst 0, 1) := by decide +kernel
theorem dX5_left_30 : decode cX5_left 30 = .ok (.invokevirtual 99, 3) := by decide +kernel
theorem dX5_left_33 : decode cX5_left 33 = .ok (.ifCond .eq 11, 3) := by decide +kernel
theorem dX5_left_36 : decode cX5_left 36 = .ok (.aload_n 0, 1) := by decide +kernel
theorem dX5_left_37 : decode cX5_left 37 = .ok (.iload_n 1, 1) := by decide +kernel
theorem dX5_left_38 : decode cX5_left 38 = .ok (.invokevirtual 134, 3) := by decide +kernel
theorem dX5_left_41 : decode cX5_left 41 = .ok (.goto 4, 3) := by decide +kernel
theorem dX5_left_44 : decode cX5_left 44 = .ok (.iconst 0, 1) := by decide +kernel
theorem dX5_left_45 : decode cX5_left 45 = .ok (.ireturn, 1) := by decide +kernel
theorem dX5_makes_0 : decode cX5_makes 0 = .ok (.iconst 0, 1) := by decide +kernel
theorem dX5_makes_1 : decode cX5_makes 1 = .ok (.istore_n 2, 1) := by decide +kernel
theorem dX5_makes_2 : decode cX5_makes 2 = .ok (.iconst 0, 1) := by decide +kernel
theorem dX5_makes_3 : decode cX5_makes 3 = .ok (.istore_n 3, 1) := by decide +kernel
theorem dX5_makes_4 : decode cX5_makes 4 = .ok (.iload_n 3, 1) := by decide +kernel
theorem dX5_makes_5 : decode cX5_makes 5 = .ok (.iconst 4, 1) := by decide +kernel
theorem dX5_makes_6 : decode cX5_makes 6 = .ok (.if_icmp .ge 161, 3) := by decide +kernel
theorem dX5_makes_9 : decode cX5_makes 9 = .ok (.aload_n 0, 1) := by decide +kernel
theorem dX5_makes_10 : decode cX5_makes 10 = .ok (.getfield 40, 3) := by decide +kernel
theorem dX5_makes_13 : decode cX5_makes 13 = .ok (.iconst 4, 1) := by decide +kernel
theorem dX5_makes_14 : decode cX5_makes 14 = .ok (.aload_n 0, 1) := by decide +kernel
theorem dX5_makes_15 : decode cX5_makes 15 = .ok (.getfield 43, 3) := by decide +kernel
theorem dX5_makes_18 : decode cX5_makes 18 = .ok (.iload_n 1, 1) := by decide +kernel
theorem dX5_makes_19 : decode cX5_makes 19 = .ok (.iaload, 1) := by decide +kernel
theorem dX5_makes_20 : decode cX5_makes 20 = .ok (.imul, 1) := by decide +kernel
theorem dX5_makes_21 : decode cX5_makes 21 = .ok (.iload_n 3, 1) := by decide +kernel
theorem dX5_makes_22 : decode cX5_makes 22 = .ok (.iadd, 1) := by decide +kernel
theorem dX5_makes_23 : decode cX5_makes 23 = .ok (.iaload, 1) := by decide +kernel
theorem dX5_makes_24 : decode cX5_makes 24 = .ok (.aload_n 0, 1) := by decide +kernel
theorem dX5_makes_25 : decode cX5_makes 25 = .ok (.getfield 49, 3) := by decide +kernel
theorem dX5_makes_28 : decode cX5_makes 28 = .ok (.iconst 4, 1) := by decide +kernel
theorem dX5_makes_29 : decode cX5_makes 29 = .ok (.iload_n 1, 1) := by decide +kernel
theorem dX5_makes_30 : decode cX5_makes 30 = .ok (.imul, 1) := by decide +kernel
theorem dX5_makes_31 : decode cX5_makes 31 = .ok (.iload_n 3, 1) := by decide +kernel
theorem dX5_makes_32 : decode cX5_makes 32 = .ok (.iadd, 1) := by decide +kernel
theorem dX5_makes_33 : decode cX5_makes 33 = .ok (.iaload, 1) := by decide +kernel
theorem dX5_makes_34 : decode cX5_makes 34 = .ok (.isub, 1) := by decide +kernel
theorem dX5_makes_35 : decode cX5_makes 35 = .ok (.istore 4, 2) := by decide +kernel
theorem dX5_makes_37 : decode cX5_makes 37 = .ok (.iconst 0, 1) := by decide +kernel
theorem dX5_makes_38 : decode cX5_makes 38 = .ok (.istore 5, 2) := by decide +kernel
theorem dX5_makes_40 : decode cX5_makes 40 = .ok (.iload 5, 2) := by decide +kernel
theorem dX5_makes_42 : decode cX5_makes 42 = .ok (.aload_n 0, 1) := by decide +kernel
theorem dX5_makes_43 : decode cX5_makes 43 = .ok (.getfield 90, 3) := by decide +kernel
theorem dX5_makes_46 : decode cX5_makes 46 = .ok (.if_icmp .ge 108, 3) := by decide +kernel
theorem dX5_makes_49 : decode cX5_makes 49 = .ok (.iload 4, 2) := by decide +kernel
theorem dX5_makes_51 : decode cX5_makes 51 = .ok (.ifCond .le 103, 3) := by decide +kernel
theorem dX5_makes_54 : decode cX5_makes 54 = .ok (.iload 5, 2) := by decide +kernel
theorem dX5_makes_56 : decode cX5_makes 56 = .ok (.iload_n 1, 1) := by decide +kernel
theorem dX5_makes_57 : decode cX5_makes 57 = .ok (.if_icmp .eq 47, 3) := by decide +kernel
theorem dX5_makes_60 : decode cX5_makes 60 = .ok (.aload_n 0, 1) := by decide +kernel
theorem dX5_makes_61 : decode cX5_makes 61 = .ok (.getfield 43, 3) := by decide +kernel
theorem dX5_makes_64 : decode cX5_makes 64 = .ok (.iload 5, 2) := by decide +kernel
theorem dX5_makes_66 : decode cX5_makes 66 = .ok (.iaload, 1) := by decide +kernel
theorem dX5_makes_67 : decode cX5_makes 67 = .ok (.aload_n 0, 1) := by decide +kernel
theorem dX5_makes_68 : decode cX5_makes 68 = .ok (.getfield 43, 3) := by decide +kernel
theorem dX5_makes_71 : decode cX5_makes 71 = .ok (.iload_n 1, 1) := by decide +kernel
theorem dX5_makes_72 : decode cX5_makes 72 = .ok (.iaload, 1) := by decide +kernel
theorem dX5_makes_73 : decode cX5_makes 73 = .ok (.if_icmp .ne 31, 3) := by decide +kernel
theorem dX5_makes_76 : decode cX5_makes 76 = .ok (.aload_n 0, 1) := by decide +kernel
theorem dX5_makes_77 : decode cX5_makes 77 = .ok (.getfield 46, 3) := by decide +kernel
theorem dX5_makes_80 : decode cX5_makes 80 = .ok (.iload 5, 2) := by decide +kernel
theorem dX5_makes_82 : decode cX5_makes 82 = .ok (.iaload, 1) := by decide +kernel
theorem dX5_makes_83 : decode cX5_makes 83 = .ok (.ifCond .ne 21, 3) := by decide +kernel
theorem dX5_makes_86 : decode cX5_makes 86 = .ok (.aload_n 0, 1) := by decide +kernel
theorem dX5_makes_87 : decode cX5_makes 87 = .ok (.getfield 49, 3) := by decide +kernel
theorem dX5_makes_90 : decode cX5_makes 90 = .ok (.iconst 4, 1) := by decide +kernel
theorem dX5_makes_91 : decode cX5_makes 91 = .ok (.iload 5, 2) := by decide +kernel
theorem dX5_makes_93 : decode cX5_makes 93 = .ok (.imul, 1) := by decide +kernel
theorem dX5_makes_94 : decode cX5_makes 94 = .ok (.iload_n 3, 1) := by decide +kernel
theorem dX5_makes_95 : decode cX5_makes 95 = .ok (.iadd, 1) := by decide +kernel
theorem dX5_makes_96 : decode cX5_makes 96 = .ok (.iaload, 1) := by decide +kernel
theorem dX5_makes_97 : decode cX5_makes 97 = .ok (.ifCond .le 7, 3) := by decide +kernel
theorem dX5_makes_100 : decode cX5_makes 100 = .ok (.iconst 1, 1) := by decide +kernel
theorem dX5_makes_101 : decode cX5_makes 101 = .ok (.goto 4, 3) := by decide +kernel
theorem dX5_makes_104 : decode cX5_makes 104 = .ok (.iconst 0, 1) := by decide +kernel
theorem dX5_makes_105 : decode cX5_makes 105 = .ok (.istore 6, 2) := by decide +kernel
theorem dX5_makes_107 : decode cX5_makes 107 = .ok (.iload 4, 2) := by decide +kernel
theorem dX5_makes_109 : decode cX5_makes 109 = .ok (.iload 6, 2) := by decide +kernel
theorem dX5_makes_111 : decode cX5_makes 111 = .ok (.ifCond .eq 17, 3) := by decide +kernel
theorem dX5_makes_114 : decode cX5_makes 114 = .ok (.aload_n 0, 1) := by decide +kernel
theorem dX5_makes_115 : decode cX5_makes 115 = .ok (.getfield 49, 3) := by decide +kernel
theorem dX5_makes_118 : decode cX5_makes 118 = .ok (.iconst 4, 1) := by decide +kernel
theorem dX5_makes_119 : decode cX5_makes 119 = .ok (.iload 5, 2) := by decide +kernel
theorem dX5_makes_121 : decode cX5_makes 121 = .ok (.imul, 1) := by decide +kernel
theorem dX5_makes_122 : decode cX5_makes 122 = .ok (.iload_n 3, 1) := by decide +kernel
theorem dX5_makes_123 : decode cX5_makes 123 = .ok (.iadd, 1) := by decide +kernel
theorem dX5_makes_124 : decode cX5_makes 124 = .ok (.iaload, 1) := by decide +kernel
theorem dX5_makes_125 : decode cX5_makes 125 = .ok (.goto 4, 3) := by decide +kernel
theorem dX5_makes_128 : decode cX5_makes 128 = .ok (.iconst 0, 1) := by decide +kernel
theorem dX5_makes_129 : decode cX5_makes 129 = .ok (.isub, 1) := by decide +kernel
theorem dX5_makes_130 : decode cX5_makes 130 = .ok (.istore 4, 2) := by decide +kernel
theorem dX5_makes_132 : decode cX5_makes 132 = .ok (.iload_n 2, 1) := by decide +kernel
theorem dX5_makes_133 : decode cX5_makes 133 = .ok (.iload 6, 2) := by decide +kernel
theorem dX5_makes_135 : decode cX5_makes 135 = .ok (.ifCond .eq 10, 3) := by decide +kernel
theorem dX5_makes_138 : decode cX5_makes 138 = .ok (.iconst 1, 1) := by decide +kernel
theorem dX5_makes_139 : decode cX5_makes 139 = .ok (.iload 5, 2) := by decide +kernel
theorem dX5_makes_141 : decode cX5_makes 141 = .ok (.ishl, 1) := by decide +kernel
theorem dX5_makes_142 : decode cX5_makes 142 = .ok (.goto 4, 3) := by decide +kernel
theorem dX5_makes_145 : decode cX5_makes 145 = .ok (.iconst 0, 1) := by decide +kernel
theorem dX5_makes_146 : decode cX5_makes 146 = .ok (.ior, 1) := by decide +kernel
theorem dX5_makes_147 : decode cX5_makes 147 = .ok (.istore_n 2, 1) := by decide +kernel
theorem dX5_makes_148 : decode cX5_makes 148 = .ok (.iinc 5 1, 3) := by decide +kernel
theorem dX5_makes_151 : decode cX5_makes 151 = .ok (.goto (-111), 3) := by decide +kernel
theorem dX5_makes_154 : decode cX5_makes 154 = .ok (.iload 4, 2) := by decide +kernel
theorem dX5_makes_156 : decode cX5_makes 156 = .ok (.ifCond .le 5, 3) := by decide +kernel
theorem dX5_makes_159 : decode cX5_makes 159 = .ok (.iconst (-1), 1) := by decide +kernel
theorem dX5_makes_160 : decode cX5_makes 160 = .ok (.ireturn, 1) := by decide +kernel
theorem dX5_makes_161 : decode cX5_makes 161 = .ok (.iinc 3 1, 3) := by decide +kernel
theorem dX5_makes_164 : decode cX5_makes 164 = .ok (.goto (-160), 3) := by decide +kernel
theorem dX5_makes_167 : decode cX5_makes 167 = .ok (.iload_n 2, 1) := by decide +kernel
theorem dX5_makes_168 : decode cX5_makes 168 = .ok (.ireturn, 1) := by decide +kernel
theorem dX5_count_0 : decode cX5_count 0 = .ok (.iconst 0, 1) := by decide +kernel
theorem dX5_count_1 : decode cX5_count 1 = .ok (.istore_n 1, 1) := by decide +kernel
theorem dX5_count_2 : decode cX5_count 2 = .ok (.iconst 0, 1) := by decide +kernel
theorem dX5_count_3 : decode cX5_count 3 = .ok (.istore_n 2, 1) := by decide +kernel
theorem dX5_count_4 : decode cX5_count 4 = .ok (.iload_n 2, 1) := by decide +kernel
theorem dX5_count_5 : decode cX5_count 5 = .ok (.bipush 16, 2) := by decide +kernel
theorem dX5_count_7 : decode cX5_count 7 = .ok (.if_icmp .ge 17, 3) := by decide +kernel
theorem dX5_count_10 : decode cX5_count 10 = .ok (.iload_n 1, 1) := by decide +kernel
theorem dX5_count_11 : decode cX5_count 11 = .ok (.iload_n 0, 1) := by decide +kernel
theorem dX5_count_12 : decode cX5_count 12 = .ok (.iload_n 2, 1) := by decide +kernel
theorem dX5_count_13 : decode cX5_count 13 = .ok (.ishr, 1) := by decide +kernel
theorem dX5_count_14 : decode cX5_count 14 = .ok (.iconst 1, 1) := by decide +kernel
theorem dX5_count_15 : decode cX5_count 15 = .ok (.iand, 1) := by decide +kernel
theorem dX5_count_16 : decode cX5_count 16 = .ok (.iadd, 1) := by decide +kernel
theorem dX5_count_17 : decode cX5_count 17 = .ok (.istore_n 1, 1) := by decide +kernel
theorem dX5_count_18 : decode cX5_count 18 = .ok (.iinc 2 1, 3) := by decide +kernel
theorem dX5_count_21 : decode cX5_count 21 = .ok (.goto (-17), 3) := by decide +kernel
theorem dX5_count_24 : decode cX5_count 24 = .ok (.iload_n 1, 1) := by decide +kernel
theorem dX5_count_25 : decode cX5_count 25 = .ok (.ireturn, 1) := by decide +kernel
set_option maxRecDepth 20000 in
theorem ggX5_lendersOf_X5_makes : GoodIn wsX5_lendersOf wsX5_makes := goodIn_r _ [6, 7, 8, 9, 10, 1, 14, 15, 16, 17, 18, 19, 20, 21, 22, 23, 24, 25, 26, 27, 28, 29, 30, 31, 32, 33, 34, 35, 36, 37, 38, 39, 40, 41, 42, 43, 44, 45, 46] (by decide +kernel) (by decide +kernel)
set_option maxRecDepth 20000 in
theorem gX5_lendersOf_X5_makes : GoodIn wsX5_lendersOf (wsV RX5 137 RX5 yX5_makes wsX5_makes) := goodIn_app (goodIn_of _ (by decide +kernel)) ggX5_lendersOf_X5_makes
set_option maxRecDepth 20000 in
theorem ggX5_lendersOf_X5_count : GoodIn wsX5_lendersOf wsX5_count := goodIn_r _ [13] (by decide +kernel) (by decide +kernel)
set_option maxRecDepth 20000 in
theorem gX5_lendersOf_X5_count : GoodIn wsX5_lendersOf (va_wsS RX5 140 yX5_count wsX5_count) := goodIn_app (goodIn_of _ (by decide +kernel)) ggX5_lendersOf_X5_count
theorem dX5_lendersOf_0 : decode cX5_lendersOf 0 = .ok (.aload_n 0, 1) := by decide +kernel
theorem dX5_lendersOf_1 : decode cX5_lendersOf 1 = .ok (.getfield 46, 3) := by decide +kernel
theorem dX5_lendersOf_4 : decode cX5_lendersOf 4 = .ok (.iload_n 1, 1) := by decide +kernel
theorem dX5_lendersOf_5 : decode cX5_lendersOf 5 = .ok (.iaload, 1) := by decide +kernel
theorem dX5_lendersOf_6 : decode cX5_lendersOf 6 = .ok (.ifCond .ne 11, 3) := by decide +kernel
