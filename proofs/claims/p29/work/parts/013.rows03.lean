theorem dX4_isOffered_15 : decode cX4_isOffered 15 = .ok (.iload_n 1, 1) := by decide +kernel
theorem dX4_isOffered_16 : decode cX4_isOffered 16 = .ok (.invokevirtual 83, 3) := by decide +kernel
theorem dX4_isOffered_19 : decode cX4_isOffered 19 = .ok (.iconst (-1), 1) := by decide +kernel
theorem dX4_isOffered_20 : decode cX4_isOffered 20 = .ok (.if_icmp .ne 49, 3) := by decide +kernel
theorem dX4_isOffered_23 : decode cX4_isOffered 23 = .ok (.aload_n 0, 1) := by decide +kernel
theorem dX4_isOffered_24 : decode cX4_isOffered 24 = .ok (.getfield 19, 3) := by decide +kernel
theorem dX4_isOffered_27 : decode cX4_isOffered 27 = .ok (.iload_n 2, 1) := by decide +kernel
theorem dX4_isOffered_28 : decode cX4_isOffered 28 = .ok (.aload_n 0, 1) := by decide +kernel
theorem dX4_isOffered_29 : decode cX4_isOffered 29 = .ok (.getfield 10, 3) := by decide +kernel
theorem dX4_isOffered_32 : decode cX4_isOffered 32 = .ok (.getfield 169, 3) := by decide +kernel
theorem dX4_isOffered_35 : decode cX4_isOffered 35 = .ok (.iload_n 1, 1) := by decide +kernel
theorem dX4_isOffered_36 : decode cX4_isOffered 36 = .ok (.invokevirtual 173, 3) := by decide +kernel
theorem dX4_isOffered_39 : decode cX4_isOffered 39 = .ok (.aload_n 0, 1) := by decide +kernel
theorem dX4_isOffered_40 : decode cX4_isOffered 40 = .ok (.getfield 10, 3) := by decide +kernel
theorem dX4_isOffered_43 : decode cX4_isOffered 43 = .ok (.iload_n 1, 1) := by decide +kernel
theorem dX4_isOffered_44 : decode cX4_isOffered 44 = .ok (.invokevirtual 112, 3) := by decide +kernel
theorem dX4_isOffered_47 : decode cX4_isOffered 47 = .ok (.invokevirtual 178, 3) := by decide +kernel
theorem dX4_isOffered_50 : decode cX4_isOffered 50 = .ok (.ifCond .eq 19, 3) := by decide +kernel
theorem dX4_isOffered_53 : decode cX4_isOffered 53 = .ok (.aload_n 0, 1) := by decide +kernel
theorem dX4_isOffered_54 : decode cX4_isOffered 54 = .ok (.getfield 19, 3) := by decide +kernel
theorem dX4_isOffered_57 : decode cX4_isOffered 57 = .ok (.iload_n 2, 1) := by decide +kernel
theorem dX4_isOffered_58 : decode cX4_isOffered 58 = .ok (.invokevirtual 130, 3) := by decide +kernel
theorem dX4_isOffered_61 : decode cX4_isOffered 61 = .ok (.iconst (-1), 1) := by decide +kernel
theorem dX4_isOffered_62 : decode cX4_isOffered 62 = .ok (.if_icmp .eq 7, 3) := by decide +kernel
theorem dX4_isOffered_65 : decode cX4_isOffered 65 = .ok (.iconst 1, 1) := by decide +kernel
theorem dX4_isOffered_66 : decode cX4_isOffered 66 = .ok (.goto 4, 3) := by decide +kernel
theorem dX4_isOffered_69 : decode cX4_isOffered 69 = .ok (.iconst 0, 1) := by decide +kernel
theorem dX4_isOffered_70 : decode cX4_isOffered 70 = .ok (.ireturn, 1) := by decide +kernel
set_option maxRecDepth 20000 in
theorem ggX4_offeredTitles_X4_isOffered : GoodIn wsX4_offeredTitles wsX4_isOffered := goodIn_r _ [6, 7, 1, 8, 9, 10, 11, 12, 13, 14, 15, 16, 17, 18, 19, 20, 21, 22, 23, 24, 25, 26, 27, 28, 29, 30, 31, 32, 33, 34, 35, 36, 37, 38, 39, 40, 41, 42, 43, 44, 45, 46, 47, 48, 49, 50, 51, 52, 53, 54, 55, 56, 57, 58, 59, 60, 61, 62, 63, 64, 65, 66, 67, 68, 69, 70, 71, 72, 73, 74, 75, 76, 77, 78, 79, 80, 81, 82, 83, 84, 85, 86, 98, 99, 100, 101, 102, 103, 104, 105, 106, 107, 87, 88, 89, 90, 91, 92, 93, 94, 95, 96, 97] (by decide +kernel) (by decide +kernel)
set_option maxRecDepth 20000 in
theorem gX4_offeredTitles_X4_isOffered : GoodIn wsX4_offeredTitles (wsV RX4 126 RX4 yX4_isOffered wsX4_isOffered) := goodIn_app (goodIn_of _ (by decide +kernel)) ggX4_offeredTitles_X4_isOffered
theorem dX4_offeredTitles_0 : decode cX4_offeredTitles 0 = .ok (.iconst 0, 1) := by decide +kernel
theorem dX4_offeredTitles_1 : decode cX4_offeredTitles 1 = .ok (.istore_n 2, 1) := by decide +kernel
theorem dX4_offeredTitles_2 : decode cX4_offeredTitles 2 = .ok (.iconst 0, 1) := by decide +kernel
theorem dX4_offeredTitles_3 : decode cX4_offeredTitles 3 = .ok (.istore_n 3, 1) := by decide +kernel
theorem dX4_offeredTitles_4 : decode cX4_offeredTitles 4 = .ok (.iload_n 3, 1) := by decide +kernel
theorem dX4_offeredTitles_5 : decode cX4_offeredTitles 5 = .ok (.aload_n 0, 1) := by decide +kernel
theorem dX4_offeredTitles_6 : decode cX4_offeredTitles 6 = .ok (.getfield 19, 3) := by decide +kernel
theorem dX4_offeredTitles_9 : decode cX4_offeredTitles 9 = .ok (.getfield 49, 3) := by decide +kernel
theorem dX4_offeredTitles_12 : decode cX4_offeredTitles 12 = .ok (.if_icmp .ge 24, 3) := by decide +kernel
theorem dX4_offeredTitles_15 : decode cX4_offeredTitles 15 = .ok (.aload_n 0, 1) := by decide +kernel
theorem dX4_offeredTitles_16 : decode cX4_offeredTitles 16 = .ok (.iload_n 1, 1) := by decide +kernel
theorem dX4_offeredTitles_17 : decode cX4_offeredTitles 17 = .ok (.iload_n 3, 1) := by decide +kernel
theorem dX4_offeredTitles_18 : decode cX4_offeredTitles 18 = .ok (.invokevirtual 126, 3) := by decide +kernel
theorem dX4_offeredTitles_21 : decode cX4_offeredTitles 21 = .ok (.ifCond .eq 9, 3) := by decide +kernel
theorem dX4_offeredTitles_24 : decode cX4_offeredTitles 24 = .ok (.iload_n 2, 1) := by decide +kernel
theorem dX4_offeredTitles_25 : decode cX4_offeredTitles 25 = .ok (.iconst 1, 1) := by decide +kernel
theorem dX4_offeredTitles_26 : decode cX4_offeredTitles 26 = .ok (.iload_n 3, 1) := by decide +kernel
theorem dX4_offeredTitles_27 : decode cX4_offeredTitles 27 = .ok (.ishl, 1) := by decide +kernel
theorem dX4_offeredTitles_28 : decode cX4_offeredTitles 28 = .ok (.ior, 1) := by decide +kernel
theorem dX4_offeredTitles_29 : decode cX4_offeredTitles 29 = .ok (.istore_n 2, 1) := by decide +kernel
theorem dX4_offeredTitles_30 : decode cX4_offeredTitles 30 = .ok (.iinc 3 1, 3) := by decide +kernel
theorem dX4_offeredTitles_33 : decode cX4_offeredTitles 33 = .ok (.goto (-29), 3) := by decide +kernel
theorem dX4_offeredTitles_36 : decode cX4_offeredTitles 36 = .ok (.iload_n 2, 1) := by decide +kernel
theorem dX4_offeredTitles_37 : decode cX4_offeredTitles 37 = .ok (.ireturn, 1) := by decide +kernel
set_option maxRecDepth 20000 in
theorem ggX4_playedBy_X3_heldBy : GoodIn wsX4_playedBy wsX3_heldBy := goodIn_r _ [6, 7, 8, 9, 10, 11, 12, 13, 14, 19, 20, 21, 22, 23, 24, 25, 26, 27, 28, 29, 30] (by decide +kernel) (by decide +kernel)
set_option maxRecDepth 20000 in
theorem gX4_playedBy_X3_heldBy : GoodIn wsX4_playedBy (wsV RX4 83 RX3 yX3_heldBy wsX3_heldBy) := goodIn_app (goodIn_of _ (by decide +kernel)) ggX4_playedBy_X3_heldBy
set_option maxRecDepth 20000 in
theorem ggX4_playedBy_X2_at : GoodIn wsX4_playedBy wsX2_at := goodIn_r _ [13, 14, 30] (by decide +kernel) (by decide +kernel)
set_option maxRecDepth 20000 in
theorem gX4_playedBy_X2_at : GoodIn wsX4_playedBy (wsV RX4 173 RX2 yX2_at wsX2_at) := goodIn_app (goodIn_of _ (by decide +kernel)) ggX4_playedBy_X2_at
theorem dX4_playedBy_0 : decode cX4_playedBy 0 = .ok (.aload_n 0, 1) := by decide +kernel
theorem dX4_playedBy_1 : decode cX4_playedBy 1 = .ok (.getfield 19, 3) := by decide +kernel
theorem dX4_playedBy_4 : decode cX4_playedBy 4 = .ok (.getfield 182, 3) := by decide +kernel
theorem dX4_playedBy_7 : decode cX4_playedBy 7 = .ok (.aload_n 0, 1) := by decide +kernel
theorem dX4_playedBy_8 : decode cX4_playedBy 8 = .ok (.getfield 19, 3) := by decide +kernel
theorem dX4_playedBy_11 : decode cX4_playedBy 11 = .ok (.iload_n 1, 1) := by decide +kernel
theorem dX4_playedBy_12 : decode cX4_playedBy 12 = .ok (.invokevirtual 83, 3) := by decide +kernel
theorem dX4_playedBy_15 : decode cX4_playedBy 15 = .ok (.invokevirtual 173, 3) := by decide +kernel
theorem dX4_playedBy_18 : decode cX4_playedBy 18 = .ok (.ireturn, 1) := by decide +kernel
set_option maxRecDepth 20000 in
theorem ggX4_holdingFor_X3_heldBy : GoodIn wsX4_holdingFor wsX3_heldBy := goodIn_r _ [8, 9, 10, 11, 12, 13, 14, 15, 16, 65, 66, 67, 68, 69, 70, 71, 72, 73, 74, 75, 76] (by decide +kernel) (by decide +kernel)
set_option maxRecDepth 20000 in
theorem gX4_holdingFor_X3_heldBy : GoodIn wsX4_holdingFor (wsV RX4 83 RX3 yX3_heldBy wsX3_heldBy) := goodIn_app (goodIn_of _ (by decide +kernel)) ggX4_holdingFor_X3_heldBy
set_option maxRecDepth 20000 in
theorem ggX4_holdingFor_X3_piecesLentTo : GoodIn wsX4_holdingFor wsX3_piecesLentTo := goodIn_r _ [20, 9, 21, 22, 11, 12, 13, 14, 15, 16, 65, 66, 67, 68, 69, 70, 71, 72, 73, 74, 75, 76] (by decide +kernel) (by decide +kernel)
set_option maxRecDepth 20000 in
theorem gX4_holdingFor_X3_piecesLentTo : GoodIn wsX4_holdingFor (wsV RX4 185 RX3 yX3_piecesLentTo wsX3_piecesLentTo) := goodIn_app (goodIn_of _ (by decide +kernel)) ggX4_holdingFor_X3_piecesLentTo
set_option maxRecDepth 20000 in
theorem ggX4_holdingFor_X4_playedBy : GoodIn wsX4_holdingFor wsX4_playedBy := goodIn_r _ [27, 1, 4, 5, 6, 7, 8, 9, 10, 11, 12, 13, 14, 15, 16, 28, 53, 54, 55, 65, 66, 67, 68, 69, 70, 71, 72, 73, 74, 75, 76] (by decide +kernel) (by decide +kernel)
set_option maxRecDepth 20000 in
theorem gX4_holdingFor_X4_playedBy : GoodIn wsX4_holdingFor (wsV RX4 154 RX4 yX4_playedBy wsX4_playedBy) := goodIn_app (goodIn_of _ (by decide +kernel)) ggX4_holdingFor_X4_playedBy
set_option maxRecDepth 20000 in
theorem ggX4_holdingFor_X2_at : GoodIn wsX4_holdingFor wsX2_at := goodIn_r _ [15, 16, 76] (by decide +kernel) (by decide +kernel)
set_option maxRecDepth 20000 in
theorem gX4_holdingFor_X2_at : GoodIn wsX4_holdingFor (wsV RX4 173 RX2 yX2_at wsX2_at) := goodIn_app (goodIn_of _ (by decide +kernel)) ggX4_holdingFor_X2_at
set_option maxRecDepth 20000 in
theorem ggX4_holdingFor_X0_minutesLeft : GoodIn wsX4_holdingFor wsX0_minutesLeft := goodIn_r _ [33, 34, 35, 36, 37, 38, 39, 40, 12, 13, 14, 15, 16, 56, 57, 58, 59, 60, 61, 62, 63, 64, 76] (by decide +kernel) (by decide +kernel)
set_option maxRecDepth 20000 in
theorem gX4_holdingFor_X0_minutesLeft : GoodIn wsX4_holdingFor (wsV RX4 112 RX0 yX0_minutesLeft wsX0_minutesLeft) := goodIn_app (goodIn_of _ (by decide +kernel)) ggX4_holdingFor_X0_minutesLeft
set_option maxRecDepth 20000 in
theorem ggX4_holdingFor_X1_holding : GoodIn wsX4_holdingFor wsX1_holding := goodIn_r _ [45, 46, 47, 48, 49, 12, 13, 14, 15, 16, 50, 51, 44, 52, 77, 78, 79, 80, 81, 76] (by decide +kernel) (by decide +kernel)
set_option maxRecDepth 20000 in
theorem gX4_holdingFor_X1_holding : GoodIn wsX4_holdingFor (wsV RX4 188 RX1 yX1_holding wsX1_holding) := goodIn_app (goodIn_of _ (by decide +kernel)) ggX4_holdingFor_X1_holding
theorem dX4_holdingFor_0 : decode cX4_holdingFor 0 = .ok (.aload_n 0, 1) := by decide +kernel
theorem dX4_holdingFor_1 : decode cX4_holdingFor 1 = .ok (.getfield 19, 3) := by decide +kernel
theorem dX4_holdingFor_4 : decode cX4_holdingFor 4 = .ok (.aload_n 0, 1) := by decide +kernel
theorem dX4_holdingFor_5 : decode cX4_holdingFor 5 = .ok (.getfield 19, 3) := by decide +kernel
theorem dX4_holdingFor_8 : decode cX4_holdingFor 8 = .ok (.iload_n 1, 1) := by decide +kernel
theorem dX4_holdingFor_9 : decode cX4_holdingFor 9 = .ok (.invokevirtual 83, 3) := by decide +kernel
theorem dX4_holdingFor_12 : decode cX4_holdingFor 12 = .ok (.invokevirtual 185, 3) := by decide +kernel
theorem dX4_holdingFor_15 : decode cX4_holdingFor 15 = .ok (.istore_n 2, 1) := by decide +kernel
theorem dX4_holdingFor_16 : decode cX4_holdingFor 16 = .ok (.aload_n 0, 1) := by decide +kernel
theorem dX4_holdingFor_17 : decode cX4_holdingFor 17 = .ok (.getfield 26, 3) := by decide +kernel
theorem dX4_holdingFor_20 : decode cX4_holdingFor 20 = .ok (.aload_n 0, 1) := by decide +kernel
theorem dX4_holdingFor_21 : decode cX4_holdingFor 21 = .ok (.iload_n 1, 1) := by decide +kernel
theorem dX4_holdingFor_22 : decode cX4_holdingFor 22 = .ok (.invokevirtual 154, 3) := by decide +kernel
theorem dX4_holdingFor_25 : decode cX4_holdingFor 25 = .ok (.aload_n 0, 1) := by decide +kernel
theorem dX4_holdingFor_26 : decode cX4_holdingFor 26 = .ok (.getfield 10, 3) := by decide +kernel
theorem dX4_holdingFor_29 : decode cX4_holdingFor 29 = .ok (.getfield 169, 3) := by decide +kernel
theorem dX4_holdingFor_32 : decode cX4_holdingFor 32 = .ok (.iload_n 1, 1) := by decide +kernel
theorem dX4_holdingFor_33 : decode cX4_holdingFor 33 = .ok (.invokevirtual 173, 3) := by decide +kernel
theorem dX4_holdingFor_36 : decode cX4_holdingFor 36 = .ok (.aload_n 0, 1) := by decide +kernel
theorem dX4_holdingFor_37 : decode cX4_holdingFor 37 = .ok (.getfield 10, 3) := by decide +kernel
theorem dX4_holdingFor_40 : decode cX4_holdingFor 40 = .ok (.iload_n 1, 1) := by decide +kernel
theorem dX4_holdingFor_41 : decode cX4_holdingFor 41 = .ok (.invokevirtual 112, 3) := by decide +kernel
theorem dX4_holdingFor_44 : decode cX4_holdingFor 44 = .ok (.iload_n 2, 1) := by decide +kernel
theorem dX4_holdingFor_45 : decode cX4_holdingFor 45 = .ok (.invokevirtual 188, 3) := by decide +kernel
theorem dX4_holdingFor_48 : decode cX4_holdingFor 48 = .ok (.ireturn, 1) := by decide +kernel
theorem dX4_checkIndex_0 : decode cX4_checkIndex 0 = .ok (.iload_n 0, 1) := by decide +kernel
theorem dX4_checkIndex_1 : decode cX4_checkIndex 1 = .ok (.ifCond .lt 8, 3) := by decide +kernel
theorem dX4_checkIndex_4 : decode cX4_checkIndex 4 = .ok (.iload_n 0, 1) := by decide +kernel
theorem dX4_checkIndex_5 : decode cX4_checkIndex 5 = .ok (.iload_n 1, 1) := by decide +kernel
theorem dX4_checkIndex_6 : decode cX4_checkIndex 6 = .ok (.if_icmp .lt 13, 3) := by decide +kernel
theorem dX4_checkIndex_9 : decode cX4_checkIndex 9 = .ok (.new 192, 3) := by decide +kernel
theorem dX4_checkIndex_12 : decode cX4_checkIndex 12 = .ok (.dup, 1) := by decide +kernel
theorem dX4_checkIndex_13 : decode cX4_checkIndex 13 = .ok (.ldc 194, 2) := by decide +kernel
theorem dX4_checkIndex_15 : decode cX4_checkIndex 15 = .ok (.invokespecial 196, 3) := by decide +kernel
theorem dX4_checkIndex_18 : decode cX4_checkIndex 18 = .ok (.athrow, 1) := by decide +kernel
theorem dX4_checkIndex_19 : decode cX4_checkIndex 19 = .ok (.return_, 1) := by decide +kernel
theorem dX4_checkRange_0 : decode cX4_checkRange 0 = .ok (.iload_n 0, 1) := by decide +kernel
theorem dX4_checkRange_1 : decode cX4_checkRange 1 = .ok (.iload_n 1, 1) := by decide +kernel
theorem dX4_checkRange_2 : decode cX4_checkRange 2 = .ok (.if_icmp .lt 8, 3) := by decide +kernel
theorem dX4_checkRange_5 : decode cX4_checkRange 5 = .ok (.iload_n 0, 1) := by decide +kernel
theorem dX4_checkRange_6 : decode cX4_checkRange 6 = .ok (.iload_n 2, 1) := by decide +kernel
theorem dX4_checkRange_7 : decode cX4_checkRange 7 = .ok (.if_icmp .le 13, 3) := by decide +kernel
theorem dX4_checkRange_10 : decode cX4_checkRange 10 = .ok (.new 199, 3) := by decide +kernel
theorem dX4_checkRange_13 : decode cX4_checkRange 13 = .ok (.dup, 1) := by decide +kernel
theorem dX4_checkRange_14 : decode cX4_checkRange 14 = .ok (.ldc 201, 2) := by decide +kernel
theorem dX4_checkRange_16 : decode cX4_checkRange 16 = .ok (.invokespecial 203, 3) := by decide +kernel
theorem dX4_checkRange_19 : decode cX4_checkRange 19 = .ok (.athrow, 1) := by decide +kernel
theorem dX4_checkRange_20 : decode cX4_checkRange 20 = .ok (.return_, 1) := by decide +kernel
theorem dX4_checkState_0 : decode cX4_checkState 0 = .ok (.iload_n 0, 1) := by decide +kernel
theorem dX4_checkState_1 : decode cX4_checkState 1 = .ok (.ifCond .ne 13, 3) := by decide +kernel
theorem dX4_checkState_4 : decode cX4_checkState 4 = .ok (.new 204, 3) := by decide +kernel
theorem dX4_checkState_7 : decode cX4_checkState 7 = .ok (.dup, 1) := by decide +kernel
theorem dX4_checkState_8 : decode cX4_checkState 8 = .ok (.ldc 206, 2) := by decide +kernel
theorem dX4_checkState_10 : decode cX4_checkState 10 = .ok (.invokespecial 208, 3) := by decide +kernel
theorem dX4_checkState_13 : decode cX4_checkState 13 = .ok (.athrow, 1) := by decide +kernel
theorem dX4_checkState_14 : decode cX4_checkState 14 = .ok (.return_, 1) := by decide +kernel
theorem dX4_contains_0 : decode cX4_contains 0 = .ok (.iload_n 0, 1) := by decide +kernel
theorem dX4_contains_1 : decode cX4_contains 1 = .ok (.iload_n 1, 1) := by decide +kernel
theorem dX4_contains_2 : decode cX4_contains 2 = .ok (.ishr, 1) := by decide +kernel
theorem dX4_contains_3 : decode cX4_contains 3 = .ok (.iconst 1, 1) := by decide +kernel
theorem dX4_contains_4 : decode cX4_contains 4 = .ok (.iand, 1) := by decide +kernel
theorem dX4_contains_5 : decode cX4_contains 5 = .ok (.ifCond .eq 7, 3) := by decide +kernel
theorem dX4_contains_8 : decode cX4_contains 8 = .ok (.iconst 1, 1) := by decide +kernel
theorem dX4_contains_9 : decode cX4_contains 9 = .ok (.goto 4, 3) := by decide +kernel
theorem dX4_contains_12 : decode cX4_contains 12 = .ok (.iconst 0, 1) := by decide +kernel
theorem dX4_contains_13 : decode cX4_contains 13 = .ok (.ireturn, 1) := by decide +kernel
theorem dJ6_bitCount_0f7a4_0 : decode cJ6_bitCount_0f7a4 0 = .ok (.iload_n 0, 1) := by decide +kernel
theorem dJ6_bitCount_0f7a4_1 : decode cJ6_bitCount_0f7a4 1 = .ok (.iload_n 0, 1) := by decide +kernel
theorem dJ6_bitCount_0f7a4_2 : decode cJ6_bitCount_0f7a4 2 = .ok (.iconst 1, 1) := by decide +kernel
theorem dJ6_bitCount_0f7a4_3 : decode cJ6_bitCount_0f7a4 3 = .ok (.iushr, 1) := by decide +kernel
theorem dJ6_bitCount_0f7a4_4 : decode cJ6_bitCount_0f7a4 4 = .ok (.ldc_w 265, 3) := by decide +kernel
theorem dJ6_bitCount_0f7a4_7 : decode cJ6_bitCount_0f7a4 7 = .ok (.iand, 1) := by decide +kernel
theorem dJ6_bitCount_0f7a4_8 : decode cJ6_bitCount_0f7a4 8 = .ok (.isub, 1) := by decide +kernel
theorem dJ6_bitCount_0f7a4_9 : decode cJ6_bitCount_0f7a4 9 = .ok (.istore_n 0, 1) := by decide +kernel
theorem dJ6_bitCount_0f7a4_10 : decode cJ6_bitCount_0f7a4 10 = .ok (.iload_n 0, 1) := by decide +kernel
theorem dJ6_bitCount_0f7a4_11 : decode cJ6_bitCount_0f7a4 11 = .ok (.ldc_w 266, 3) := by decide +kernel
theorem dJ6_bitCount_0f7a4_14 : decode cJ6_bitCount_0f7a4 14 = .ok (.iand, 1) := by decide +kernel
theorem dJ6_bitCount_0f7a4_15 : decode cJ6_bitCount_0f7a4 15 = .ok (.iload_n 0, 1) := by decide +kernel
theorem dJ6_bitCount_0f7a4_16 : decode cJ6_bitCount_0f7a4 16 = .ok (.iconst 2, 1) := by decide +kernel
theorem dJ6_bitCount_0f7a4_17 : decode cJ6_bitCount_0f7a4 17 = .ok (.iushr, 1) := by decide +kernel
theorem dJ6_bitCount_0f7a4_18 : decode cJ6_bitCount_0f7a4 18 = .ok (.ldc_w 266, 3) := by decide +kernel
theorem dJ6_bitCount_0f7a4_21 : decode cJ6_bitCount_0f7a4 21 = .ok (.iand, 1) := by decide +kernel
theorem dJ6_bitCount_0f7a4_22 : decode cJ6_bitCount_0f7a4 22 = .ok (.iadd, 1) := by decide +kernel
theorem dJ6_bitCount_0f7a4_23 : decode cJ6_bitCount_0f7a4 23 = .ok (.istore_n 0, 1) := by decide +kernel
theorem dJ6_bitCount_0f7a4_24 : decode cJ6_bitCount_0f7a4 24 = .ok (.iload_n 0, 1) := by decide +kernel
theorem dJ6_bitCount_0f7a4_25 : decode cJ6_bitCount_0f7a4 25 = .ok (.iload_n 0, 1) := by decide +kernel
theorem dJ6_bitCount_0f7a4_26 : decode cJ6_bitCount_0f7a4 26 = .ok (.iconst 4, 1) := by decide +kernel
theorem dJ6_bitCount_0f7a4_27 : decode cJ6_bitCount_0f7a4 27 = .ok (.iushr, 1) := by decide +kernel
theorem dJ6_bitCount_0f7a4_28 : decode cJ6_bitCount_0f7a4 28 = .ok (.iadd, 1) := by decide +kernel
theorem dJ6_bitCount_0f7a4_29 : decode cJ6_bitCount_0f7a4 29 = .ok (.ldc_w 267, 3) := by decide +kernel
theorem dJ6_bitCount_0f7a4_32 : decode cJ6_bitCount_0f7a4 32 = .ok (.iand, 1) := by decide +kernel
theorem dJ6_bitCount_0f7a4_33 : decode cJ6_bitCount_0f7a4 33 = .ok (.istore_n 0, 1) := by decide +kernel
theorem dJ6_bitCount_0f7a4_34 : decode cJ6_bitCount_0f7a4 34 = .ok (.iload_n 0, 1) := by decide +kernel
theorem dJ6_bitCount_0f7a4_35 : decode cJ6_bitCount_0f7a4 35 = .ok (.iload_n 0, 1) := by decide +kernel
theorem dJ6_bitCount_0f7a4_36 : decode cJ6_bitCount_0f7a4 36 = .ok (.bipush 8, 2) := by decide +kernel
theorem dJ6_bitCount_0f7a4_38 : decode cJ6_bitCount_0f7a4 38 = .ok (.iushr, 1) := by decide +kernel
theorem dJ6_bitCount_0f7a4_39 : decode cJ6_bitCount_0f7a4 39 = .ok (.iadd, 1) := by decide +kernel
theorem dJ6_bitCount_0f7a4_40 : decode cJ6_bitCount_0f7a4 40 = .ok (.istore_n 0, 1) := by decide +kernel
theorem dJ6_bitCount_0f7a4_41 : decode cJ6_bitCount_0f7a4 41 = .ok (.iload_n 0, 1) := by decide +kernel
theorem dJ6_bitCount_0f7a4_42 : decode cJ6_bitCount_0f7a4 42 = .ok (.iload_n 0, 1) := by decide +kernel
theorem dJ6_bitCount_0f7a4_43 : decode cJ6_bitCount_0f7a4 43 = .ok (.bipush 16, 2) := by decide +kernel
theorem dJ6_bitCount_0f7a4_45 : decode cJ6_bitCount_0f7a4 45 = .ok (.iushr, 1) := by decide +kernel
theorem dJ6_bitCount_0f7a4_46 : decode cJ6_bitCount_0f7a4 46 = .ok (.iadd, 1) := by decide +kernel
theorem dJ6_bitCount_0f7a4_47 : decode cJ6_bitCount_0f7a4 47 = .ok (.istore_n 0, 1) := by decide +kernel
theorem dJ6_bitCount_0f7a4_48 : decode cJ6_bitCount_0f7a4 48 = .ok (.iload_n 0, 1) := by decide +kernel
theorem dJ6_bitCount_0f7a4_49 : decode cJ6_bitCount_0f7a4 49 = .ok (.bipush 63, 2) := by decide +kernel
theorem dJ6_bitCount_0f7a4_51 : decode cJ6_bitCount_0f7a4 51 = .ok (.iand, 1) := by decide +kernel
theorem dJ6_bitCount_0f7a4_52 : decode cJ6_bitCount_0f7a4 52 = .ok (.ireturn, 1) := by decide +kernel
theorem dJ9_max_7cf53_0 : decode cJ9_max_7cf53 0 = .ok (.iload_n 0, 1) := by decide +kernel
theorem dJ9_max_7cf53_1 : decode cJ9_max_7cf53 1 = .ok (.iload_n 1, 1) := by decide +kernel
theorem dJ9_max_7cf53_2 : decode cJ9_max_7cf53 2 = .ok (.if_icmp .lt 7, 3) := by decide +kernel
theorem dJ9_max_7cf53_5 : decode cJ9_max_7cf53 5 = .ok (.iload_n 0, 1) := by decide +kernel
theorem dJ9_max_7cf53_6 : decode cJ9_max_7cf53 6 = .ok (.goto 4, 3) := by decide +kernel
theorem dJ9_max_7cf53_9 : decode cJ9_max_7cf53 9 = .ok (.iload_n 1, 1) := by decide +kernel
theorem dJ9_max_7cf53_10 : decode cJ9_max_7cf53 10 = .ok (.ireturn, 1) := by decide +kernel
theorem dJ9_min_7cf53_0 : decode cJ9_min_7cf53 0 = .ok (.iload_n 0, 1) := by decide +kernel
theorem dJ9_min_7cf53_1 : decode cJ9_min_7cf53 1 = .ok (.iload_n 1, 1) := by decide +kernel
theorem dJ9_min_7cf53_2 : decode cJ9_min_7cf53 2 = .ok (.if_icmp .gt 7, 3) := by decide +kernel
theorem dJ9_min_7cf53_5 : decode cJ9_min_7cf53 5 = .ok (.iload_n 0, 1) := by decide +kernel
theorem dJ9_min_7cf53_6 : decode cJ9_min_7cf53 6 = .ok (.goto 4, 3) := by decide +kernel
theorem dJ9_min_7cf53_9 : decode cJ9_min_7cf53 9 = .ok (.iload_n 1, 1) := by decide +kernel
theorem dJ9_min_7cf53_10 : decode cJ9_min_7cf53 10 = .ok (.ireturn, 1) := by decide +kernel
