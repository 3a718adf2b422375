theorem dX10_derives_164 : decode cX10_derives 164 = .ok (.iaload, 1) := by decide +kernel
theorem dX10_derives_165 : decode cX10_derives 165 = .ok (.invokevirtual 201, 3) := by decide +kernel
theorem dX10_derives_168 : decode cX10_derives 168 = .ok (.iastore, 1) := by decide +kernel
theorem dX10_derives_169 : decode cX10_derives 169 = .ok (.iinc 2 1, 3) := by decide +kernel
theorem dX10_derives_172 : decode cX10_derives 172 = .ok (.goto (-141), 3) := by decide +kernel
theorem dX10_derives_175 : decode cX10_derives 175 = .ok (.iinc 1 1, 3) := by decide +kernel
theorem dX10_derives_178 : decode cX10_derives 178 = .ok (.goto (-155), 3) := by decide +kernel
theorem dX10_derives_181 : decode cX10_derives 181 = .ok (.return_, 1) := by decide +kernel
set_option maxRecDepth 20000 in
theorem ggX10_isDerived_X10_derives : GoodIn wsX10_isDerived wsX10_derives := goodIn_r _ [6, 1, 7, 8, 9, 10, 11, 12, 13, 14, 5, 15, 16, 17, 18, 19, 20, 21, 22, 23, 24, 25, 26, 27, 28, 29, 30, 31, 32, 41, 42, 43, 44, 45, 46, 47, 48, 49, 50, 51, 52, 53, 54, 55, 56, 57, 58, 59, 60, 61, 62, 63, 64, 65, 66, 67, 68, 69, 70, 71, 72, 73, 74, 75] (by decide +kernel) (by decide +kernel)
set_option maxRecDepth 20000 in
theorem gX10_isDerived_X10_derives : GoodIn wsX10_isDerived (wsV RX10 204 RX10 yX10_derives wsX10_derives) := goodIn_app (goodIn_of _ (by decide +kernel)) ggX10_isDerived_X10_derives
set_option maxRecDepth 20000 in
theorem ggX10_isDerived_X10_isIn : GoodIn wsX10_isDerived wsX10_isIn := goodIn_r _ [35] (by decide +kernel) (by decide +kernel)
set_option maxRecDepth 20000 in
theorem gX10_isDerived_X10_isIn : GoodIn wsX10_isDerived (va_wsS RX10 84 yX10_isIn wsX10_isIn) := goodIn_app (goodIn_of _ (by decide +kernel)) ggX10_isDerived_X10_isIn
set_option maxRecDepth 20000 in
theorem ggX10_isDerived_X10_can : GoodIn wsX10_isDerived wsX10_can := goodIn_r _ [39, 40, 41, 42, 43, 44, 45, 46, 47, 48, 49, 50, 51, 52, 53, 54, 55, 56, 57, 58, 59, 60, 61, 62, 63, 64, 65, 66, 67, 68, 69, 70, 71, 72, 73, 74, 75] (by decide +kernel) (by decide +kernel)
set_option maxRecDepth 20000 in
theorem gX10_isDerived_X10_can : GoodIn wsX10_isDerived (wsV RX10 107 RX10 yX10_can wsX10_can) := goodIn_app (goodIn_of _ (by decide +kernel)) ggX10_isDerived_X10_can
theorem dX10_isDerived_0 : decode cX10_isDerived 0 = .ok (.aload_n 0, 1) := by decide +kernel
theorem dX10_isDerived_1 : decode cX10_isDerived 1 = .ok (.invokevirtual 204, 3) := by decide +kernel
theorem dX10_isDerived_4 : decode cX10_isDerived 4 = .ok (.aload_n 0, 1) := by decide +kernel
theorem dX10_isDerived_5 : decode cX10_isDerived 5 = .ok (.iload_n 1, 1) := by decide +kernel
theorem dX10_isDerived_6 : decode cX10_isDerived 6 = .ok (.iconst 0, 1) := by decide +kernel
theorem dX10_isDerived_7 : decode cX10_isDerived 7 = .ok (.bipush 7, 2) := by decide +kernel
theorem dX10_isDerived_9 : decode cX10_isDerived 9 = .ok (.invokestatic 84, 3) := by decide +kernel
theorem dX10_isDerived_12 : decode cX10_isDerived 12 = .ok (.ifCond .ne 7, 3) := by decide +kernel
theorem dX10_isDerived_15 : decode cX10_isDerived 15 = .ok (.iconst 1, 1) := by decide +kernel
theorem dX10_isDerived_16 : decode cX10_isDerived 16 = .ok (.goto 17, 3) := by decide +kernel
theorem dX10_isDerived_19 : decode cX10_isDerived 19 = .ok (.aload_n 0, 1) := by decide +kernel
theorem dX10_isDerived_20 : decode cX10_isDerived 20 = .ok (.getfield 61, 3) := by decide +kernel
theorem dX10_isDerived_23 : decode cX10_isDerived 23 = .ok (.iload_n 1, 1) := by decide +kernel
theorem dX10_isDerived_24 : decode cX10_isDerived 24 = .ok (.baload, 1) := by decide +kernel
theorem dX10_isDerived_25 : decode cX10_isDerived 25 = .ok (.ifCond .eq 7, 3) := by decide +kernel
theorem dX10_isDerived_28 : decode cX10_isDerived 28 = .ok (.iconst 0, 1) := by decide +kernel
theorem dX10_isDerived_29 : decode cX10_isDerived 29 = .ok (.goto 4, 3) := by decide +kernel
theorem dX10_isDerived_32 : decode cX10_isDerived 32 = .ok (.iconst 2, 1) := by decide +kernel
theorem dX10_isDerived_33 : decode cX10_isDerived 33 = .ok (.invokevirtual 107, 3) := by decide +kernel
theorem dX10_isDerived_36 : decode cX10_isDerived 36 = .ok (.ireturn, 1) := by decide +kernel
set_option maxRecDepth 20000 in
theorem ggX10_derivedValue_X10_isDerived : GoodIn wsX10_derivedValue wsX10_isDerived := goodIn_r _ [6, 7, 8, 9, 10, 5, 11, 12, 13, 14, 1, 15, 16, 17, 18, 19, 20, 21, 22, 23, 24, 25, 26, 27, 28, 29, 30, 31, 32, 33, 34, 35, 36, 37, 38, 39, 40, 41, 42, 43, 44, 45, 46, 47, 48, 49, 50, 51, 52, 53, 54, 55, 56, 57, 58, 59, 60, 61, 62, 63, 64, 65, 66, 67, 68, 69, 70, 71, 72, 73, 74, 75, 76, 77, 78, 79] (by decide +kernel) (by decide +kernel)
set_option maxRecDepth 20000 in
theorem gX10_derivedValue_X10_isDerived : GoodIn wsX10_derivedValue (wsV RX10 207 RX10 yX10_isDerived wsX10_isDerived) := goodIn_app (goodIn_of _ (by decide +kernel)) ggX10_derivedValue_X10_isDerived
theorem dX10_derivedValue_0 : decode cX10_derivedValue 0 = .ok (.aload_n 0, 1) := by decide +kernel
theorem dX10_derivedValue_1 : decode cX10_derivedValue 1 = .ok (.iload_n 1, 1) := by decide +kernel
theorem dX10_derivedValue_2 : decode cX10_derivedValue 2 = .ok (.invokevirtual 207, 3) := by decide +kernel
theorem dX10_derivedValue_5 : decode cX10_derivedValue 5 = .ok (.ifCond .eq 12, 3) := by decide +kernel
theorem dX10_derivedValue_8 : decode cX10_derivedValue 8 = .ok (.aload_n 0, 1) := by decide +kernel
theorem dX10_derivedValue_9 : decode cX10_derivedValue 9 = .ok (.getfield 65, 3) := by decide +kernel
theorem dX10_derivedValue_12 : decode cX10_derivedValue 12 = .ok (.iload_n 1, 1) := by decide +kernel
theorem dX10_derivedValue_13 : decode cX10_derivedValue 13 = .ok (.iaload, 1) := by decide +kernel
theorem dX10_derivedValue_14 : decode cX10_derivedValue 14 = .ok (.goto 4, 3) := by decide +kernel
theorem dX10_derivedValue_17 : decode cX10_derivedValue 17 = .ok (.iconst 0, 1) := by decide +kernel
theorem dX10_derivedValue_18 : decode cX10_derivedValue 18 = .ok (.ireturn, 1) := by decide +kernel
set_option maxRecDepth 20000 in
theorem ggX10_derivedTime_X10_isDerived : GoodIn wsX10_derivedTime wsX10_isDerived := goodIn_r _ [6, 7, 8, 9, 10, 5, 11, 12, 13, 14, 15, 1, 16, 17, 18, 19, 20, 21, 22, 23, 24, 25, 26, 27, 28, 29, 30, 31, 32, 33, 34, 35, 36, 37, 38, 39, 40, 41, 42, 43, 44, 45, 46, 47, 48, 49, 50, 51, 52, 53, 54, 55, 56, 57, 58, 59, 60, 61, 62, 63, 64, 65, 66, 67, 68, 69, 70, 71, 72, 73, 74, 75, 76, 77, 78, 79] (by decide +kernel) (by decide +kernel)
set_option maxRecDepth 20000 in
theorem gX10_derivedTime_X10_isDerived : GoodIn wsX10_derivedTime (wsV RX10 207 RX10 yX10_isDerived wsX10_isDerived) := goodIn_app (goodIn_of _ (by decide +kernel)) ggX10_derivedTime_X10_isDerived
theorem dX10_derivedTime_0 : decode cX10_derivedTime 0 = .ok (.aload_n 0, 1) := by decide +kernel
theorem dX10_derivedTime_1 : decode cX10_derivedTime 1 = .ok (.iload_n 1, 1) := by decide +kernel
theorem dX10_derivedTime_2 : decode cX10_derivedTime 2 = .ok (.invokevirtual 207, 3) := by decide +kernel
theorem dX10_derivedTime_5 : decode cX10_derivedTime 5 = .ok (.ifCond .eq 12, 3) := by decide +kernel
theorem dX10_derivedTime_8 : decode cX10_derivedTime 8 = .ok (.aload_n 0, 1) := by decide +kernel
theorem dX10_derivedTime_9 : decode cX10_derivedTime 9 = .ok (.getfield 68, 3) := by decide +kernel
theorem dX10_derivedTime_12 : decode cX10_derivedTime 12 = .ok (.iload_n 1, 1) := by decide +kernel
theorem dX10_derivedTime_13 : decode cX10_derivedTime 13 = .ok (.iaload, 1) := by decide +kernel
theorem dX10_derivedTime_14 : decode cX10_derivedTime 14 = .ok (.goto 4, 3) := by decide +kernel
theorem dX10_derivedTime_17 : decode cX10_derivedTime 17 = .ok (.iconst 0, 1) := by decide +kernel
theorem dX10_derivedTime_18 : decode cX10_derivedTime 18 = .ok (.ireturn, 1) := by decide +kernel
set_option maxRecDepth 20000 in
theorem ggX10_matchesAt_X10_bits : GoodIn wsX10_matchesAt wsX10_bits := goodIn_r _ [6, 7, 8, 9, 10, 11, 12, 13, 14, 15, 16, 17, 18, 19, 20, 21, 22, 23, 24, 25, 26, 27, 28, 29, 30, 31, 32, 33, 34, 35, 36, 37, 38, 39, 40, 41, 42] (by decide +kernel) (by decide +kernel)
set_option maxRecDepth 20000 in
theorem gX10_matchesAt_X10_bits : GoodIn wsX10_matchesAt (wsV RX10 130 RX10 yX10_bits wsX10_bits) := goodIn_app (goodIn_of _ (by decide +kernel)) ggX10_matchesAt_X10_bits
theorem dX10_matchesAt_0 : decode cX10_matchesAt 0 = .ok (.iconst 0, 1) := by decide +kernel
theorem dX10_matchesAt_1 : decode cX10_matchesAt 1 = .ok (.istore_n 2, 1) := by decide +kernel
theorem dX10_matchesAt_2 : decode cX10_matchesAt 2 = .ok (.iload_n 1, 1) := by decide +kernel
theorem dX10_matchesAt_3 : decode cX10_matchesAt 3 = .ok (.istore_n 3, 1) := by decide +kernel
theorem dX10_matchesAt_4 : decode cX10_matchesAt 4 = .ok (.iload_n 3, 1) := by decide +kernel
theorem dX10_matchesAt_5 : decode cX10_matchesAt 5 = .ok (.bipush 8, 2) := by decide +kernel
theorem dX10_matchesAt_7 : decode cX10_matchesAt 7 = .ok (.iadd, 1) := by decide +kernel
theorem dX10_matchesAt_8 : decode cX10_matchesAt 8 = .ok (.aload_n 0, 1) := by decide +kernel
theorem dX10_matchesAt_9 : decode cX10_matchesAt 9 = .ok (.getfield 164, 3) := by decide +kernel
theorem dX10_matchesAt_12 : decode cX10_matchesAt 12 = .ok (.if_icmp .gt 30, 3) := by decide +kernel
theorem dX10_matchesAt_15 : decode cX10_matchesAt 15 = .ok (.iload_n 2, 1) := by decide +kernel
theorem dX10_matchesAt_16 : decode cX10_matchesAt 16 = .ok (.aload_n 0, 1) := by decide +kernel
theorem dX10_matchesAt_17 : decode cX10_matchesAt 17 = .ok (.iload_n 3, 1) := by decide +kernel
theorem dX10_matchesAt_18 : decode cX10_matchesAt 18 = .ok (.bipush 8, 2) := by decide +kernel
theorem dX10_matchesAt_20 : decode cX10_matchesAt 20 = .ok (.invokevirtual 130, 3) := by decide +kernel
theorem dX10_matchesAt_23 : decode cX10_matchesAt 23 = .ok (.sipush 184, 3) := by decide +kernel
theorem dX10_matchesAt_26 : decode cX10_matchesAt 26 = .ok (.if_icmp .ne 7, 3) := by decide +kernel
theorem dX10_matchesAt_29 : decode cX10_matchesAt 29 = .ok (.iconst 1, 1) := by decide +kernel
theorem dX10_matchesAt_30 : decode cX10_matchesAt 30 = .ok (.goto 4, 3) := by decide +kernel
theorem dX10_matchesAt_33 : decode cX10_matchesAt 33 = .ok (.iconst 0, 1) := by decide +kernel
theorem dX10_matchesAt_34 : decode cX10_matchesAt 34 = .ok (.iadd, 1) := by decide +kernel
theorem dX10_matchesAt_35 : decode cX10_matchesAt 35 = .ok (.istore_n 2, 1) := by decide +kernel
theorem dX10_matchesAt_36 : decode cX10_matchesAt 36 = .ok (.iinc 3 64, 3) := by decide +kernel
theorem dX10_matchesAt_39 : decode cX10_matchesAt 39 = .ok (.goto (-35), 3) := by decide +kernel
theorem dX10_matchesAt_42 : decode cX10_matchesAt 42 = .ok (.iload_n 2, 1) := by decide +kernel
theorem dX10_matchesAt_43 : decode cX10_matchesAt 43 = .ok (.ireturn, 1) := by decide +kernel
set_option maxRecDepth 20000 in
theorem ggX10_matches_X10_isIn : GoodIn wsX10_matches wsX10_isIn := goodIn_r _ [4] (by decide +kernel) (by decide +kernel)
set_option maxRecDepth 20000 in
theorem gX10_matches_X10_isIn : GoodIn wsX10_matches (va_wsS RX10 84 yX10_isIn wsX10_isIn) := goodIn_app (goodIn_of _ (by decide +kernel)) ggX10_matches_X10_isIn
set_option maxRecDepth 20000 in
theorem ggX10_matches_X10_can : GoodIn wsX10_matches wsX10_can := goodIn_r _ [8, 9, 20, 21, 22, 23, 24, 25, 26, 27, 28, 29, 30, 31, 32, 33, 34, 35, 36, 37, 38, 39, 40, 41, 42, 43, 44, 45, 46, 47, 48, 49, 50, 51, 52, 53, 54] (by decide +kernel) (by decide +kernel)
set_option maxRecDepth 20000 in
theorem gX10_matches_X10_can : GoodIn wsX10_matches (wsV RX10 107 RX10 yX10_can wsX10_can) := goodIn_app (goodIn_of _ (by decide +kernel)) ggX10_matches_X10_can
set_option maxRecDepth 20000 in
theorem ggX10_matches_X10_matchesAt : GoodIn wsX10_matches wsX10_matchesAt := goodIn_r _ [13, 14, 15, 16, 17, 3, 18, 19, 20, 21, 22, 23, 24, 25, 26, 27, 28, 29, 30, 31, 32, 33, 34, 35, 36, 37, 38, 39, 40, 41, 42, 43, 44, 45, 46, 47, 48, 49, 50, 51, 52, 53, 54] (by decide +kernel) (by decide +kernel)
set_option maxRecDepth 20000 in
theorem gX10_matches_X10_matchesAt : GoodIn wsX10_matches (wsV RX10 210 RX10 yX10_matchesAt wsX10_matchesAt) := goodIn_app (goodIn_of _ (by decide +kernel)) ggX10_matches_X10_matchesAt
theorem dX10_matches_0 : decode cX10_matches 0 = .ok (.aload_n 0, 1) := by decide +kernel
theorem dX10_matches_1 : decode cX10_matches 1 = .ok (.iload_n 1, 1) := by decide +kernel
theorem dX10_matches_2 : decode cX10_matches 2 = .ok (.iconst 0, 1) := by decide +kernel
theorem dX10_matches_3 : decode cX10_matches 3 = .ok (.bipush 63, 2) := by decide +kernel
theorem dX10_matches_5 : decode cX10_matches 5 = .ok (.invokestatic 84, 3) := by decide +kernel
theorem dX10_matches_8 : decode cX10_matches 8 = .ok (.ifCond .eq 7, 3) := by decide +kernel
theorem dX10_matches_11 : decode cX10_matches 11 = .ok (.iconst 0, 1) := by decide +kernel
theorem dX10_matches_12 : decode cX10_matches 12 = .ok (.goto 4, 3) := by decide +kernel
theorem dX10_matches_15 : decode cX10_matches 15 = .ok (.iconst 1, 1) := by decide +kernel
theorem dX10_matches_16 : decode cX10_matches 16 = .ok (.invokevirtual 107, 3) := by decide +kernel
theorem dX10_matches_19 : decode cX10_matches 19 = .ok (.ifCond .eq 11, 3) := by decide +kernel
theorem dX10_matches_22 : decode cX10_matches 22 = .ok (.aload_n 0, 1) := by decide +kernel
theorem dX10_matches_23 : decode cX10_matches 23 = .ok (.iload_n 1, 1) := by decide +kernel
theorem dX10_matches_24 : decode cX10_matches 24 = .ok (.invokevirtual 210, 3) := by decide +kernel
theorem dX10_matches_27 : decode cX10_matches 27 = .ok (.goto 4, 3) := by decide +kernel
theorem dX10_matches_30 : decode cX10_matches 30 = .ok (.iconst 0, 1) := by decide +kernel
theorem dX10_matches_31 : decode cX10_matches 31 = .ok (.ireturn, 1) := by decide +kernel
set_option maxRecDepth 20000 in
theorem ggX10_bestOffset_X10_matchesAt : GoodIn wsX10_bestOffset wsX10_matchesAt := goodIn_r _ [6, 7, 8, 9, 10, 5, 11, 12, 13, 14, 15, 16, 17, 18, 19, 20, 21, 22, 23, 24, 25, 26, 27, 28, 29, 30, 31, 32, 33, 34, 35, 36, 37, 38, 39, 40, 41, 42, 43, 44, 45, 46, 47] (by decide +kernel) (by decide +kernel)
set_option maxRecDepth 20000 in
theorem gX10_bestOffset_X10_matchesAt : GoodIn wsX10_bestOffset (wsV RX10 210 RX10 yX10_matchesAt wsX10_matchesAt) := goodIn_app (goodIn_of _ (by decide +kernel)) ggX10_bestOffset_X10_matchesAt
theorem dX10_bestOffset_0 : decode cX10_bestOffset 0 = .ok (.aload_n 0, 1) := by decide +kernel
theorem dX10_bestOffset_1 : decode cX10_bestOffset 1 = .ok (.iconst 0, 1) := by decide +kernel
theorem dX10_bestOffset_2 : decode cX10_bestOffset 2 = .ok (.putfield 78, 3) := by decide +kernel
theorem dX10_bestOffset_5 : decode cX10_bestOffset 5 = .ok (.iconst 0, 1) := by decide +kernel
theorem dX10_bestOffset_6 : decode cX10_bestOffset 6 = .ok (.istore_n 1, 1) := by decide +kernel
theorem dX10_bestOffset_7 : decode cX10_bestOffset 7 = .ok (.iconst 1, 1) := by decide +kernel
theorem dX10_bestOffset_8 : decode cX10_bestOffset 8 = .ok (.istore_n 2, 1) := by decide +kernel
theorem dX10_bestOffset_9 : decode cX10_bestOffset 9 = .ok (.iload_n 2, 1) := by decide +kernel
theorem dX10_bestOffset_10 : decode cX10_bestOffset 10 = .ok (.bipush 64, 2) := by decide +kernel
theorem dX10_bestOffset_12 : decode cX10_bestOffset 12 = .ok (.if_icmp .ge 28, 3) := by decide +kernel
theorem dX10_bestOffset_15 : decode cX10_bestOffset 15 = .ok (.aload_n 0, 1) := by decide +kernel
theorem dX10_bestOffset_16 : decode cX10_bestOffset 16 = .ok (.iload_n 2, 1) := by decide +kernel
theorem dX10_bestOffset_17 : decode cX10_bestOffset 17 = .ok (.invokevirtual 210, 3) := by decide +kernel
theorem dX10_bestOffset_20 : decode cX10_bestOffset 20 = .ok (.aload_n 0, 1) := by decide +kernel
theorem dX10_bestOffset_21 : decode cX10_bestOffset 21 = .ok (.iload_n 1, 1) := by decide +kernel
theorem dX10_bestOffset_22 : decode cX10_bestOffset 22 = .ok (.invokevirtual 210, 3) := by decide +kernel
theorem dX10_bestOffset_25 : decode cX10_bestOffset 25 = .ok (.if_icmp .le 7, 3) := by decide +kernel
theorem dX10_bestOffset_28 : decode cX10_bestOffset 28 = .ok (.iload_n 2, 1) := by decide +kernel
theorem dX10_bestOffset_29 : decode cX10_bestOffset 29 = .ok (.goto 4, 3) := by decide +kernel
theorem dX10_bestOffset_32 : decode cX10_bestOffset 32 = .ok (.iload_n 1, 1) := by decide +kernel
theorem dX10_bestOffset_33 : decode cX10_bestOffset 33 = .ok (.istore_n 1, 1) := by decide +kernel
theorem dX10_bestOffset_34 : decode cX10_bestOffset 34 = .ok (.iinc 2 1, 3) := by decide +kernel
theorem dX10_bestOffset_37 : decode cX10_bestOffset 37 = .ok (.goto (-28), 3) := by decide +kernel
theorem dX10_bestOffset_40 : decode cX10_bestOffset 40 = .ok (.iload_n 1, 1) := by decide +kernel
theorem dX10_bestOffset_41 : decode cX10_bestOffset 41 = .ok (.ireturn, 1) := by decide +kernel
theorem dJ6_bitCount_0f7a4_0 : decode cJ6_bitCount_0f7a4 0 = .ok (.iload_n 0, 1) := by decide +kernel
theorem dJ6_bitCount_0f7a4_1 : decode cJ6_bitCount_0f7a4 1 = .ok (.iload_n 0, 1) := by decide +kernel
theorem dJ6_bitCount_0f7a4_2 : decode cJ6_bitCount_0f7a4 2 = .ok (.iconst 1, 1) := by decide +kernel
theorem dJ6_bitCount_0f7a4_3 : decode cJ6_bitCount_0f7a4 3 = .ok (.iushr, 1) := by decide +kernel
theorem dJ6_bitCount_0f7a4_4 : decode cJ6_bitCount_0f7a4 4 = .ok (.ldc_w 265, 3) := by decide +kernel
theorem dJ6_bitCount_0f7a4_7 : decode cJ6_bitCount_0f7a4 7 = .ok (.iand, 1) := by decide +kernel
theorem dJ6_bitCount_0f7a4_8 : decode cJ6_bitCount_0f7a4 8 = .ok (.isub, 1) := by decide +kernel
theorem dJ6_bitCount_0f7a4_9 : decode cJ6_bitCount_0f7a4 9 = .ok (.istore_n 0, 1) := by decide +kernel
theorem dJ6_bitCount_0f7a4_10 : decode cJ6_bitCount_0f7a4 10 = .ok (.iload_n 0, 1) := by decide +kernel
theorem dJ6_bitCount_0f7a4_11 : decode cJ6_bitCount_0f7a4 11 = .ok (.ldc_w 266, 3) := by decide +kernel
theorem dJ6_bitCount_0f7a4_14 : decode cJ6_bitCount_0f7a4 14 = .ok (.iand, 1) := by decide +kernel
theorem dJ6_bitCount_0f7a4_15 : decode cJ6_bitCount_0f7a4 15 = .ok (.iload_n 0, 1) := by decide +kernel
theorem dJ6_bitCount_0f7a4_16 : decode cJ6_bitCount_0f7a4 16 = .ok (.iconst 2, 1) := by decide +kernel
theorem dJ6_bitCount_0f7a4_17 : decode cJ6_bitCount_0f7a4 17 = .ok (.iushr, 1) := by decide +kernel
theorem dJ6_bitCount_0f7a4_18 : decode cJ6_bitCount_0f7a4 18 = .ok (.ldc_w 266, 3) := by decide +kernel
theorem dJ6_bitCount_0f7a4_21 : decode cJ6_bitCount_0f7a4 21 = .ok (.iand, 1) := by decide +kernel
theorem dJ6_bitCount_0f7a4_22 : decode cJ6_bitCount_0f7a4 22 = .ok (.iadd, 1) := by decide +kernel
theorem dJ6_bitCount_0f7a4_23 : decode cJ6_bitCount_0f7a4 23 = .ok (.istore_n 0, 1) := by decide +kernel
theorem dJ6_bitCount_0f7a4_24 : decode cJ6_bitCount_0f7a4 24 = .ok (.iload_n 0, 1) := by decide +kernel
theorem dJ6_bitCount_0f7a4_25 : decode cJ6_bitCount_0f7a4 25 = .ok (.iload_n 0, 1) := by decide +kernel
theorem dJ6_bitCount_0f7a4_26 : decode cJ6_bitCount_0f7a4 26 = .ok (.iconst 4, 1) := by decide +kernel
theorem dJ6_bitCount_0f7a4_27 : decode cJ6_bitCount_0f7a4 27 = .ok (.iushr, 1) := by decide +kernel
theorem dJ6_bitCount_0f7a4_28 : decode cJ6_bitCount_0f7a4 28 = .ok (.iadd, 1) := by decide +kernel
theorem dJ6_bitCount_0f7a4_29 : decode cJ6_bitCount_0f7a4 29 = .ok (.ldc_w 267, 3) := by decide +kernel
theorem dJ6_bitCount_0f7a4_32 : decode cJ6_bitCount_0f7a4 32 = .ok (.iand, 1) := by decide +kernel
theorem dJ6_bitCount_0f7a4_33 : decode cJ6_bitCount_0f7a4 33 = .ok (.istore_n 0, 1) := by decide +kernel
theorem dJ6_bitCount_0f7a4_34 : decode cJ6_bitCount_0f7a4 34 = .ok (.iload_n 0, 1) := by decide +kernel
theorem dJ6_bitCount_0f7a4_35 : decode cJ6_bitCount_0f7a4 35 = .ok (.iload_n 0, 1) := by decide +kernel
theorem dJ6_bitCount_0f7a4_36 : decode cJ6_bitCount_0f7a4 36 = .ok (.bipush 8, 2) := by decide +kernel
theorem dJ6_bitCount_0f7a4_38 : decode cJ6_bitCount_0f7a4 38 = .ok (.iushr, 1) := by decide +kernel
theorem dJ6_bitCount_0f7a4_39 : decode cJ6_bitCount_0f7a4 39 = .ok (.iadd, 1) := by decide +kernel
theorem dJ6_bitCount_0f7a4_40 : decode cJ6_bitCount_0f7a4 40 = .ok (.istore_n 0, 1) := by decide +kernel
theorem dJ6_bitCount_0f7a4_41 : decode cJ6_bitCount_0f7a4 41 = .ok (.iload_n 0, 1) := by decide +kernel
theorem dJ6_bitCount_0f7a4_42 : decode cJ6_bitCount_0f7a4 42 = .ok (.iload_n 0, 1) := by decide +kernel
theorem dJ6_bitCount_0f7a4_43 : decode cJ6_bitCount_0f7a4 43 = .ok (.bipush 16, 2) := by decide +kernel
theorem dJ6_bitCount_0f7a4_45 : decode cJ6_bitCount_0f7a4 45 = .ok (.iushr, 1) := by decide +kernel
theorem dJ6_bitCount_0f7a4_46 : decode cJ6_bitCount_0f7a4 46 = .ok (.iadd, 1) := by decide +kernel
theorem dJ6_bitCount_0f7a4_47 : decode cJ6_bitCount_0f7a4 47 = .ok (.istore_n 0, 1) := by decide +kernel
theorem dJ6_bitCount_0f7a4_48 : decode cJ6_bitCount_0f7a4 48 = .ok (.iload_n 0, 1) := by decide +kernel
theorem dJ6_bitCount_0f7a4_49 : decode cJ6_bitCount_0f7a4 49 = .ok (.bipush 63, 2) := by decide +kernel
theorem dJ6_bitCount_0f7a4_51 : decode cJ6_bitCount_0f7a4 51 = .ok (.iand, 1) := by decide +kernel
theorem dJ6_bitCount_0f7a4_52 : decode cJ6_bitCount_0f7a4 52 = .ok (.ireturn, 1) := by decide +kernel
theorem dJ13_bitCount_95d88_0 : decode cJ13_bitCount_95d88 0 = .ok (.lload_n 0, 1) := by decide +kernel
theorem dJ13_bitCount_95d88_1 : decode cJ13_bitCount_95d88 1 = .ok (.lload_n 0, 1) := by decide +kernel
theorem dJ13_bitCount_95d88_2 : decode cJ13_bitCount_95d88 2 = .ok (.iconst 1, 1) := by decide +kernel
theorem dJ13_bitCount_95d88_3 : decode cJ13_bitCount_95d88 3 = .ok (.lushr, 1) := by decide +kernel
theorem dJ13_bitCount_95d88_4 : decode cJ13_bitCount_95d88 4 = .ok (.ldc2_w 314, 3) := by decide +kernel
theorem dJ13_bitCount_95d88_7 : decode cJ13_bitCount_95d88 7 = .ok (.land, 1) := by decide +kernel
theorem dJ13_bitCount_95d88_8 : decode cJ13_bitCount_95d88 8 = .ok (.lsub, 1) := by decide +kernel
theorem dJ13_bitCount_95d88_9 : decode cJ13_bitCount_95d88 9 = .ok (.lstore_n 0, 1) := by decide +kernel
theorem dJ13_bitCount_95d88_10 : decode cJ13_bitCount_95d88 10 = .ok (.lload_n 0, 1) := by decide +kernel
theorem dJ13_bitCount_95d88_11 : decode cJ13_bitCount_95d88 11 = .ok (.ldc2_w 316, 3) := by decide +kernel
theorem dJ13_bitCount_95d88_14 : decode cJ13_bitCount_95d88 14 = .ok (.land, 1) := by decide +kernel
theorem dJ13_bitCount_95d88_15 : decode cJ13_bitCount_95d88 15 = .ok (.lload_n 0, 1) := by decide +kernel
theorem dJ13_bitCount_95d88_16 : decode cJ13_bitCount_95d88 16 = .ok (.iconst 2, 1) := by decide +kernel
theorem dJ13_bitCount_95d88_17 : decode cJ13_bitCount_95d88 17 = .ok (.lushr, 1) := by decide +kernel
theorem dJ13_bitCount_95d88_18 : decode cJ13_bitCount_95d88 18 = .ok (.ldc2_w 316, 3) := by decide +kernel
theorem dJ13_bitCount_95d88_21 : decode cJ13_bitCount_95d88 21 = .ok (.land, 1) := by decide +kernel
theorem dJ13_bitCount_95d88_22 : decode cJ13_bitCount_95d88 22 = .ok (.ladd, 1) := by decide +kernel
theorem dJ13_bitCount_95d88_23 : decode cJ13_bitCount_95d88 23 = .ok (.lstore_n 0, 1) := by decide +kernel
theorem dJ13_bitCount_95d88_24 : decode cJ13_bitCount_95d88 24 = .ok (.lload_n 0, 1) := by decide +kernel
theorem dJ13_bitCount_95d88_25 : decode cJ13_bitCount_95d88 25 = .ok (.lload_n 0, 1) := by decide +kernel
theorem dJ13_bitCount_95d88_26 : decode cJ13_bitCount_95d88 26 = .ok (.iconst 4, 1) := by decide +kernel
theorem dJ13_bitCount_95d88_27 : decode cJ13_bitCount_95d88 27 = .ok (.lushr, 1) := by decide +kernel
theorem dJ13_bitCount_95d88_28 : decode cJ13_bitCount_95d88 28 = .ok (.ladd, 1) := by decide +kernel
theorem dJ13_bitCount_95d88_29 : decode cJ13_bitCount_95d88 29 = .ok (.ldc2_w 318, 3) := by decide +kernel
theorem dJ13_bitCount_95d88_32 : decode cJ13_bitCount_95d88 32 = .ok (.land, 1) := by decide +kernel
theorem dJ13_bitCount_95d88_33 : decode cJ13_bitCount_95d88 33 = .ok (.lstore_n 0, 1) := by decide +kernel
theorem dJ13_bitCount_95d88_34 : decode cJ13_bitCount_95d88 34 = .ok (.lload_n 0, 1) := by decide +kernel
theorem dJ13_bitCount_95d88_35 : decode cJ13_bitCount_95d88 35 = .ok (.lload_n 0, 1) := by decide +kernel
theorem dJ13_bitCount_95d88_36 : decode cJ13_bitCount_95d88 36 = .ok (.bipush 8, 2) := by decide +kernel
theorem dJ13_bitCount_95d88_38 : decode cJ13_bitCount_95d88 38 = .ok (.lushr, 1) := by decide +kernel
theorem dJ13_bitCount_95d88_39 : decode cJ13_bitCount_95d88 39 = .ok (.ladd, 1) := by decide +kernel
theorem dJ13_bitCount_95d88_40 : decode cJ13_bitCount_95d88 40 = .ok (.lstore_n 0, 1) := by decide +kernel
theorem dJ13_bitCount_95d88_41 : decode cJ13_bitCount_95d88 41 = .ok (.lload_n 0, 1) := by decide +kernel
theorem dJ13_bitCount_95d88_42 : decode cJ13_bitCount_95d88 42 = .ok (.lload_n 0, 1) := by decide +kernel
theorem dJ13_bitCount_95d88_43 : decode cJ13_bitCount_95d88 43 = .ok (.bipush 16, 2) := by decide +kernel
theorem dJ13_bitCount_95d88_45 : decode cJ13_bitCount_95d88 45 = .ok (.lushr, 1) := by decide +kernel
theorem dJ13_bitCount_95d88_46 : decode cJ13_bitCount_95d88 46 = .ok (.ladd, 1) := by decide +kernel
theorem dJ13_bitCount_95d88_47 : decode cJ13_bitCount_95d88 47 = .ok (.lstore_n 0, 1) := by decide +kernel
theorem dJ13_bitCount_95d88_48 : decode cJ13_bitCount_95d88 48 = .ok (.lload_n 0, 1) := by decide +kernel
theorem dJ13_bitCount_95d88_49 : decode cJ13_bitCount_95d88 49 = .ok (.lload_n 0, 1) := by decide +kernel
theorem dJ13_bitCount_95d88_50 : decode cJ13_bitCount_95d88 50 = .ok (.bipush 32, 2) := by decide +kernel
theorem dJ13_bitCount_95d88_52 : decode cJ13_bitCount_95d88 52 = .ok (.lushr, 1) := by decide +kernel
theorem dJ13_bitCount_95d88_53 : decode cJ13_bitCount_95d88 53 = .ok (.ladd, 1) := by decide +kernel
theorem dJ13_bitCount_95d88_54 : decode cJ13_bitCount_95d88 54 = .ok (.lstore_n 0, 1) := by decide +kernel
theorem dJ13_bitCount_95d88_55 : decode cJ13_bitCount_95d88 55 = .ok (.lload_n 0, 1) := by decide +kernel
theorem dJ13_bitCount_95d88_56 : decode cJ13_bitCount_95d88 56 = .ok (.l2i, 1) := by decide +kernel
theorem dJ13_bitCount_95d88_57 : decode cJ13_bitCount_95d88 57 = .ok (.bipush 127, 2) := by decide +kernel
theorem dJ13_bitCount_95d88_59 : decode cJ13_bitCount_95d88 59 = .ok (.iand, 1) := by decide +kernel
theorem dJ13_bitCount_95d88_60 : decode cJ13_bitCount_95d88 60 = .ok (.ireturn, 1) := by decide +kernel
theorem dJ9_max_7cf53_0 : decode cJ9_max_7cf53 0 = .ok (.iload_n 0, 1) := by decide +kernel
theorem dJ9_max_7cf53_1 : decode cJ9_max_7cf53 1 = .ok (.iload_n 1, 1) := by decide +kernel
theorem dJ9_max_7cf53_2 : decode cJ9_max_7cf53 2 = .ok (.if_icmp .lt 7, 3) := by decide +kernel
theorem dJ9_max_7cf53_5 : decode cJ9_max_7cf53 5 = .ok (.iload_n 0, 1) := by decide +kernel
theorem dJ9_max_7cf53_6 : decode cJ9_max_7cf53 6 = .ok (.goto 4, 3) := by decide +kernel
theorem dJ9_max_7cf53_9 : decode cJ9_max_7cf53 9 = .ok (.iload_n 1, 1) := by decide +kernel
theorem dJ9_max_7cf53_10 : decode cJ9_max_7cf53 10 = .ok (.ireturn, 1) := by decide +kernel
theorem dJ9_max_f86c9_0 : decode cJ9_max_f86c9 0 = .ok (.lload_n 0, 1) := by decide +kernel
theorem dJ9_max_f86c9_1 : decode cJ9_max_f86c9 1 = .ok (.lload_n 2, 1) := by decide +kernel
theorem dJ9_max_f86c9_2 : decode cJ9_max_f86c9 2 = .ok (.lcmp, 1) := by decide +kernel
theorem dJ9_max_f86c9_3 : decode cJ9_max_f86c9 3 = .ok (.ifCond .lt 7, 3) := by decide +kernel
theorem dJ9_max_f86c9_6 : decode cJ9_max_f86c9 6 = .ok (.lload_n 0, 1) := by decide +kernel
theorem dJ9_max_f86c9_7 : decode cJ9_max_f86c9 7 = .ok (.goto 4, 3) := by decide +kernel
theorem dJ9_max_f86c9_10 : decode cJ9_max_f86c9 10 = .ok (.lload_n 2, 1) := by decide +kernel
theorem dJ9_max_f86c9_11 : decode cJ9_max_f86c9 11 = .ok (.lreturn, 1) := by decide +kernel
theorem dJ9_min_7cf53_0 : decode cJ9_min_7cf53 0 = .ok (.iload_n 0, 1) := by decide +kernel
theorem dJ9_min_7cf53_1 : decode cJ9_min_7cf53 1 = .ok (.iload_n 1, 1) := by decide +kernel
theorem dJ9_min_7cf53_2 : decode cJ9_min_7cf53 2 = .ok (.if_icmp .gt 7, 3) := by decide +kernel
theorem dJ9_min_7cf53_5 : decode cJ9_min_7cf53 5 = .ok (.iload_n 0, 1) := by decide +kernel
theorem dJ9_min_7cf53_6 : decode cJ9_min_7cf53 6 = .ok (.goto 4, 3) := by decide +kernel
theorem dJ9_min_7cf53_9 : decode cJ9_min_7cf53 9 = .ok (.iload_n 1, 1) := by decide +kernel
theorem dJ9_min_7cf53_10 : decode cJ9_min_7cf53 10 = .ok (.ireturn, 1) := by decide +kernel
theorem dJ9_min_f86c9_0 : decode cJ9_min_f86c9 0 = .ok (.lload_n 0, 1) := by decide +kernel
theorem dJ9_min_f86c9_1 : decode cJ9_min_f86c9 1 = .ok (.lload_n 2, 1) := by decide +kernel
theorem dJ9_min_f86c9_2 : decode cJ9_min_f86c9 2 = .ok (.lcmp, 1) := by decide +kernel
theorem dJ9_min_f86c9_3 : decode cJ9_min_f86c9 3 = .ok (.ifCond .gt 7, 3) := by decide +kernel
theorem dJ9_min_f86c9_6 : decode cJ9_min_f86c9 6 = .ok (.lload_n 0, 1) := by decide +kernel
theorem dJ9_min_f86c9_7 : decode cJ9_min_f86c9 7 = .ok (.goto 4, 3) := by decide +kernel
theorem dJ9_min_f86c9_10 : decode cJ9_min_f86c9 10 = .ok (.lload_n 2, 1) := by decide +kernel
theorem dJ9_min_f86c9_11 : decode cJ9_min_f86c9 11 = .ok (.lreturn, 1) := by decide +kernel
set_option maxRecDepth 20000 in
theorem ggL_addPoint_X9_addPoint : GoodIn wsL_addPoint wsX9_addPoint := goodIn_ca (goodIn_ca (goodIn_r _ [7, 8, 9, 10, 11, 12, 13, 14, 15, 6, 16, 17, 18, 19, 20, 21, 22, 23, 24, 25, 26, 27, 28, 29, 30, 31, 32, 33, 34, 35, 36, 37, 38, 39, 40, 41, 42, 43, 44, 45, 46, 47, 48, 49, 50, 51, 52, 53, 54, 55, 56, 57, 58, 59, 60, 61, 62, 63, 64, 65, 66, 67, 68, 69, 70, 71, 72, 73, 74, 75, 76, 77, 78, 79, 80, 81] (by decide +kernel) (by decide +kernel)) (goodIn_sub (fun _ h => List.mem_cons_of_mem _ (List.mem_append_left _ (List.mem_append_right _ h))) (by decide +kernel))) (goodIn_sub (fun _ h => List.mem_cons_of_mem _ (List.mem_append_right _ h)) (by decide +kernel))
set_option maxRecDepth 20000 in
theorem gL_addPoint_X9_addPoint : GoodIn wsL_addPoint (wsV RL 7 RX9 yX9_addPoint wsX9_addPoint) := goodIn_app (goodIn_of _ (by decide +kernel)) ggL_addPoint_X9_addPoint
theorem dL_addPoint_0 : decode cL_addPoint 0 = .ok (.aload 5, 2) := by decide +kernel
theorem dL_addPoint_2 : decode cL_addPoint 2 = .ok (.iconst 0, 1) := by decide +kernel
theorem dL_addPoint_3 : decode cL_addPoint 3 = .ok (.aload_n 0, 1) := by decide +kernel
theorem dL_addPoint_4 : decode cL_addPoint 4 = .ok (.iload_n 1, 1) := by decide +kernel
theorem dL_addPoint_5 : decode cL_addPoint 5 = .ok (.iload_n 2, 1) := by decide +kernel
theorem dL_addPoint_6 : decode cL_addPoint 6 = .ok (.iload_n 3, 1) := by decide +kernel
theorem dL_addPoint_7 : decode cL_addPoint 7 = .ok (.iload 4, 2) := by decide +kernel
theorem dL_addPoint_9 : decode cL_addPoint 9 = .ok (.invokevirtual 7, 3) := by decide +kernel
theorem dL_addPoint_12 : decode cL_addPoint 12 = .ok (.i2l, 1) := by decide +kernel
theorem dL_addPoint_13 : decode cL_addPoint 13 = .ok (.lastore, 1) := by decide +kernel
theorem dL_addPoint_14 : decode cL_addPoint 14 = .ok (.goto 11, 3) := by decide +kernel
theorem dL_addPoint_17 : decode cL_addPoint 17 = .ok (.astore 6, 2) := by decide +kernel
theorem dL_addPoint_19 : decode cL_addPoint 19 = .ok (.iconst 1, 1) := by decide +kernel
theorem dL_addPoint_20 : decode cL_addPoint 20 = .ok (.ireturn, 1) := by decide +kernel
theorem dL_addPoint_21 : decode cL_addPoint 21 = .ok (.astore 6, 2) := by decide +kernel
theorem dL_addPoint_23 : decode cL_addPoint 23 = .ok (.iconst 2, 1) := by decide +kernel
theorem dL_addPoint_24 : decode cL_addPoint 24 = .ok (.ireturn, 1) := by decide +kernel
theorem dL_addPoint_25 : decode cL_addPoint 25 = .ok (.iconst 0, 1) := by decide +kernel
theorem dL_addPoint_26 : decode cL_addPoint 26 = .ok (.ireturn, 1) := by decide +kernel
set_option maxRecDepth 20000 in
theorem ggL_place_X9_place : GoodIn wsL_place wsX9_place := goodIn_ca (goodIn_r _ [6, 7, 8, 9, 5, 10, 11, 12, 13, 14, 15, 16, 17, 18, 19, 20, 21, 22, 23, 24, 25, 26, 27, 28, 29, 30, 31, 32, 33, 34, 35, 36, 37, 38, 39] (by decide +kernel) (by decide +kernel)) (goodIn_sub (fun _ h => List.mem_cons_of_mem _ (List.mem_append_right _ h)) (by decide +kernel))
set_option maxRecDepth 20000 in
theorem gL_place_X9_place : GoodIn wsL_place (wsV RL 17 RX9 yX9_place wsX9_place) := goodIn_app (goodIn_of _ (by decide +kernel)) ggL_place_X9_place
theorem dL_place_0 : decode cL_place 0 = .ok (.aload_n 2, 1) := by decide +kernel
theorem dL_place_1 : decode cL_place 1 = .ok (.iconst 0, 1) := by decide +kernel
theorem dL_place_2 : decode cL_place 2 = .ok (.aload_n 0, 1) := by decide +kernel
theorem dL_place_3 : decode cL_place 3 = .ok (.iload_n 1, 1) := by decide +kernel
theorem dL_place_4 : decode cL_place 4 = .ok (.invokevirtual 17, 3) := by decide +kernel
theorem dL_place_7 : decode cL_place 7 = .ok (.i2l, 1) := by decide +kernel
theorem dL_place_8 : decode cL_place 8 = .ok (.lastore, 1) := by decide +kernel
theorem dL_place_9 : decode cL_place 9 = .ok (.goto 6, 3) := by decide +kernel
theorem dL_place_12 : decode cL_place 12 = .ok (.astore_n 3, 1) := by decide +kernel
theorem dL_place_13 : decode cL_place 13 = .ok (.iconst 1, 1) := by decide +kernel
theorem dL_place_14 : decode cL_place 14 = .ok (.ireturn, 1) := by decide +kernel
theorem dL_place_15 : decode cL_place 15 = .ok (.iconst 0, 1) := by decide +kernel
theorem dL_place_16 : decode cL_place 16 = .ok (.ireturn, 1) := by decide +kernel
set_option maxRecDepth 20000 in
theorem ggL_put_X9_put : GoodIn wsL_put wsX9_put := goodIn_ca (goodIn_ca (goodIn_r _ [7, 8, 9, 10, 11, 12, 6, 13, 14, 15, 16, 17, 18, 19, 20, 21, 22, 23, 24, 25, 26, 27, 28, 29, 30, 31, 32, 33, 34, 35, 36, 37, 38, 39, 40, 41, 42, 43, 44, 45, 46, 47, 48, 49, 50, 51, 52, 53, 54, 55, 56, 57] (by decide +kernel) (by decide +kernel)) (goodIn_sub (fun _ h => List.mem_cons_of_mem _ (List.mem_append_left _ (List.mem_append_right _ h))) (by decide +kernel))) (goodIn_sub (fun _ h => List.mem_cons_of_mem _ (List.mem_append_right _ h)) (by decide +kernel))
set_option maxRecDepth 20000 in
theorem gL_put_X9_put : GoodIn wsL_put (wsV RL 23 RX9 yX9_put wsX9_put) := goodIn_app (goodIn_of _ (by decide +kernel)) ggL_put_X9_put
theorem dL_put_0 : decode cL_put 0 = .ok (.aload_n 3, 1) := by decide +kernel
theorem dL_put_1 : decode cL_put 1 = .ok (.iconst 0, 1) := by decide +kernel
theorem dL_put_2 : decode cL_put 2 = .ok (.aload_n 0, 1) := by decide +kernel
theorem dL_put_3 : decode cL_put 3 = .ok (.iload_n 1, 1) := by decide +kernel
theorem dL_put_4 : decode cL_put 4 = .ok (.iload_n 2, 1) := by decide +kernel
theorem dL_put_5 : decode cL_put 5 = .ok (.invokevirtual 23, 3) := by decide +kernel
theorem dL_put_8 : decode cL_put 8 = .ok (.i2l, 1) := by decide +kernel
theorem dL_put_9 : decode cL_put 9 = .ok (.lastore, 1) := by decide +kernel
theorem dL_put_10 : decode cL_put 10 = .ok (.goto 11, 3) := by decide +kernel
theorem dL_put_13 : decode cL_put 13 = .ok (.astore 4, 2) := by decide +kernel
theorem dL_put_15 : decode cL_put 15 = .ok (.iconst 1, 1) := by decide +kernel
theorem dL_put_16 : decode cL_put 16 = .ok (.ireturn, 1) := by decide +kernel
theorem dL_put_17 : decode cL_put 17 = .ok (.astore 4, 2) := by decide +kernel
theorem dL_put_19 : decode cL_put 19 = .ok (.iconst 2, 1) := by decide +kernel
theorem dL_put_20 : decode cL_put 20 = .ok (.ireturn, 1) := by decide +kernel
theorem dL_put_21 : decode cL_put 21 = .ok (.iconst 0, 1) := by decide +kernel
theorem dL_put_22 : decode cL_put 22 = .ok (.ireturn, 1) := by decide +kernel
set_option maxRecDepth 20000 in
theorem ggL_send_X9_send : GoodIn wsL_send wsX9_send := goodIn_ca (goodIn_ca (goodIn_r _ [7, 8, 9, 10, 11, 12, 13, 14, 15, 16, 17, 18, 19, 20, 21, 22, 23, 24, 25, 26, 27, 28, 29, 30, 31, 32, 33, 34, 35, 36, 37, 38, 39, 40, 41, 42, 43, 44, 45, 46, 47, 48, 49, 50, 51, 52, 53, 54, 55, 56, 57, 58, 59, 60, 61, 62, 63, 64, 65, 66, 67, 68, 69, 70, 71, 72, 73, 74, 75, 76, 77, 78, 79, 80, 81, 82, 83, 84, 85, 86, 87, 88, 89, 90, 91, 92, 93, 94, 95, 96, 97, 98, 99, 100, 101] (by decide +kernel) (by decide +kernel)) (goodIn_sub (fun _ h => List.mem_cons_of_mem _ (List.mem_append_left _ (List.mem_append_right _ h))) (by decide +kernel))) (goodIn_sub (fun _ h => List.mem_cons_of_mem _ (List.mem_append_right _ h)) (by decide +kernel))
set_option maxRecDepth 20000 in
theorem gL_send_X9_send : GoodIn wsL_send (wsV RL 27 RX9 yX9_send wsX9_send) := goodIn_app (goodIn_of _ (by decide +kernel)) ggL_send_X9_send
theorem dL_send_0 : decode cL_send 0 = .ok (.aload_n 2, 1) := by decide +kernel
theorem dL_send_1 : decode cL_send 1 = .ok (.iconst 0, 1) := by decide +kernel
theorem dL_send_2 : decode cL_send 2 = .ok (.aload_n 0, 1) := by decide +kernel
theorem dL_send_3 : decode cL_send 3 = .ok (.iload_n 1, 1) := by decide +kernel
theorem dL_send_4 : decode cL_send 4 = .ok (.invokevirtual 27, 3) := by decide +kernel
theorem dL_send_7 : decode cL_send 7 = .ok (.i2l, 1) := by decide +kernel
theorem dL_send_8 : decode cL_send 8 = .ok (.lastore, 1) := by decide +kernel
theorem dL_send_9 : decode cL_send 9 = .ok (.goto 9, 3) := by decide +kernel
theorem dL_send_12 : decode cL_send 12 = .ok (.astore_n 3, 1) := by decide +kernel
theorem dL_send_13 : decode cL_send 13 = .ok (.iconst 1, 1) := by decide +kernel
theorem dL_send_14 : decode cL_send 14 = .ok (.ireturn, 1) := by decide +kernel
theorem dL_send_15 : decode cL_send 15 = .ok (.astore_n 3, 1) := by decide +kernel
theorem dL_send_16 : decode cL_send 16 = .ok (.iconst 2, 1) := by decide +kernel
theorem dL_send_17 : decode cL_send 17 = .ok (.ireturn, 1) := by decide +kernel
theorem dL_send_18 : decode cL_send 18 = .ok (.iconst 0, 1) := by decide +kernel
theorem dL_send_19 : decode cL_send 19 = .ok (.ireturn, 1) := by decide +kernel
set_option maxRecDepth 20000 in
theorem ggL_bit_X9_bit : GoodIn wsL_bit wsX9_bit := goodIn_ca (goodIn_r _ [6, 7, 8, 9, 10, 11, 12, 13, 14, 15, 16, 17, 18, 19, 20, 21, 22, 23, 24, 25, 26, 27, 28, 29, 30, 31, 32, 33, 34, 35] (by decide +kernel) (by decide +kernel)) (goodIn_sub (fun _ h => List.mem_cons_of_mem _ (List.mem_append_right _ h)) (by decide +kernel))
set_option maxRecDepth 20000 in
theorem gL_bit_X9_bit : GoodIn wsL_bit (wsV RL 30 RX9 yX9_bit wsX9_bit) := goodIn_app (goodIn_of _ (by decide +kernel)) ggL_bit_X9_bit
theorem dL_bit_0 : decode cL_bit 0 = .ok (.aload_n 2, 1) := by decide +kernel
theorem dL_bit_1 : decode cL_bit 1 = .ok (.iconst 0, 1) := by decide +kernel
theorem dL_bit_2 : decode cL_bit 2 = .ok (.aload_n 0, 1) := by decide +kernel
theorem dL_bit_3 : decode cL_bit 3 = .ok (.iload_n 1, 1) := by decide +kernel
theorem dL_bit_4 : decode cL_bit 4 = .ok (.invokevirtual 30, 3) := by decide +kernel
theorem dL_bit_7 : decode cL_bit 7 = .ok (.i2l, 1) := by decide +kernel
theorem dL_bit_8 : decode cL_bit 8 = .ok (.lastore, 1) := by decide +kernel
theorem dL_bit_9 : decode cL_bit 9 = .ok (.goto 6, 3) := by decide +kernel
theorem dL_bit_12 : decode cL_bit 12 = .ok (.astore_n 3, 1) := by decide +kernel
theorem dL_bit_13 : decode cL_bit 13 = .ok (.iconst 1, 1) := by decide +kernel
theorem dL_bit_14 : decode cL_bit 14 = .ok (.ireturn, 1) := by decide +kernel
theorem dL_bit_15 : decode cL_bit 15 = .ok (.iconst 0, 1) := by decide +kernel
theorem dL_bit_16 : decode cL_bit 16 = .ok (.ireturn, 1) := by decide +kernel
set_option maxRecDepth 20000 in
theorem ggL_flip_X9_flip : GoodIn wsL_flip wsX9_flip := goodIn_ca (goodIn_r _ [6, 7, 8, 9, 10, 11, 12, 13, 14, 15, 16, 17, 18, 19, 20, 21, 22, 23, 24, 25, 26, 27, 28, 29, 30, 31, 32, 33, 34, 35] (by decide +kernel) (by decide +kernel)) (goodIn_sub (fun _ h => List.mem_cons_of_mem _ (List.mem_append_right _ h)) (by decide +kernel))
set_option maxRecDepth 20000 in
theorem gL_flip_X9_flip : GoodIn wsL_flip (wsV RL 33 RX9 yX9_flip wsX9_flip) := goodIn_app (goodIn_of _ (by decide +kernel)) ggL_flip_X9_flip
theorem dL_flip_0 : decode cL_flip 0 = .ok (.aload_n 2, 1) := by decide +kernel
theorem dL_flip_1 : decode cL_flip 1 = .ok (.iconst 0, 1) := by decide +kernel
theorem dL_flip_2 : decode cL_flip 2 = .ok (.aload_n 0, 1) := by decide +kernel
theorem dL_flip_3 : decode cL_flip 3 = .ok (.iload_n 1, 1) := by decide +kernel
theorem dL_flip_4 : decode cL_flip 4 = .ok (.invokevirtual 33, 3) := by decide +kernel
theorem dL_flip_7 : decode cL_flip 7 = .ok (.i2l, 1) := by decide +kernel
theorem dL_flip_8 : decode cL_flip 8 = .ok (.lastore, 1) := by decide +kernel
theorem dL_flip_9 : decode cL_flip 9 = .ok (.goto 6, 3) := by decide +kernel
theorem dL_flip_12 : decode cL_flip 12 = .ok (.astore_n 3, 1) := by decide +kernel
theorem dL_flip_13 : decode cL_flip 13 = .ok (.iconst 1, 1) := by decide +kernel
theorem dL_flip_14 : decode cL_flip 14 = .ok (.ireturn, 1) := by decide +kernel
theorem dL_flip_15 : decode cL_flip 15 = .ok (.iconst 0, 1) := by decide +kernel
theorem dL_flip_16 : decode cL_flip 16 = .ok (.ireturn, 1) := by decide +kernel
set_option maxRecDepth 20000 in
theorem ggL_cut_X9_cut : GoodIn wsL_cut wsX9_cut := goodIn_ca (goodIn_ca (goodIn_r _ [7, 8, 9, 10, 11, 12, 13, 14, 15, 16, 17, 18, 19, 20, 21, 22, 23, 24, 25, 26, 27, 28, 29, 30, 31, 32, 33, 34, 35, 36, 37, 38, 39, 40, 41, 42, 43] (by decide +kernel) (by decide +kernel)) (goodIn_sub (fun _ h => List.mem_cons_of_mem _ (List.mem_append_left _ (List.mem_append_right _ h))) (by decide +kernel))) (goodIn_sub (fun _ h => List.mem_cons_of_mem _ (List.mem_append_right _ h)) (by decide +kernel))
set_option maxRecDepth 20000 in
theorem gL_cut_X9_cut : GoodIn wsL_cut (wsV RL 36 RX9 yX9_cut wsX9_cut) := goodIn_app (goodIn_of _ (by decide +kernel)) ggL_cut_X9_cut
theorem dL_cut_0 : decode cL_cut 0 = .ok (.aload_n 3, 1) := by decide +kernel
theorem dL_cut_1 : decode cL_cut 1 = .ok (.iconst 0, 1) := by decide +kernel
theorem dL_cut_2 : decode cL_cut 2 = .ok (.aload_n 0, 1) := by decide +kernel
theorem dL_cut_3 : decode cL_cut 3 = .ok (.iload_n 1, 1) := by decide +kernel
theorem dL_cut_4 : decode cL_cut 4 = .ok (.iload_n 2, 1) := by decide +kernel
theorem dL_cut_5 : decode cL_cut 5 = .ok (.invokevirtual 36, 3) := by decide +kernel
theorem dL_cut_8 : decode cL_cut 8 = .ok (.i2l, 1) := by decide +kernel
theorem dL_cut_9 : decode cL_cut 9 = .ok (.lastore, 1) := by decide +kernel
theorem dL_cut_10 : decode cL_cut 10 = .ok (.goto 11, 3) := by decide +kernel
theorem dL_cut_13 : decode cL_cut 13 = .ok (.astore 4, 2) := by decide +kernel
theorem dL_cut_15 : decode cL_cut 15 = .ok (.iconst 1, 1) := by decide +kernel
theorem dL_cut_16 : decode cL_cut 16 = .ok (.ireturn, 1) := by decide +kernel
theorem dL_cut_17 : decode cL_cut 17 = .ok (.astore 4, 2) := by decide +kernel
theorem dL_cut_19 : decode cL_cut 19 = .ok (.iconst 2, 1) := by decide +kernel
theorem dL_cut_20 : decode cL_cut 20 = .ok (.ireturn, 1) := by decide +kernel
theorem dL_cut_21 : decode cL_cut 21 = .ok (.iconst 0, 1) := by decide +kernel
theorem dL_cut_22 : decode cL_cut 22 = .ok (.ireturn, 1) := by decide +kernel
set_option maxRecDepth 20000 in
theorem ggL_receive_X9_receive : GoodIn wsL_receive wsX9_receive := goodIn_ca (goodIn_r _ [6, 7, 8, 9, 10, 11, 12, 13, 14, 15, 16, 17, 18, 19, 20, 21, 22, 23, 24, 25, 26, 27, 28, 29, 30, 31, 32, 33, 34, 35, 36, 37, 38, 39, 40, 41, 42, 43, 44, 45, 46, 47, 48, 49, 50, 51, 52, 53, 54, 55, 56, 57, 58, 59, 60, 61, 62, 63, 64, 65, 66, 67, 68, 69, 70, 71, 72, 73, 74, 75, 76, 77, 78, 79, 80, 81, 82, 83, 84, 85, 86, 87, 88, 89, 90, 91, 92, 93, 94, 95, 96, 97, 98, 99, 100, 101, 102, 103, 104, 105, 106, 107, 108, 109, 110, 111, 112, 113, 114, 115, 116, 117, 118, 119, 120, 121, 122, 123, 124, 125, 126, 127, 128, 129, 130, 131, 132, 133, 134, 135, 136, 137, 138, 139, 140, 141, 142, 143, 144, 145, 146, 147, 148, 149, 150, 151, 152, 153, 154, 155, 156, 157, 158, 159, 160, 161, 162, 163, 164, 165, 166, 167, 168, 169, 170, 171, 172, 173, 174, 175, 176, 177, 178, 179, 180, 181, 182, 183, 184, 185, 186, 187, 188] (by decide +kernel) (by decide +kernel)) (goodIn_sub (fun _ h => List.mem_cons_of_mem _ (List.mem_append_right _ h)) (by decide +kernel))
set_option maxRecDepth 20000 in
theorem gL_receive_X9_receive : GoodIn wsL_receive (wsV RL 39 RX9 yX9_receive wsX9_receive) := goodIn_app (goodIn_of _ (by decide +kernel)) ggL_receive_X9_receive
theorem dL_receive_0 : decode cL_receive 0 = .ok (.aload_n 2, 1) := by decide +kernel
theorem dL_receive_1 : decode cL_receive 1 = .ok (.iconst 0, 1) := by decide +kernel
theorem dL_receive_2 : decode cL_receive 2 = .ok (.aload_n 0, 1) := by decide +kernel
theorem dL_receive_3 : decode cL_receive 3 = .ok (.iload_n 1, 1) := by decide +kernel
theorem dL_receive_4 : decode cL_receive 4 = .ok (.invokevirtual 39, 3) := by decide +kernel
theorem dL_receive_7 : decode cL_receive 7 = .ok (.i2l, 1) := by decide +kernel
theorem dL_receive_8 : decode cL_receive 8 = .ok (.lastore, 1) := by decide +kernel
theorem dL_receive_9 : decode cL_receive 9 = .ok (.goto 6, 3) := by decide +kernel
theorem dL_receive_12 : decode cL_receive 12 = .ok (.astore_n 3, 1) := by decide +kernel
theorem dL_receive_13 : decode cL_receive 13 = .ok (.iconst 1, 1) := by decide +kernel
theorem dL_receive_14 : decode cL_receive 14 = .ok (.ireturn, 1) := by decide +kernel
theorem dL_receive_15 : decode cL_receive 15 = .ok (.iconst 0, 1) := by decide +kernel
theorem dL_receive_16 : decode cL_receive 16 = .ok (.ireturn, 1) := by decide +kernel
set_option maxRecDepth 20000 in
theorem ggL_number_X9_number : GoodIn wsL_number wsX9_number := goodIn_ca (goodIn_r _ [6, 7, 8, 9, 10, 11, 12, 13, 14, 15, 16, 17, 18, 19, 20] (by decide +kernel) (by decide +kernel)) (goodIn_sub (fun _ h => List.mem_cons_of_mem _ (List.mem_append_right _ h)) (by decide +kernel))
set_option maxRecDepth 20000 in
theorem gL_number_X9_number : GoodIn wsL_number (wsV RL 42 RX9 yX9_number wsX9_number) := goodIn_app (goodIn_of _ (by decide +kernel)) ggL_number_X9_number
theorem dL_number_0 : decode cL_number 0 = .ok (.aload_n 1, 1) := by decide +kernel
theorem dL_number_1 : decode cL_number 1 = .ok (.iconst 0, 1) := by decide +kernel
theorem dL_number_2 : decode cL_number 2 = .ok (.aload_n 0, 1) := by decide +kernel
theorem dL_number_3 : decode cL_number 3 = .ok (.invokevirtual 42, 3) := by decide +kernel
theorem dL_number_6 : decode cL_number 6 = .ok (.i2l, 1) := by decide +kernel
theorem dL_number_7 : decode cL_number 7 = .ok (.lastore, 1) := by decide +kernel
theorem dL_number_8 : decode cL_number 8 = .ok (.goto 6, 3) := by decide +kernel
theorem dL_number_11 : decode cL_number 11 = .ok (.astore_n 2, 1) := by decide +kernel
theorem dL_number_12 : decode cL_number 12 = .ok (.iconst 1, 1) := by decide +kernel
theorem dL_number_13 : decode cL_number 13 = .ok (.ireturn, 1) := by decide +kernel
theorem dL_number_14 : decode cL_number 14 = .ok (.iconst 0, 1) := by decide +kernel
theorem dL_number_15 : decode cL_number 15 = .ok (.ireturn, 1) := by decide +kernel
set_option maxRecDepth 20000 in
theorem ggL_value_X9_value : GoodIn wsL_value wsX9_value := goodIn_ca (goodIn_ca (goodIn_r _ [7, 8, 9, 10, 6, 11, 12, 13, 14, 15, 16, 17, 18, 19, 20, 21, 22, 23, 24, 25, 26, 27, 28, 29, 30, 31, 32, 33, 34, 35, 36, 37, 38, 39, 40, 41, 42, 43, 44, 45, 46, 47, 48] (by decide +kernel) (by decide +kernel)) (goodIn_sub (fun _ h => List.mem_cons_of_mem _ (List.mem_append_left _ (List.mem_append_right _ h))) (by decide +kernel))) (goodIn_sub (fun _ h => List.mem_cons_of_mem _ (List.mem_append_right _ h)) (by decide +kernel))
set_option maxRecDepth 20000 in
theorem gL_value_X9_value : GoodIn wsL_value (wsV RL 48 RX9 yX9_value wsX9_value) := goodIn_app (goodIn_of _ (by decide +kernel)) ggL_value_X9_value
theorem dL_value_0 : decode cL_value 0 = .ok (.aload_n 2, 1) := by decide +kernel
theorem dL_value_1 : decode cL_value 1 = .ok (.iconst 0, 1) := by decide +kernel
theorem dL_value_2 : decode cL_value 2 = .ok (.aload_n 0, 1) := by decide +kernel
theorem dL_value_3 : decode cL_value 3 = .ok (.iload_n 1, 1) := by decide +kernel
theorem dL_value_4 : decode cL_value 4 = .ok (.invokevirtual 48, 3) := by decide +kernel
theorem dL_value_7 : decode cL_value 7 = .ok (.i2l, 1) := by decide +kernel
theorem dL_value_8 : decode cL_value 8 = .ok (.lastore, 1) := by decide +kernel
theorem dL_value_9 : decode cL_value 9 = .ok (.goto 9, 3) := by decide +kernel
theorem dL_value_12 : decode cL_value 12 = .ok (.astore_n 3, 1) := by decide +kernel
theorem dL_value_13 : decode cL_value 13 = .ok (.iconst 1, 1) := by decide +kernel
theorem dL_value_14 : decode cL_value 14 = .ok (.ireturn, 1) := by decide +kernel
theorem dL_value_15 : decode cL_value 15 = .ok (.astore_n 3, 1) := by decide +kernel
theorem dL_value_16 : decode cL_value 16 = .ok (.iconst 2, 1) := by decide +kernel
theorem dL_value_17 : decode cL_value 17 = .ok (.ireturn, 1) := by decide +kernel
theorem dL_value_18 : decode cL_value 18 = .ok (.iconst 0, 1) := by decide +kernel
theorem dL_value_19 : decode cL_value 19 = .ok (.ireturn, 1) := by decide +kernel
set_option maxRecDepth 20000 in
theorem ggL_time_X9_time : GoodIn wsL_time wsX9_time := goodIn_ca (goodIn_ca (goodIn_r _ [7, 8, 9, 10, 6, 11, 12, 13, 14, 15, 16, 17, 18, 19, 20, 21, 22, 23, 24, 25, 26, 27, 28, 29, 30, 31, 32, 33, 34, 35, 36, 37, 38, 39, 40, 41, 42, 43, 44, 45, 46, 47, 48] (by decide +kernel) (by decide +kernel)) (goodIn_sub (fun _ h => List.mem_cons_of_mem _ (List.mem_append_left _ (List.mem_append_right _ h))) (by decide +kernel))) (goodIn_sub (fun _ h => List.mem_cons_of_mem _ (List.mem_append_right _ h)) (by decide +kernel))
set_option maxRecDepth 20000 in
theorem gL_time_X9_time : GoodIn wsL_time (wsV RL 51 RX9 yX9_time wsX9_time) := goodIn_app (goodIn_of _ (by decide +kernel)) ggL_time_X9_time
theorem dL_time_0 : decode cL_time 0 = .ok (.aload_n 2, 1) := by decide +kernel
theorem dL_time_1 : decode cL_time 1 = .ok (.iconst 0, 1) := by decide +kernel
theorem dL_time_2 : decode cL_time 2 = .ok (.aload_n 0, 1) := by decide +kernel
theorem dL_time_3 : decode cL_time 3 = .ok (.iload_n 1, 1) := by decide +kernel
theorem dL_time_4 : decode cL_time 4 = .ok (.invokevirtual 51, 3) := by decide +kernel
theorem dL_time_7 : decode cL_time 7 = .ok (.i2l, 1) := by decide +kernel
theorem dL_time_8 : decode cL_time 8 = .ok (.lastore, 1) := by decide +kernel
theorem dL_time_9 : decode cL_time 9 = .ok (.goto 9, 3) := by decide +kernel
theorem dL_time_12 : decode cL_time 12 = .ok (.astore_n 3, 1) := by decide +kernel
theorem dL_time_13 : decode cL_time 13 = .ok (.iconst 1, 1) := by decide +kernel
theorem dL_time_14 : decode cL_time 14 = .ok (.ireturn, 1) := by decide +kernel
theorem dL_time_15 : decode cL_time 15 = .ok (.astore_n 3, 1) := by decide +kernel
theorem dL_time_16 : decode cL_time 16 = .ok (.iconst 2, 1) := by decide +kernel
theorem dL_time_17 : decode cL_time 17 = .ok (.ireturn, 1) := by decide +kernel
theorem dL_time_18 : decode cL_time 18 = .ok (.iconst 0, 1) := by decide +kernel
theorem dL_time_19 : decode cL_time 19 = .ok (.ireturn, 1) := by decide +kernel
set_option maxRecDepth 20000 in
theorem ggL_samples_X9_samples : GoodIn wsL_samples wsX9_samples := goodIn_ca (goodIn_r _ [6, 7, 8, 9, 5, 10, 11, 12, 13, 14, 15, 16, 17, 18, 19, 20, 21, 22, 23, 24, 25, 26, 27, 28, 29, 30, 31, 32, 33, 34, 35, 36, 37, 38, 39] (by decide +kernel) (by decide +kernel)) (goodIn_sub (fun _ h => List.mem_cons_of_mem _ (List.mem_append_right _ h)) (by decide +kernel))
set_option maxRecDepth 20000 in
theorem gL_samples_X9_samples : GoodIn wsL_samples (wsV RL 54 RX9 yX9_samples wsX9_samples) := goodIn_app (goodIn_of _ (by decide +kernel)) ggL_samples_X9_samples
theorem dL_samples_0 : decode cL_samples 0 = .ok (.aload_n 2, 1) := by decide +kernel
theorem dL_samples_1 : decode cL_samples 1 = .ok (.iconst 0, 1) := by decide +kernel
theorem dL_samples_2 : decode cL_samples 2 = .ok (.aload_n 0, 1) := by decide +kernel
theorem dL_samples_3 : decode cL_samples 3 = .ok (.iload_n 1, 1) := by decide +kernel
theorem dL_samples_4 : decode cL_samples 4 = .ok (.invokevirtual 54, 3) := by decide +kernel
theorem dL_samples_7 : decode cL_samples 7 = .ok (.i2l, 1) := by decide +kernel
theorem dL_samples_8 : decode cL_samples 8 = .ok (.lastore, 1) := by decide +kernel
theorem dL_samples_9 : decode cL_samples 9 = .ok (.goto 6, 3) := by decide +kernel
theorem dL_samples_12 : decode cL_samples 12 = .ok (.astore_n 3, 1) := by decide +kernel
theorem dL_samples_13 : decode cL_samples 13 = .ok (.iconst 1, 1) := by decide +kernel
theorem dL_samples_14 : decode cL_samples 14 = .ok (.ireturn, 1) := by decide +kernel
theorem dL_samples_15 : decode cL_samples 15 = .ok (.iconst 0, 1) := by decide +kernel
theorem dL_samples_16 : decode cL_samples 16 = .ok (.ireturn, 1) := by decide +kernel
set_option maxRecDepth 20000 in
theorem ggL_missing_X9_missing : GoodIn wsL_missing wsX9_missing := goodIn_ca (goodIn_r _ [6, 7, 8, 9, 5, 10, 11, 12, 13, 14, 15, 16, 17, 18, 19, 20, 21, 22, 23, 24, 25, 26, 27, 28, 29, 30, 31, 32, 33, 34, 35, 36, 37, 38, 39] (by decide +kernel) (by decide +kernel)) (goodIn_sub (fun _ h => List.mem_cons_of_mem _ (List.mem_append_right _ h)) (by decide +kernel))
set_option maxRecDepth 20000 in
theorem gL_missing_X9_missing : GoodIn wsL_missing (wsV RL 57 RX9 yX9_missing wsX9_missing) := goodIn_app (goodIn_of _ (by decide +kernel)) ggL_missing_X9_missing
theorem dL_missing_0 : decode cL_missing 0 = .ok (.aload_n 2, 1) := by decide +kernel
theorem dL_missing_1 : decode cL_missing 1 = .ok (.iconst 0, 1) := by decide +kernel
theorem dL_missing_2 : decode cL_missing 2 = .ok (.aload_n 0, 1) := by decide +kernel
theorem dL_missing_3 : decode cL_missing 3 = .ok (.iload_n 1, 1) := by decide +kernel
theorem dL_missing_4 : decode cL_missing 4 = .ok (.invokevirtual 57, 3) := by decide +kernel
theorem dL_missing_7 : decode cL_missing 7 = .ok (.i2l, 1) := by decide +kernel
theorem dL_missing_8 : decode cL_missing 8 = .ok (.lastore, 1) := by decide +kernel
theorem dL_missing_9 : decode cL_missing 9 = .ok (.goto 6, 3) := by decide +kernel
theorem dL_missing_12 : decode cL_missing 12 = .ok (.astore_n 3, 1) := by decide +kernel
theorem dL_missing_13 : decode cL_missing 13 = .ok (.iconst 1, 1) := by decide +kernel
theorem dL_missing_14 : decode cL_missing 14 = .ok (.ireturn, 1) := by decide +kernel
theorem dL_missing_15 : decode cL_missing 15 = .ok (.iconst 0, 1) := by decide +kernel
theorem dL_missing_16 : decode cL_missing 16 = .ok (.ireturn, 1) := by decide +kernel
set_option maxRecDepth 20000 in
theorem ggL_derive_X9_derive : GoodIn wsL_derive wsX9_derive := goodIn_ca (goodIn_ca (goodIn_r _ [7, 8, 9, 10, 11, 12, 13, 14, 6, 15, 16, 17, 18, 19, 20, 21, 22, 23, 24, 25, 26, 27, 28, 29, 30, 31, 32, 33, 34, 35, 36, 37, 38, 39, 40, 41, 42, 43, 44, 45, 46, 47, 48, 49, 50, 51] (by decide +kernel) (by decide +kernel)) (goodIn_sub (fun _ h => List.mem_cons_of_mem _ (List.mem_append_left _ (List.mem_append_right _ h))) (by decide +kernel))) (goodIn_sub (fun _ h => List.mem_cons_of_mem _ (List.mem_append_right _ h)) (by decide +kernel))
set_option maxRecDepth 20000 in
theorem gL_derive_X9_derive : GoodIn wsL_derive (wsV RL 60 RX9 yX9_derive wsX9_derive) := goodIn_app (goodIn_of _ (by decide +kernel)) ggL_derive_X9_derive
theorem dL_derive_0 : decode cL_derive 0 = .ok (.aload_n 0, 1) := by decide +kernel
theorem dL_derive_1 : decode cL_derive 1 = .ok (.iload_n 1, 1) := by decide +kernel
theorem dL_derive_2 : decode cL_derive 2 = .ok (.iload_n 2, 1) := by decide +kernel
theorem dL_derive_3 : decode cL_derive 3 = .ok (.iload_n 3, 1) := by decide +kernel
theorem dL_derive_4 : decode cL_derive 4 = .ok (.iload 4, 2) := by decide +kernel
theorem dL_derive_6 : decode cL_derive 6 = .ok (.invokevirtual 60, 3) := by decide +kernel
theorem dL_derive_9 : decode cL_derive 9 = .ok (.goto 11, 3) := by decide +kernel
theorem dL_derive_12 : decode cL_derive 12 = .ok (.astore 5, 2) := by decide +kernel
theorem dL_derive_14 : decode cL_derive 14 = .ok (.iconst 1, 1) := by decide +kernel
theorem dL_derive_15 : decode cL_derive 15 = .ok (.ireturn, 1) := by decide +kernel
theorem dL_derive_16 : decode cL_derive 16 = .ok (.astore 5, 2) := by decide +kernel
theorem dL_derive_18 : decode cL_derive 18 = .ok (.iconst 2, 1) := by decide +kernel
theorem dL_derive_19 : decode cL_derive 19 = .ok (.ireturn, 1) := by decide +kernel
theorem dL_derive_20 : decode cL_derive 20 = .ok (.iconst 0, 1) := by decide +kernel
theorem dL_derive_21 : decode cL_derive 21 = .ok (.ireturn, 1) := by decide +kernel
set_option maxRecDepth 20000 in
theorem ggL_derivedValue_X9_derivedValue : GoodIn wsL_derivedValue wsX9_derivedValue := goodIn_ca (goodIn_ca (goodIn_r _ [7, 8, 9, 10, 6, 11, 12, 13, 14, 15, 16, 17, 18, 19, 20, 21, 22, 23, 24, 25, 26, 27, 28, 29, 30, 31, 32, 33, 34, 35, 36, 37, 38, 39, 40, 41, 42, 43, 44, 45, 46, 47, 48, 49, 50, 51, 52, 53, 54, 55, 56, 57, 58, 59, 60, 61, 62, 63, 64, 65, 66, 67, 68, 69, 70, 71, 72, 73, 74, 75, 76, 77, 78, 79, 80, 81, 82, 83, 84, 85, 86, 87, 88, 89, 90, 91, 92, 93, 94, 95, 96, 97, 98, 99, 100, 101, 102, 103, 104, 105, 106, 107, 108] (by decide +kernel) (by decide +kernel)) (goodIn_sub (fun _ h => List.mem_cons_of_mem _ (List.mem_append_left _ (List.mem_append_right _ h))) (by decide +kernel))) (goodIn_sub (fun _ h => List.mem_cons_of_mem _ (List.mem_append_right _ h)) (by decide +kernel))
set_option maxRecDepth 20000 in
theorem gL_derivedValue_X9_derivedValue : GoodIn wsL_derivedValue (wsV RL 64 RX9 yX9_derivedValue wsX9_derivedValue) := goodIn_app (goodIn_of _ (by decide +kernel)) ggL_derivedValue_X9_derivedValue
theorem dL_derivedValue_0 : decode cL_derivedValue 0 = .ok (.aload_n 2, 1) := by decide +kernel
theorem dL_derivedValue_1 : decode cL_derivedValue 1 = .ok (.iconst 0, 1) := by decide +kernel
theorem dL_derivedValue_2 : decode cL_derivedValue 2 = .ok (.aload_n 0, 1) := by decide +kernel
theorem dL_derivedValue_3 : decode cL_derivedValue 3 = .ok (.iload_n 1, 1) := by decide +kernel
theorem dL_derivedValue_4 : decode cL_derivedValue 4 = .ok (.invokevirtual 64, 3) := by decide +kernel
theorem dL_derivedValue_7 : decode cL_derivedValue 7 = .ok (.i2l, 1) := by decide +kernel
theorem dL_derivedValue_8 : decode cL_derivedValue 8 = .ok (.lastore, 1) := by decide +kernel
theorem dL_derivedValue_9 : decode cL_derivedValue 9 = .ok (.goto 9, 3) := by decide +kernel
theorem dL_derivedValue_12 : decode cL_derivedValue 12 = .ok (.astore_n 3, 1) := by decide +kernel
theorem dL_derivedValue_13 : decode cL_derivedValue 13 = .ok (.iconst 1, 1) := by decide +kernel
theorem dL_derivedValue_14 : decode cL_derivedValue 14 = .ok (.ireturn, 1) := by decide +kernel
theorem dL_derivedValue_15 : decode cL_derivedValue 15 = .ok (.astore_n 3, 1) := by decide +kernel
theorem dL_derivedValue_16 : decode cL_derivedValue 16 = .ok (.iconst 2, 1) := by decide +kernel
theorem dL_derivedValue_17 : decode cL_derivedValue 17 = .ok (.ireturn, 1) := by decide +kernel
theorem dL_derivedValue_18 : decode cL_derivedValue 18 = .ok (.iconst 0, 1) := by decide +kernel
theorem dL_derivedValue_19 : decode cL_derivedValue 19 = .ok (.ireturn, 1) := by decide +kernel
set_option maxRecDepth 20000 in
theorem ggL_derivedTime_X9_derivedTime : GoodIn wsL_derivedTime wsX9_derivedTime := goodIn_ca (goodIn_ca (goodIn_r _ [7, 8, 9, 10, 6, 11, 12, 13, 14, 15, 16, 17, 18, 19, 20, 21, 22, 23, 24, 25, 26, 27, 28, 29, 30, 31, 32, 33, 34, 35, 36, 37, 38, 39, 40, 41, 42, 43, 44, 45, 46, 47, 48, 49, 50, 51, 52, 53, 54, 55, 56, 57, 58, 59, 60, 61, 62, 63, 64, 65, 66, 67, 68, 69, 70, 71, 72, 73, 74, 75, 76, 77, 78, 79, 80, 81, 82, 83, 84, 85, 86, 87, 88, 89, 90, 91, 92, 93, 94, 95, 96, 97, 98, 99, 100, 101, 102, 103, 104, 105, 106, 107, 108] (by decide +kernel) (by decide +kernel)) (goodIn_sub (fun _ h => List.mem_cons_of_mem _ (List.mem_append_left _ (List.mem_append_right _ h))) (by decide +kernel))) (goodIn_sub (fun _ h => List.mem_cons_of_mem _ (List.mem_append_right _ h)) (by decide +kernel))
set_option maxRecDepth 20000 in
theorem gL_derivedTime_X9_derivedTime : GoodIn wsL_derivedTime (wsV RL 67 RX9 yX9_derivedTime wsX9_derivedTime) := goodIn_app (goodIn_of _ (by decide +kernel)) ggL_derivedTime_X9_derivedTime
theorem dL_derivedTime_0 : decode cL_derivedTime 0 = .ok (.aload_n 2, 1) := by decide +kernel
theorem dL_derivedTime_1 : decode cL_derivedTime 1 = .ok (.iconst 0, 1) := by decide +kernel
theorem dL_derivedTime_2 : decode cL_derivedTime 2 = .ok (.aload_n 0, 1) := by decide +kernel
theorem dL_derivedTime_3 : decode cL_derivedTime 3 = .ok (.iload_n 1, 1) := by decide +kernel
theorem dL_derivedTime_4 : decode cL_derivedTime 4 = .ok (.invokevirtual 67, 3) := by decide +kernel
theorem dL_derivedTime_7 : decode cL_derivedTime 7 = .ok (.i2l, 1) := by decide +kernel
theorem dL_derivedTime_8 : decode cL_derivedTime 8 = .ok (.lastore, 1) := by decide +kernel
theorem dL_derivedTime_9 : decode cL_derivedTime 9 = .ok (.goto 9, 3) := by decide +kernel
theorem dL_derivedTime_12 : decode cL_derivedTime 12 = .ok (.astore_n 3, 1) := by decide +kernel
theorem dL_derivedTime_13 : decode cL_derivedTime 13 = .ok (.iconst 1, 1) := by decide +kernel
theorem dL_derivedTime_14 : decode cL_derivedTime 14 = .ok (.ireturn, 1) := by decide +kernel
theorem dL_derivedTime_15 : decode cL_derivedTime 15 = .ok (.astore_n 3, 1) := by decide +kernel
theorem dL_derivedTime_16 : decode cL_derivedTime 16 = .ok (.iconst 2, 1) := by decide +kernel
theorem dL_derivedTime_17 : decode cL_derivedTime 17 = .ok (.ireturn, 1) := by decide +kernel
theorem dL_derivedTime_18 : decode cL_derivedTime 18 = .ok (.iconst 0, 1) := by decide +kernel
theorem dL_derivedTime_19 : decode cL_derivedTime 19 = .ok (.ireturn, 1) := by decide +kernel
set_option maxRecDepth 20000 in
theorem ggL_matches_X9_matches : GoodIn wsL_matches wsX9_matches := goodIn_ca (goodIn_r _ [6, 7, 8, 9, 10, 11, 12, 13, 14, 15, 16, 17, 18, 19, 20, 21, 22, 23, 24, 25, 26, 27, 28] (by decide +kernel) (by decide +kernel)) (goodIn_sub (fun _ h => List.mem_cons_of_mem _ (List.mem_append_right _ h)) (by decide +kernel))
set_option maxRecDepth 20000 in
theorem gL_matches_X9_matches : GoodIn wsL_matches (wsV RL 70 RX9 yX9_matches wsX9_matches) := goodIn_app (goodIn_of _ (by decide +kernel)) ggL_matches_X9_matches
theorem dL_matches_0 : decode cL_matches 0 = .ok (.aload_n 2, 1) := by decide +kernel
theorem dL_matches_1 : decode cL_matches 1 = .ok (.iconst 0, 1) := by decide +kernel
theorem dL_matches_2 : decode cL_matches 2 = .ok (.aload_n 0, 1) := by decide +kernel
theorem dL_matches_3 : decode cL_matches 3 = .ok (.iload_n 1, 1) := by decide +kernel
theorem dL_matches_4 : decode cL_matches 4 = .ok (.invokevirtual 70, 3) := by decide +kernel
theorem dL_matches_7 : decode cL_matches 7 = .ok (.i2l, 1) := by decide +kernel
theorem dL_matches_8 : decode cL_matches 8 = .ok (.lastore, 1) := by decide +kernel
theorem dL_matches_9 : decode cL_matches 9 = .ok (.goto 6, 3) := by decide +kernel
theorem dL_matches_12 : decode cL_matches 12 = .ok (.astore_n 3, 1) := by decide +kernel
theorem dL_matches_13 : decode cL_matches 13 = .ok (.iconst 1, 1) := by decide +kernel
theorem dL_matches_14 : decode cL_matches 14 = .ok (.ireturn, 1) := by decide +kernel
theorem dL_matches_15 : decode cL_matches 15 = .ok (.iconst 0, 1) := by decide +kernel
theorem dL_matches_16 : decode cL_matches 16 = .ok (.ireturn, 1) := by decide +kernel
