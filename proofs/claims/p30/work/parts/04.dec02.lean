theorem dX5_use_24 : decode cX5_use 24 = .ok (.iload 5, 2) := by decide +kernel
theorem dX5_use_26 : decode cX5_use 26 = .ok (.dup2, 1) := by decide +kernel
theorem dX5_use_27 : decode cX5_use 27 = .ok (.laload, 1) := by decide +kernel
theorem dX5_use_28 : decode cX5_use 28 = .ok (.lload_n 1, 1) := by decide +kernel
theorem dX5_use_29 : decode cX5_use 29 = .ok (.lor, 1) := by decide +kernel
theorem dX5_use_30 : decode cX5_use 30 = .ok (.lastore, 1) := by decide +kernel
theorem dX5_use_31 : decode cX5_use 31 = .ok (.iinc 5 1, 3) := by decide +kernel
theorem dX5_use_34 : decode cX5_use 34 = .ok (.goto (-31), 3) := by decide +kernel
theorem dX5_use_37 : decode cX5_use 37 = .ok (.return_, 1) := by decide +kernel
set_option maxRecDepth 20000 in
theorem ggX5_spareBits_J13_bitCount_95d88 : GoodIn wsX5_spareBits wsJ13_bitCount_95d88 := goodIn_r _ [5, 6, 7, 8] (by decide +kernel) (by decide +kernel)
set_option maxRecDepth 20000 in
theorem gX5_spareBits_J13_bitCount_95d88 : GoodIn wsX5_spareBits (va_wsS RX5 40 yJ13_bitCount_95d88 wsJ13_bitCount_95d88) := goodIn_app (goodIn_of _ (by decide +kernel)) ggX5_spareBits_J13_bitCount_95d88
theorem dX5_spareBits_0 : decode cX5_spareBits 0 = .ok (.sipush 192, 3) := by decide +kernel
theorem dX5_spareBits_3 : decode cX5_spareBits 3 = .ok (.istore_n 1, 1) := by decide +kernel
theorem dX5_spareBits_4 : decode cX5_spareBits 4 = .ok (.iconst 0, 1) := by decide +kernel
theorem dX5_spareBits_5 : decode cX5_spareBits 5 = .ok (.istore_n 2, 1) := by decide +kernel
theorem dX5_spareBits_6 : decode cX5_spareBits 6 = .ok (.iload_n 2, 1) := by decide +kernel
theorem dX5_spareBits_7 : decode cX5_spareBits 7 = .ok (.iconst 4, 1) := by decide +kernel
theorem dX5_spareBits_8 : decode cX5_spareBits 8 = .ok (.if_icmp .ge 21, 3) := by decide +kernel
theorem dX5_spareBits_11 : decode cX5_spareBits 11 = .ok (.iload_n 1, 1) := by decide +kernel
theorem dX5_spareBits_12 : decode cX5_spareBits 12 = .ok (.aload_n 0, 1) := by decide +kernel
theorem dX5_spareBits_13 : decode cX5_spareBits 13 = .ok (.getfield 17, 3) := by decide +kernel
theorem dX5_spareBits_16 : decode cX5_spareBits 16 = .ok (.iload_n 2, 1) := by decide +kernel
theorem dX5_spareBits_17 : decode cX5_spareBits 17 = .ok (.laload, 1) := by decide +kernel
theorem dX5_spareBits_18 : decode cX5_spareBits 18 = .ok (.invokestatic 40, 3) := by decide +kernel
theorem dX5_spareBits_21 : decode cX5_spareBits 21 = .ok (.isub, 1) := by decide +kernel
theorem dX5_spareBits_22 : decode cX5_spareBits 22 = .ok (.istore_n 1, 1) := by decide +kernel
theorem dX5_spareBits_23 : decode cX5_spareBits 23 = .ok (.iinc 2 1, 3) := by decide +kernel
theorem dX5_spareBits_26 : decode cX5_spareBits 26 = .ok (.goto (-20), 3) := by decide +kernel
theorem dX5_spareBits_29 : decode cX5_spareBits 29 = .ok (.iload_n 1, 1) := by decide +kernel
theorem dX5_spareBits_30 : decode cX5_spareBits 30 = .ok (.ireturn, 1) := by decide +kernel
theorem dX6_init_0 : decode cX6_init 0 = .ok (.aload_n 0, 1) := by decide +kernel
theorem dX6_init_1 : decode cX6_init 1 = .ok (.invokespecial 1, 3) := by decide +kernel
theorem dX6_init_4 : decode cX6_init 4 = .ok (.return_, 1) := by decide +kernel
theorem dX6_set_0 : decode cX6_set 0 = .ok (.aload_n 0, 1) := by decide +kernel
theorem dX6_set_1 : decode cX6_set 1 = .ok (.iconst 1, 1) := by decide +kernel
theorem dX6_set_2 : decode cX6_set 2 = .ok (.putfield 7, 3) := by decide +kernel
theorem dX6_set_5 : decode cX6_set 5 = .ok (.aload_n 0, 1) := by decide +kernel
theorem dX6_set_6 : decode cX6_set 6 = .ok (.iload_n 1, 1) := by decide +kernel
theorem dX6_set_7 : decode cX6_set 7 = .ok (.putfield 13, 3) := by decide +kernel
theorem dX6_set_10 : decode cX6_set 10 = .ok (.aload_n 0, 1) := by decide +kernel
theorem dX6_set_11 : decode cX6_set 11 = .ok (.iload_n 2, 1) := by decide +kernel
theorem dX6_set_12 : decode cX6_set 12 = .ok (.putfield 17, 3) := by decide +kernel
theorem dX6_set_15 : decode cX6_set 15 = .ok (.return_, 1) := by decide +kernel
theorem dX6_forget_0 : decode cX6_forget 0 = .ok (.aload_n 0, 1) := by decide +kernel
theorem dX6_forget_1 : decode cX6_forget 1 = .ok (.iconst 0, 1) := by decide +kernel
theorem dX6_forget_2 : decode cX6_forget 2 = .ok (.putfield 7, 3) := by decide +kernel
theorem dX6_forget_5 : decode cX6_forget 5 = .ok (.return_, 1) := by decide +kernel
theorem dX7_init_0 : decode cX7_init 0 = .ok (.aload_n 0, 1) := by decide +kernel
theorem dX7_init_1 : decode cX7_init 1 = .ok (.invokespecial 3, 3) := by decide +kernel
theorem dX7_init_4 : decode cX7_init 4 = .ok (.return_, 1) := by decide +kernel
set_option maxRecDepth 20000 in
theorem ggX7_sendWord_X7_packSamples : GoodIn wsX7_sendWord wsX7_packSamples := goodIn_r _ [8, 3, 9, 10, 11, 12, 13, 14, 15, 16, 17, 18, 19, 20, 21, 22, 23, 24, 25, 26, 27, 28, 29, 30, 31, 32, 33, 34, 35, 36, 37, 38, 39, 40, 41, 42, 43, 44, 45, 46, 47, 57, 58, 59, 55, 56, 60, 61, 62, 63, 64, 65, 66, 67, 68, 69] (by decide +kernel) (by decide +kernel)
set_option maxRecDepth 20000 in
theorem gX7_sendWord_X7_packSamples : GoodIn wsX7_sendWord (wsV RX7 20 RX7 yX7_packSamples wsX7_packSamples) := goodIn_app (goodIn_of _ (by decide +kernel)) ggX7_sendWord_X7_packSamples
set_option maxRecDepth 20000 in
theorem ggX7_sendWord_X3_append : GoodIn wsX7_sendWord wsX3_append := goodIn_r _ [52, 53, 54, 70, 71, 72] (by decide +kernel) (by decide +kernel)
set_option maxRecDepth 20000 in
theorem gX7_sendWord_X3_append : GoodIn wsX7_sendWord (wsV RX7 24 RX3 yX3_append wsX3_append) := goodIn_app (goodIn_of _ (by decide +kernel)) ggX7_sendWord_X3_append
theorem dX7_sendWord_0 : decode cX7_sendWord 0 = .ok (.aload_n 0, 1) := by decide +kernel
theorem dX7_sendWord_1 : decode cX7_sendWord 1 = .ok (.getfield 9, 3) := by decide +kernel
theorem dX7_sendWord_4 : decode cX7_sendWord 4 = .ok (.bipush 8, 2) := by decide +kernel
theorem dX7_sendWord_6 : decode cX7_sendWord 6 = .ok (.irem, 1) := by decide +kernel
theorem dX7_sendWord_7 : decode cX7_sendWord 7 = .ok (.istore_n 3, 1) := by decide +kernel
theorem dX7_sendWord_8 : decode cX7_sendWord 8 = .ok (.aload_n 0, 1) := by decide +kernel
theorem dX7_sendWord_9 : decode cX7_sendWord 9 = .ok (.getfield 9, 3) := by decide +kernel
theorem dX7_sendWord_12 : decode cX7_sendWord 12 = .ok (.bipush 8, 2) := by decide +kernel
theorem dX7_sendWord_14 : decode cX7_sendWord 14 = .ok (.idiv, 1) := by decide +kernel
theorem dX7_sendWord_15 : decode cX7_sendWord 15 = .ok (.sipush 255, 3) := by decide +kernel
theorem dX7_sendWord_18 : decode cX7_sendWord 18 = .ok (.iand, 1) := by decide +kernel
theorem dX7_sendWord_19 : decode cX7_sendWord 19 = .ok (.istore 4, 2) := by decide +kernel
theorem dX7_sendWord_21 : decode cX7_sendWord 21 = .ok (.iload_n 3, 1) := by decide +kernel
theorem dX7_sendWord_22 : decode cX7_sendWord 22 = .ok (.ifCond .ne 16, 3) := by decide +kernel
theorem dX7_sendWord_25 : decode cX7_sendWord 25 = .ok (.aload_n 0, 1) := by decide +kernel
theorem dX7_sendWord_26 : decode cX7_sendWord 26 = .ok (.ldc 15, 2) := by decide +kernel
theorem dX7_sendWord_28 : decode cX7_sendWord 28 = .ok (.iload 4, 2) := by decide +kernel
theorem dX7_sendWord_30 : decode cX7_sendWord 30 = .ok (.ior, 1) := by decide +kernel
theorem dX7_sendWord_31 : decode cX7_sendWord 31 = .ok (.i2l, 1) := by decide +kernel
theorem dX7_sendWord_32 : decode cX7_sendWord 32 = .ok (.bipush 48, 2) := by decide +kernel
theorem dX7_sendWord_34 : decode cX7_sendWord 34 = .ok (.lshl, 1) := by decide +kernel
theorem dX7_sendWord_35 : decode cX7_sendWord 35 = .ok (.putfield 16, 3) := by decide +kernel
theorem dX7_sendWord_38 : decode cX7_sendWord 38 = .ok (.aload_n 0, 1) := by decide +kernel
theorem dX7_sendWord_39 : decode cX7_sendWord 39 = .ok (.aload_n 1, 1) := by decide +kernel
theorem dX7_sendWord_40 : decode cX7_sendWord 40 = .ok (.iload 4, 2) := by decide +kernel
theorem dX7_sendWord_42 : decode cX7_sendWord 42 = .ok (.iload_n 3, 1) := by decide +kernel
theorem dX7_sendWord_43 : decode cX7_sendWord 43 = .ok (.invokevirtual 20, 3) := by decide +kernel
theorem dX7_sendWord_46 : decode cX7_sendWord 46 = .ok (.iconst 1, 1) := by decide +kernel
theorem dX7_sendWord_47 : decode cX7_sendWord 47 = .ok (.istore 5, 2) := by decide +kernel
theorem dX7_sendWord_49 : decode cX7_sendWord 49 = .ok (.iload 5, 2) := by decide +kernel
theorem dX7_sendWord_51 : decode cX7_sendWord 51 = .ok (.bipush 8, 2) := by decide +kernel
theorem dX7_sendWord_53 : decode cX7_sendWord 53 = .ok (.if_icmp .gt 35, 3) := by decide +kernel
theorem dX7_sendWord_56 : decode cX7_sendWord 56 = .ok (.bipush 64, 2) := by decide +kernel
theorem dX7_sendWord_58 : decode cX7_sendWord 58 = .ok (.iload_n 3, 1) := by decide +kernel
theorem dX7_sendWord_59 : decode cX7_sendWord 59 = .ok (.bipush 8, 2) := by decide +kernel
theorem dX7_sendWord_61 : decode cX7_sendWord 61 = .ok (.imul, 1) := by decide +kernel
theorem dX7_sendWord_62 : decode cX7_sendWord 62 = .ok (.isub, 1) := by decide +kernel
theorem dX7_sendWord_63 : decode cX7_sendWord 63 = .ok (.iload 5, 2) := by decide +kernel
theorem dX7_sendWord_65 : decode cX7_sendWord 65 = .ok (.isub, 1) := by decide +kernel
theorem dX7_sendWord_66 : decode cX7_sendWord 66 = .ok (.istore 6, 2) := by decide +kernel
theorem dX7_sendWord_68 : decode cX7_sendWord 68 = .ok (.aload_n 2, 1) := by decide +kernel
theorem dX7_sendWord_69 : decode cX7_sendWord 69 = .ok (.aload_n 0, 1) := by decide +kernel
theorem dX7_sendWord_70 : decode cX7_sendWord 70 = .ok (.getfield 16, 3) := by decide +kernel
theorem dX7_sendWord_73 : decode cX7_sendWord 73 = .ok (.iload 6, 2) := by decide +kernel
theorem dX7_sendWord_75 : decode cX7_sendWord 75 = .ok (.lushr, 1) := by decide +kernel
theorem dX7_sendWord_76 : decode cX7_sendWord 76 = .ok (.l2i, 1) := by decide +kernel
theorem dX7_sendWord_77 : decode cX7_sendWord 77 = .ok (.iconst 1, 1) := by decide +kernel
theorem dX7_sendWord_78 : decode cX7_sendWord 78 = .ok (.iand, 1) := by decide +kernel
theorem dX7_sendWord_79 : decode cX7_sendWord 79 = .ok (.invokevirtual 24, 3) := by decide +kernel
theorem dX7_sendWord_82 : decode cX7_sendWord 82 = .ok (.iinc 5 1, 3) := by decide +kernel
theorem dX7_sendWord_85 : decode cX7_sendWord 85 = .ok (.goto (-36), 3) := by decide +kernel
theorem dX7_sendWord_88 : decode cX7_sendWord 88 = .ok (.aload_n 0, 1) := by decide +kernel
theorem dX7_sendWord_89 : decode cX7_sendWord 89 = .ok (.dup, 1) := by decide +kernel
theorem dX7_sendWord_90 : decode cX7_sendWord 90 = .ok (.getfield 9, 3) := by decide +kernel
theorem dX7_sendWord_93 : decode cX7_sendWord 93 = .ok (.iconst 1, 1) := by decide +kernel
theorem dX7_sendWord_94 : decode cX7_sendWord 94 = .ok (.iadd, 1) := by decide +kernel
theorem dX7_sendWord_95 : decode cX7_sendWord 95 = .ok (.putfield 9, 3) := by decide +kernel
theorem dX7_sendWord_98 : decode cX7_sendWord 98 = .ok (.return_, 1) := by decide +kernel
set_option maxRecDepth 20000 in
theorem ggX7_packSamples_X5_at : GoodIn wsX7_packSamples wsX5_at := goodIn_r _ [6, 7, 8, 41, 42, 43] (by decide +kernel) (by decide +kernel)
set_option maxRecDepth 20000 in
theorem gX7_packSamples_X5_at : GoodIn wsX7_packSamples (wsV RX7 35 RX5 yX5_at wsX5_at) := goodIn_app (goodIn_of _ (by decide +kernel)) ggX7_packSamples_X5_at
set_option maxRecDepth 20000 in
theorem ggX7_packSamples_X4_isSentIn : GoodIn wsX7_packSamples wsX4_isSentIn := goodIn_r _ [13, 14, 15, 46, 47, 48, 49, 50, 51, 52, 53, 54, 55] (by decide +kernel) (by decide +kernel)
set_option maxRecDepth 20000 in
theorem gX7_packSamples_X4_isSentIn : GoodIn wsX7_packSamples (wsV RX7 39 RX4 yX4_isSentIn wsX4_isSentIn) := goodIn_app (goodIn_of _ (by decide +kernel)) ggX7_packSamples_X4_isSentIn
set_option maxRecDepth 20000 in
theorem ggX7_packSamples_X4_samplesInFrame : GoodIn wsX7_packSamples wsX4_samplesInFrame := goodIn_r _ [19, 20, 46, 47, 48, 49, 50, 51, 52, 53, 54, 55] (by decide +kernel) (by decide +kernel)
set_option maxRecDepth 20000 in
theorem gX7_packSamples_X4_samplesInFrame : GoodIn wsX7_packSamples (wsV RX7 45 RX4 yX4_samplesInFrame wsX4_samplesInFrame) := goodIn_app (goodIn_of _ (by decide +kernel)) ggX7_packSamples_X4_samplesInFrame
set_option maxRecDepth 20000 in
theorem ggX7_packSamples_X4_firstBit : GoodIn wsX7_packSamples wsX4_firstBit := goodIn_r _ [24, 25, 46, 47, 48, 49, 50, 51, 52, 53, 54, 55] (by decide +kernel) (by decide +kernel)
set_option maxRecDepth 20000 in
theorem gX7_packSamples_X4_firstBit : GoodIn wsX7_packSamples (wsV RX7 49 RX4 yX4_firstBit wsX4_firstBit) := goodIn_app (goodIn_of _ (by decide +kernel)) ggX7_packSamples_X4_firstBit
set_option maxRecDepth 20000 in
theorem ggX7_packSamples_X4_encode : GoodIn wsX7_packSamples wsX4_encode := goodIn_r _ [29, 30, 31, 32, 33, 34, 12, 35, 46, 47, 48, 49, 50, 51, 52, 53, 54, 55] (by decide +kernel) (by decide +kernel)
set_option maxRecDepth 20000 in
theorem gX7_packSamples_X4_encode : GoodIn wsX7_packSamples (wsV RX7 56 RX4 yX4_encode wsX4_encode) := goodIn_app (goodIn_of _ (by decide +kernel)) ggX7_packSamples_X4_encode
set_option maxRecDepth 20000 in
theorem ggX7_packSamples_X4_shift : GoodIn wsX7_packSamples wsX4_shift := goodIn_r _ [39, 31, 40, 22, 23, 12, 24, 25, 46, 47, 48, 49, 50, 51, 52, 53, 54, 55] (by decide +kernel) (by decide +kernel)
set_option maxRecDepth 20000 in
theorem gX7_packSamples_X4_shift : GoodIn wsX7_packSamples (wsV RX7 59 RX4 yX4_shift wsX4_shift) := goodIn_app (goodIn_of _ (by decide +kernel)) ggX7_packSamples_X4_shift
theorem dX7_packSamples_0 : decode cX7_packSamples 0 = .ok (.iconst 0, 1) := by decide +kernel
theorem dX7_packSamples_1 : decode cX7_packSamples 1 = .ok (.istore 4, 2) := by decide +kernel
theorem dX7_packSamples_3 : decode cX7_packSamples 3 = .ok (.iload 4, 2) := by decide +kernel
theorem dX7_packSamples_5 : decode cX7_packSamples 5 = .ok (.aload_n 1, 1) := by decide +kernel
theorem dX7_packSamples_6 : decode cX7_packSamples 6 = .ok (.getfield 30, 3) := by decide +kernel
theorem dX7_packSamples_9 : decode cX7_packSamples 9 = .ok (.if_icmp .ge 95, 3) := by decide +kernel
theorem dX7_packSamples_12 : decode cX7_packSamples 12 = .ok (.aload_n 1, 1) := by decide +kernel
theorem dX7_packSamples_13 : decode cX7_packSamples 13 = .ok (.iload 4, 2) := by decide +kernel
theorem dX7_packSamples_15 : decode cX7_packSamples 15 = .ok (.invokevirtual 35, 3) := by decide +kernel
theorem dX7_packSamples_18 : decode cX7_packSamples 18 = .ok (.astore 5, 2) := by decide +kernel
theorem dX7_packSamples_20 : decode cX7_packSamples 20 = .ok (.aload 5, 2) := by decide +kernel
theorem dX7_packSamples_22 : decode cX7_packSamples 22 = .ok (.ifnull 76, 3) := by decide +kernel
theorem dX7_packSamples_25 : decode cX7_packSamples 25 = .ok (.aload 5, 2) := by decide +kernel
theorem dX7_packSamples_27 : decode cX7_packSamples 27 = .ok (.iload_n 2, 1) := by decide +kernel
theorem dX7_packSamples_28 : decode cX7_packSamples 28 = .ok (.invokevirtual 39, 3) := by decide +kernel
theorem dX7_packSamples_31 : decode cX7_packSamples 31 = .ok (.ifCond .ne 6, 3) := by decide +kernel
theorem dX7_packSamples_34 : decode cX7_packSamples 34 = .ok (.goto 64, 3) := by decide +kernel
theorem dX7_packSamples_37 : decode cX7_packSamples 37 = .ok (.iconst 0, 1) := by decide +kernel
theorem dX7_packSamples_38 : decode cX7_packSamples 38 = .ok (.istore 6, 2) := by decide +kernel
theorem dX7_packSamples_40 : decode cX7_packSamples 40 = .ok (.iload 6, 2) := by decide +kernel
theorem dX7_packSamples_42 : decode cX7_packSamples 42 = .ok (.aload 5, 2) := by decide +kernel
theorem dX7_packSamples_44 : decode cX7_packSamples 44 = .ok (.invokevirtual 45, 3) := by decide +kernel
theorem dX7_packSamples_47 : decode cX7_packSamples 47 = .ok (.if_icmp .ge 51, 3) := by decide +kernel
theorem dX7_packSamples_50 : decode cX7_packSamples 50 = .ok (.aload 5, 2) := by decide +kernel
theorem dX7_packSamples_52 : decode cX7_packSamples 52 = .ok (.iload 6, 2) := by decide +kernel
theorem dX7_packSamples_54 : decode cX7_packSamples 54 = .ok (.invokevirtual 49, 3) := by decide +kernel
theorem dX7_packSamples_57 : decode cX7_packSamples 57 = .ok (.bipush 8, 2) := by decide +kernel
theorem dX7_packSamples_59 : decode cX7_packSamples 59 = .ok (.idiv, 1) := by decide +kernel
theorem dX7_packSamples_60 : decode cX7_packSamples 60 = .ok (.iload_n 3, 1) := by decide +kernel
theorem dX7_packSamples_61 : decode cX7_packSamples 61 = .ok (.if_icmp .ne 31, 3) := by decide +kernel
theorem dX7_packSamples_64 : decode cX7_packSamples 64 = .ok (.aload_n 0, 1) := by decide +kernel
theorem dX7_packSamples_65 : decode cX7_packSamples 65 = .ok (.dup, 1) := by decide +kernel
theorem dX7_packSamples_66 : decode cX7_packSamples 66 = .ok (.getfield 16, 3) := by decide +kernel
theorem dX7_packSamples_69 : decode cX7_packSamples 69 = .ok (.aload 5, 2) := by decide +kernel
theorem dX7_packSamples_71 : decode cX7_packSamples 71 = .ok (.aload 5, 2) := by decide +kernel
theorem dX7_packSamples_73 : decode cX7_packSamples 73 = .ok (.getfield 53, 3) := by decide +kernel
theorem dX7_packSamples_76 : decode cX7_packSamples 76 = .ok (.invokevirtual 56, 3) := by decide +kernel
theorem dX7_packSamples_79 : decode cX7_packSamples 79 = .ok (.i2l, 1) := by decide +kernel
theorem dX7_packSamples_80 : decode cX7_packSamples 80 = .ok (.aload 5, 2) := by decide +kernel
theorem dX7_packSamples_82 : decode cX7_packSamples 82 = .ok (.iload 6, 2) := by decide +kernel
theorem dX7_packSamples_84 : decode cX7_packSamples 84 = .ok (.invokevirtual 59, 3) := by decide +kernel
theorem dX7_packSamples_87 : decode cX7_packSamples 87 = .ok (.lshl, 1) := by decide +kernel
theorem dX7_packSamples_88 : decode cX7_packSamples 88 = .ok (.lor, 1) := by decide +kernel
theorem dX7_packSamples_89 : decode cX7_packSamples 89 = .ok (.putfield 16, 3) := by decide +kernel
theorem dX7_packSamples_92 : decode cX7_packSamples 92 = .ok (.iinc 6 1, 3) := by decide +kernel
theorem dX7_packSamples_95 : decode cX7_packSamples 95 = .ok (.goto (-55), 3) := by decide +kernel
theorem dX7_packSamples_98 : decode cX7_packSamples 98 = .ok (.iinc 4 1, 3) := by decide +kernel
theorem dX7_packSamples_101 : decode cX7_packSamples 101 = .ok (.goto (-98), 3) := by decide +kernel
theorem dX7_packSamples_104 : decode cX7_packSamples 104 = .ok (.return_, 1) := by decide +kernel
theorem dX8_init_0 : decode cX8_init 0 = .ok (.aload_n 0, 1) := by decide +kernel
theorem dX8_init_1 : decode cX8_init 1 = .ok (.invokespecial 3, 3) := by decide +kernel
theorem dX8_init_4 : decode cX8_init 4 = .ok (.aload_n 0, 1) := by decide +kernel
theorem dX8_init_5 : decode cX8_init 5 = .ok (.iconst 0, 1) := by decide +kernel
theorem dX8_init_6 : decode cX8_init 6 = .ok (.putfield 9, 3) := by decide +kernel
theorem dX8_init_9 : decode cX8_init 9 = .ok (.aload_n 0, 1) := by decide +kernel
theorem dX8_init_10 : decode cX8_init 10 = .ok (.bipush 64, 2) := by decide +kernel
theorem dX8_init_12 : decode cX8_init 12 = .ok (.newarray .int, 2) := by decide +kernel
theorem dX8_init_14 : decode cX8_init 14 = .ok (.putfield 15, 3) := by decide +kernel
theorem dX8_init_17 : decode cX8_init 17 = .ok (.return_, 1) := by decide +kernel
set_option maxRecDepth 20000 in
theorem ggX8_take_X8_isSyncWord : GoodIn wsX8_take wsX8_isSyncWord := goodIn_r _ [10, 11, 12, 13, 9, 14, 1, 40, 41, 42, 43, 44, 45, 46] (by decide +kernel) (by decide +kernel)
set_option maxRecDepth 20000 in
theorem gX8_take_X8_isSyncWord : GoodIn wsX8_take (wsV RX8 26 RX8 yX8_isSyncWord wsX8_isSyncWord) := goodIn_app (goodIn_of _ (by decide +kernel)) ggX8_take_X8_isSyncWord
set_option maxRecDepth 20000 in
theorem ggX8_take_X8_search : GoodIn wsX8_take wsX8_search := goodIn_r _ [18, 4, 19, 5, 6, 7, 8, 9, 10, 11, 12, 13, 14, 1, 40, 41, 42, 43, 44, 45, 46] (by decide +kernel) (by decide +kernel)
set_option maxRecDepth 20000 in
theorem gX8_take_X8_search : GoodIn wsX8_take (wsV RX8 30 RX8 yX8_search wsX8_search) := goodIn_app (goodIn_of _ (by decide +kernel)) ggX8_take_X8_search
set_option maxRecDepth 20000 in
theorem ggX8_take_X8_judgeSyncWord : GoodIn wsX8_take wsX8_judgeSyncWord := goodIn_r _ [23, 4, 24, 25, 26, 9, 27, 19, 28, 6, 7, 8, 10, 11, 12, 13, 14, 1, 29, 30, 31, 32, 33, 34, 35, 36, 37, 38, 39, 40, 41, 42, 43, 44, 45, 46] (by decide +kernel) (by decide +kernel)
set_option maxRecDepth 20000 in
theorem gX8_take_X8_judgeSyncWord : GoodIn wsX8_take (wsV RX8 36 RX8 yX8_judgeSyncWord wsX8_judgeSyncWord) := goodIn_app (goodIn_of _ (by decide +kernel)) ggX8_take_X8_judgeSyncWord
theorem dX8_take_0 : decode cX8_take 0 = .ok (.aload_n 0, 1) := by decide +kernel
theorem dX8_take_1 : decode cX8_take 1 = .ok (.aload_n 0, 1) := by decide +kernel
theorem dX8_take_2 : decode cX8_take 2 = .ok (.getfield 19, 3) := by decide +kernel
theorem dX8_take_5 : decode cX8_take 5 = .ok (.iconst 1, 1) := by decide +kernel
theorem dX8_take_6 : decode cX8_take 6 = .ok (.lshl, 1) := by decide +kernel
theorem dX8_take_7 : decode cX8_take 7 = .ok (.iload_n 1, 1) := by decide +kernel
theorem dX8_take_8 : decode cX8_take 8 = .ok (.i2l, 1) := by decide +kernel
theorem dX8_take_9 : decode cX8_take 9 = .ok (.lor, 1) := by decide +kernel
theorem dX8_take_10 : decode cX8_take 10 = .ok (.putfield 19, 3) := by decide +kernel
theorem dX8_take_13 : decode cX8_take 13 = .ok (.aload_n 0, 1) := by decide +kernel
theorem dX8_take_14 : decode cX8_take 14 = .ok (.dup, 1) := by decide +kernel
theorem dX8_take_15 : decode cX8_take 15 = .ok (.getfield 23, 3) := by decide +kernel
theorem dX8_take_18 : decode cX8_take 18 = .ok (.iconst 1, 1) := by decide +kernel
theorem dX8_take_19 : decode cX8_take 19 = .ok (.iadd, 1) := by decide +kernel
theorem dX8_take_20 : decode cX8_take 20 = .ok (.putfield 23, 3) := by decide +kernel
theorem dX8_take_23 : decode cX8_take 23 = .ok (.aload_n 0, 1) := by decide +kernel
theorem dX8_take_24 : decode cX8_take 24 = .ok (.invokevirtual 26, 3) := by decide +kernel
theorem dX8_take_27 : decode cX8_take 27 = .ok (.ifCond .eq 22, 3) := by decide +kernel
theorem dX8_take_30 : decode cX8_take 30 = .ok (.aload_n 0, 1) := by decide +kernel
theorem dX8_take_31 : decode cX8_take 31 = .ok (.getfield 15, 3) := by decide +kernel
theorem dX8_take_34 : decode cX8_take 34 = .ok (.aload_n 0, 1) := by decide +kernel
theorem dX8_take_35 : decode cX8_take 35 = .ok (.getfield 23, 3) := by decide +kernel
theorem dX8_take_38 : decode cX8_take 38 = .ok (.bipush 8, 2) := by decide +kernel
theorem dX8_take_40 : decode cX8_take 40 = .ok (.isub, 1) := by decide +kernel
theorem dX8_take_41 : decode cX8_take 41 = .ok (.bipush 63, 2) := by decide +kernel
theorem dX8_take_43 : decode cX8_take 43 = .ok (.iand, 1) := by decide +kernel
theorem dX8_take_44 : decode cX8_take 44 = .ok (.dup2, 1) := by decide +kernel
theorem dX8_take_45 : decode cX8_take 45 = .ok (.iaload, 1) := by decide +kernel
theorem dX8_take_46 : decode cX8_take 46 = .ok (.iconst 1, 1) := by decide +kernel
theorem dX8_take_47 : decode cX8_take 47 = .ok (.iadd, 1) := by decide +kernel
theorem dX8_take_48 : decode cX8_take 48 = .ok (.iastore, 1) := by decide +kernel
theorem dX8_take_49 : decode cX8_take 49 = .ok (.aload_n 0, 1) := by decide +kernel
theorem dX8_take_50 : decode cX8_take 50 = .ok (.getfield 9, 3) := by decide +kernel
theorem dX8_take_53 : decode cX8_take 53 = .ok (.ifCond .ne 9, 3) := by decide +kernel
theorem dX8_take_56 : decode cX8_take 56 = .ok (.aload_n 0, 1) := by decide +kernel
theorem dX8_take_57 : decode cX8_take 57 = .ok (.invokevirtual 30, 3) := by decide +kernel
theorem dX8_take_60 : decode cX8_take 60 = .ok (.iconst 0, 1) := by decide +kernel
theorem dX8_take_61 : decode cX8_take 61 = .ok (.ireturn, 1) := by decide +kernel
theorem dX8_take_62 : decode cX8_take 62 = .ok (.aload_n 0, 1) := by decide +kernel
theorem dX8_take_63 : decode cX8_take 63 = .ok (.dup, 1) := by decide +kernel
theorem dX8_take_64 : decode cX8_take 64 = .ok (.getfield 33, 3) := by decide +kernel
theorem dX8_take_67 : decode cX8_take 67 = .ok (.iconst 1, 1) := by decide +kernel
theorem dX8_take_68 : decode cX8_take 68 = .ok (.iadd, 1) := by decide +kernel
theorem dX8_take_69 : decode cX8_take 69 = .ok (.putfield 33, 3) := by decide +kernel
theorem dX8_take_72 : decode cX8_take 72 = .ok (.aload_n 0, 1) := by decide +kernel
theorem dX8_take_73 : decode cX8_take 73 = .ok (.getfield 33, 3) := by decide +kernel
theorem dX8_take_76 : decode cX8_take 76 = .ok (.bipush 8, 2) := by decide +kernel
theorem dX8_take_78 : decode cX8_take 78 = .ok (.if_icmp .ne 7, 3) := by decide +kernel
theorem dX8_take_81 : decode cX8_take 81 = .ok (.aload_n 0, 1) := by decide +kernel
theorem dX8_take_82 : decode cX8_take 82 = .ok (.invokevirtual 36, 3) := by decide +kernel
theorem dX8_take_85 : decode cX8_take 85 = .ok (.aload_n 0, 1) := by decide +kernel
theorem dX8_take_86 : decode cX8_take 86 = .ok (.getfield 33, 3) := by decide +kernel
theorem dX8_take_89 : decode cX8_take 89 = .ok (.bipush 64, 2) := by decide +kernel
theorem dX8_take_91 : decode cX8_take 91 = .ok (.if_icmp .ge 5, 3) := by decide +kernel
theorem dX8_take_94 : decode cX8_take 94 = .ok (.iconst 0, 1) := by decide +kernel
theorem dX8_take_95 : decode cX8_take 95 = .ok (.ireturn, 1) := by decide +kernel
theorem dX8_take_96 : decode cX8_take 96 = .ok (.aload_n 0, 1) := by decide +kernel
theorem dX8_take_97 : decode cX8_take 97 = .ok (.iconst 0, 1) := by decide +kernel
theorem dX8_take_98 : decode cX8_take 98 = .ok (.putfield 33, 3) := by decide +kernel
theorem dX8_take_101 : decode cX8_take 101 = .ok (.aload_n 0, 1) := by decide +kernel
theorem dX8_take_102 : decode cX8_take 102 = .ok (.getfield 9, 3) := by decide +kernel
theorem dX8_take_105 : decode cX8_take 105 = .ok (.iconst 2, 1) := by decide +kernel
theorem dX8_take_106 : decode cX8_take 106 = .ok (.if_icmp .ne 7, 3) := by decide +kernel
theorem dX8_take_109 : decode cX8_take 109 = .ok (.iconst 1, 1) := by decide +kernel
theorem dX8_take_110 : decode cX8_take 110 = .ok (.goto 4, 3) := by decide +kernel
theorem dX8_take_113 : decode cX8_take 113 = .ok (.iconst 0, 1) := by decide +kernel
theorem dX8_take_114 : decode cX8_take 114 = .ok (.ireturn, 1) := by decide +kernel
theorem dX8_syncWordsAt_0 : decode cX8_syncWordsAt 0 = .ok (.iload_n 1, 1) := by decide +kernel
theorem dX8_syncWordsAt_1 : decode cX8_syncWordsAt 1 = .ok (.ifCond .lt 21, 3) := by decide +kernel
theorem dX8_syncWordsAt_4 : decode cX8_syncWordsAt 4 = .ok (.iload_n 1, 1) := by decide +kernel
theorem dX8_syncWordsAt_5 : decode cX8_syncWordsAt 5 = .ok (.aload_n 0, 1) := by decide +kernel
theorem dX8_syncWordsAt_6 : decode cX8_syncWordsAt 6 = .ok (.getfield 15, 3) := by decide +kernel
theorem dX8_syncWordsAt_9 : decode cX8_syncWordsAt 9 = .ok (.arraylength, 1) := by decide +kernel
theorem dX8_syncWordsAt_10 : decode cX8_syncWordsAt 10 = .ok (.if_icmp .ge 12, 3) := by decide +kernel
theorem dX8_syncWordsAt_13 : decode cX8_syncWordsAt 13 = .ok (.aload_n 0, 1) := by decide +kernel
theorem dX8_syncWordsAt_14 : decode cX8_syncWordsAt 14 = .ok (.getfield 15, 3) := by decide +kernel
theorem dX8_syncWordsAt_17 : decode cX8_syncWordsAt 17 = .ok (.iload_n 1, 1) := by decide +kernel
theorem dX8_syncWordsAt_18 : decode cX8_syncWordsAt 18 = .ok (.iaload, 1) := by decide +kernel
theorem dX8_syncWordsAt_19 : decode cX8_syncWordsAt 19 = .ok (.goto 4, 3) := by decide +kernel
theorem dX8_syncWordsAt_22 : decode cX8_syncWordsAt 22 = .ok (.iconst 0, 1) := by decide +kernel
theorem dX8_syncWordsAt_23 : decode cX8_syncWordsAt 23 = .ok (.ireturn, 1) := by decide +kernel
theorem dX8_latestWord_0 : decode cX8_latestWord 0 = .ok (.aload_n 0, 1) := by decide +kernel
theorem dX8_latestWord_1 : decode cX8_latestWord 1 = .ok (.getfield 19, 3) := by decide +kernel
theorem dX8_latestWord_4 : decode cX8_latestWord 4 = .ok (.l2i, 1) := by decide +kernel
theorem dX8_latestWord_5 : decode cX8_latestWord 5 = .ok (.sipush 255, 3) := by decide +kernel
theorem dX8_latestWord_8 : decode cX8_latestWord 8 = .ok (.iand, 1) := by decide +kernel
theorem dX8_latestWord_9 : decode cX8_latestWord 9 = .ok (.ireturn, 1) := by decide +kernel
set_option maxRecDepth 20000 in
theorem ggX8_isSyncWord_X8_latestWord : GoodIn wsX8_isSyncWord wsX8_latestWord := goodIn_r _ [5, 6, 7, 8, 9, 10, 11, 12, 13] (by decide +kernel) (by decide +kernel)
set_option maxRecDepth 20000 in
theorem gX8_isSyncWord_X8_latestWord : GoodIn wsX8_isSyncWord (wsV RX8 39 RX8 yX8_latestWord wsX8_latestWord) := goodIn_app (goodIn_of _ (by decide +kernel)) ggX8_isSyncWord_X8_latestWord
theorem dX8_isSyncWord_0 : decode cX8_isSyncWord 0 = .ok (.aload_n 0, 1) := by decide +kernel
theorem dX8_isSyncWord_1 : decode cX8_isSyncWord 1 = .ok (.invokevirtual 39, 3) := by decide +kernel
theorem dX8_isSyncWord_4 : decode cX8_isSyncWord 4 = .ok (.sipush 184, 3) := by decide +kernel
theorem dX8_isSyncWord_7 : decode cX8_isSyncWord 7 = .ok (.if_icmp .ne 7, 3) := by decide +kernel
theorem dX8_isSyncWord_10 : decode cX8_isSyncWord 10 = .ok (.iconst 1, 1) := by decide +kernel
theorem dX8_isSyncWord_11 : decode cX8_isSyncWord 11 = .ok (.goto 4, 3) := by decide +kernel
theorem dX8_isSyncWord_14 : decode cX8_isSyncWord 14 = .ok (.iconst 0, 1) := by decide +kernel
theorem dX8_isSyncWord_15 : decode cX8_isSyncWord 15 = .ok (.ireturn, 1) := by decide +kernel
set_option maxRecDepth 20000 in
theorem ggX8_search_X8_isSyncWord : GoodIn wsX8_search wsX8_isSyncWord := goodIn_r _ [8, 9, 10, 11, 7, 12, 13, 14, 15, 16, 17, 18, 19, 20] (by decide +kernel) (by decide +kernel)
set_option maxRecDepth 20000 in
theorem gX8_search_X8_isSyncWord : GoodIn wsX8_search (wsV RX8 26 RX8 yX8_isSyncWord wsX8_isSyncWord) := goodIn_app (goodIn_of _ (by decide +kernel)) ggX8_search_X8_isSyncWord
theorem dX8_search_0 : decode cX8_search 0 = .ok (.aload_n 0, 1) := by decide +kernel
theorem dX8_search_1 : decode cX8_search 1 = .ok (.invokevirtual 26, 3) := by decide +kernel
theorem dX8_search_4 : decode cX8_search 4 = .ok (.ifCond .eq 19, 3) := by decide +kernel
theorem dX8_search_7 : decode cX8_search 7 = .ok (.aload_n 0, 1) := by decide +kernel
theorem dX8_search_8 : decode cX8_search 8 = .ok (.iconst 1, 1) := by decide +kernel
theorem dX8_search_9 : decode cX8_search 9 = .ok (.putfield 9, 3) := by decide +kernel
theorem dX8_search_12 : decode cX8_search 12 = .ok (.aload_n 0, 1) := by decide +kernel
theorem dX8_search_13 : decode cX8_search 13 = .ok (.iconst 1, 1) := by decide +kernel
theorem dX8_search_14 : decode cX8_search 14 = .ok (.putfield 43, 3) := by decide +kernel
theorem dX8_search_17 : decode cX8_search 17 = .ok (.aload_n 0, 1) := by decide +kernel
theorem dX8_search_18 : decode cX8_search 18 = .ok (.bipush 8, 2) := by decide +kernel
theorem dX8_search_20 : decode cX8_search 20 = .ok (.putfield 33, 3) := by decide +kernel
theorem dX8_search_23 : decode cX8_search 23 = .ok (.return_, 1) := by decide +kernel
set_option maxRecDepth 20000 in
theorem ggX8_judgeSyncWord_X8_check : GoodIn wsX8_judgeSyncWord wsX8_check := goodIn_r _ [6, 1, 7, 8, 9, 10, 11, 5, 12, 13, 14, 15, 16, 17, 29, 30, 31, 32, 33, 34, 35] (by decide +kernel) (by decide +kernel)
set_option maxRecDepth 20000 in
theorem gX8_judgeSyncWord_X8_check : GoodIn wsX8_judgeSyncWord (wsV RX8 46 RX8 yX8_check wsX8_check) := goodIn_app (goodIn_of _ (by decide +kernel)) ggX8_judgeSyncWord_X8_check
set_option maxRecDepth 20000 in
theorem ggX8_judgeSyncWord_X8_keepLock : GoodIn wsX8_judgeSyncWord wsX8_keepLock := goodIn_r _ [21, 8, 1, 13, 14, 15, 5, 16, 17, 22, 23, 24, 25, 26, 27, 28, 29, 30, 31, 32, 33, 34, 35] (by decide +kernel) (by decide +kernel)
set_option maxRecDepth 20000 in
theorem gX8_judgeSyncWord_X8_keepLock : GoodIn wsX8_judgeSyncWord (wsV RX8 49 RX8 yX8_keepLock wsX8_keepLock) := goodIn_app (goodIn_of _ (by decide +kernel)) ggX8_judgeSyncWord_X8_keepLock
theorem dX8_judgeSyncWord_0 : decode cX8_judgeSyncWord 0 = .ok (.aload_n 0, 1) := by decide +kernel
theorem dX8_judgeSyncWord_1 : decode cX8_judgeSyncWord 1 = .ok (.getfield 9, 3) := by decide +kernel
theorem dX8_judgeSyncWord_4 : decode cX8_judgeSyncWord 4 = .ok (.iconst 1, 1) := by decide +kernel
theorem dX8_judgeSyncWord_5 : decode cX8_judgeSyncWord 5 = .ok (.if_icmp .ne 10, 3) := by decide +kernel
theorem dX8_judgeSyncWord_8 : decode cX8_judgeSyncWord 8 = .ok (.aload_n 0, 1) := by decide +kernel
theorem dX8_judgeSyncWord_9 : decode cX8_judgeSyncWord 9 = .ok (.invokevirtual 46, 3) := by decide +kernel
theorem dX8_judgeSyncWord_12 : decode cX8_judgeSyncWord 12 = .ok (.goto 7, 3) := by decide +kernel
theorem dX8_judgeSyncWord_15 : decode cX8_judgeSyncWord 15 = .ok (.aload_n 0, 1) := by decide +kernel
theorem dX8_judgeSyncWord_16 : decode cX8_judgeSyncWord 16 = .ok (.invokevirtual 49, 3) := by decide +kernel
theorem dX8_judgeSyncWord_19 : decode cX8_judgeSyncWord 19 = .ok (.return_, 1) := by decide +kernel
set_option maxRecDepth 20000 in
theorem ggX8_check_X8_isSyncWord : GoodIn wsX8_check wsX8_isSyncWord := goodIn_r _ [8, 9, 10, 11, 7, 12, 13, 14, 15, 16, 17, 18, 19, 20] (by decide +kernel) (by decide +kernel)
set_option maxRecDepth 20000 in
theorem gX8_check_X8_isSyncWord : GoodIn wsX8_check (wsV RX8 26 RX8 yX8_isSyncWord wsX8_isSyncWord) := goodIn_app (goodIn_of _ (by decide +kernel)) ggX8_check_X8_isSyncWord
theorem dX8_check_0 : decode cX8_check 0 = .ok (.aload_n 0, 1) := by decide +kernel
theorem dX8_check_1 : decode cX8_check 1 = .ok (.invokevirtual 26, 3) := by decide +kernel
theorem dX8_check_4 : decode cX8_check 4 = .ok (.ifCond .ne 9, 3) := by decide +kernel
theorem dX8_check_7 : decode cX8_check 7 = .ok (.aload_n 0, 1) := by decide +kernel
theorem dX8_check_8 : decode cX8_check 8 = .ok (.iconst 0, 1) := by decide +kernel
theorem dX8_check_9 : decode cX8_check 9 = .ok (.putfield 9, 3) := by decide +kernel
theorem dX8_check_12 : decode cX8_check 12 = .ok (.return_, 1) := by decide +kernel
theorem dX8_check_13 : decode cX8_check 13 = .ok (.aload_n 0, 1) := by decide +kernel
theorem dX8_check_14 : decode cX8_check 14 = .ok (.dup, 1) := by decide +kernel
theorem dX8_check_15 : decode cX8_check 15 = .ok (.getfield 43, 3) := by decide +kernel
theorem dX8_check_18 : decode cX8_check 18 = .ok (.iconst 1, 1) := by decide +kernel
theorem dX8_check_19 : decode cX8_check 19 = .ok (.iadd, 1) := by decide +kernel
theorem dX8_check_20 : decode cX8_check 20 = .ok (.putfield 43, 3) := by decide +kernel
theorem dX8_check_23 : decode cX8_check 23 = .ok (.aload_n 0, 1) := by decide +kernel
theorem dX8_check_24 : decode cX8_check 24 = .ok (.getfield 43, 3) := by decide +kernel
theorem dX8_check_27 : decode cX8_check 27 = .ok (.iconst 3, 1) := by decide +kernel
theorem dX8_check_28 : decode cX8_check 28 = .ok (.if_icmp .ne 13, 3) := by decide +kernel
theorem dX8_check_31 : decode cX8_check 31 = .ok (.aload_n 0, 1) := by decide +kernel
theorem dX8_check_32 : decode cX8_check 32 = .ok (.iconst 2, 1) := by decide +kernel
theorem dX8_check_33 : decode cX8_check 33 = .ok (.putfield 9, 3) := by decide +kernel
theorem dX8_check_36 : decode cX8_check 36 = .ok (.aload_n 0, 1) := by decide +kernel
theorem dX8_check_37 : decode cX8_check 37 = .ok (.iconst 0, 1) := by decide +kernel
theorem dX8_check_38 : decode cX8_check 38 = .ok (.putfield 52, 3) := by decide +kernel
theorem dX8_check_41 : decode cX8_check 41 = .ok (.return_, 1) := by decide +kernel
set_option maxRecDepth 20000 in
theorem ggX8_keepLock_X8_latestWord : GoodIn wsX8_keepLock wsX8_latestWord := goodIn_r _ [7, 8, 16, 17, 18, 19, 20, 21, 22] (by decide +kernel) (by decide +kernel)
set_option maxRecDepth 20000 in
theorem gX8_keepLock_X8_latestWord : GoodIn wsX8_keepLock (wsV RX8 39 RX8 yX8_latestWord wsX8_latestWord) := goodIn_app (goodIn_of _ (by decide +kernel)) ggX8_keepLock_X8_latestWord
set_option maxRecDepth 20000 in
theorem ggX8_keepLock_J6_bitCount_0f7a4 : GoodIn wsX8_keepLock wsJ6_bitCount_0f7a4 := goodIn_r _ [12, 13, 14, 15] (by decide +kernel) (by decide +kernel)
set_option maxRecDepth 20000 in
theorem gX8_keepLock_J6_bitCount_0f7a4 : GoodIn wsX8_keepLock (va_wsS RX8 55 yJ6_bitCount_0f7a4 wsJ6_bitCount_0f7a4) := goodIn_app (goodIn_of _ (by decide +kernel)) ggX8_keepLock_J6_bitCount_0f7a4
theorem dX8_keepLock_0 : decode cX8_keepLock 0 = .ok (.aload_n 0, 1) := by decide +kernel
theorem dX8_keepLock_1 : decode cX8_keepLock 1 = .ok (.invokevirtual 39, 3) := by decide +kernel
theorem dX8_keepLock_4 : decode cX8_keepLock 4 = .ok (.sipush 184, 3) := by decide +kernel
theorem dX8_keepLock_7 : decode cX8_keepLock 7 = .ok (.ixor, 1) := by decide +kernel
theorem dX8_keepLock_8 : decode cX8_keepLock 8 = .ok (.invokestatic 55, 3) := by decide +kernel
theorem dX8_keepLock_11 : decode cX8_keepLock 11 = .ok (.iconst 1, 1) := by decide +kernel
theorem dX8_keepLock_12 : decode cX8_keepLock 12 = .ok (.if_icmp .gt 9, 3) := by decide +kernel
theorem dX8_keepLock_15 : decode cX8_keepLock 15 = .ok (.aload_n 0, 1) := by decide +kernel
theorem dX8_keepLock_16 : decode cX8_keepLock 16 = .ok (.iconst 0, 1) := by decide +kernel
theorem dX8_keepLock_17 : decode cX8_keepLock 17 = .ok (.putfield 52, 3) := by decide +kernel
theorem dX8_keepLock_20 : decode cX8_keepLock 20 = .ok (.return_, 1) := by decide +kernel
theorem dX8_keepLock_21 : decode cX8_keepLock 21 = .ok (.aload_n 0, 1) := by decide +kernel
theorem dX8_keepLock_22 : decode cX8_keepLock 22 = .ok (.dup, 1) := by decide +kernel
theorem dX8_keepLock_23 : decode cX8_keepLock 23 = .ok (.getfield 52, 3) := by decide +kernel
theorem dX8_keepLock_26 : decode cX8_keepLock 26 = .ok (.iconst 1, 1) := by decide +kernel
theorem dX8_keepLock_27 : decode cX8_keepLock 27 = .ok (.iadd, 1) := by decide +kernel
theorem dX8_keepLock_28 : decode cX8_keepLock 28 = .ok (.putfield 52, 3) := by decide +kernel
theorem dX8_keepLock_31 : decode cX8_keepLock 31 = .ok (.aload_n 0, 1) := by decide +kernel
theorem dX8_keepLock_32 : decode cX8_keepLock 32 = .ok (.getfield 52, 3) := by decide +kernel
theorem dX8_keepLock_35 : decode cX8_keepLock 35 = .ok (.iconst 2, 1) := by decide +kernel
theorem dX8_keepLock_36 : decode cX8_keepLock 36 = .ok (.if_icmp .ne 8, 3) := by decide +kernel
theorem dX8_keepLock_39 : decode cX8_keepLock 39 = .ok (.aload_n 0, 1) := by decide +kernel
theorem dX8_keepLock_40 : decode cX8_keepLock 40 = .ok (.iconst 0, 1) := by decide +kernel
theorem dX8_keepLock_41 : decode cX8_keepLock 41 = .ok (.putfield 9, 3) := by decide +kernel
theorem dX8_keepLock_44 : decode cX8_keepLock 44 = .ok (.return_, 1) := by decide +kernel
set_option maxRecDepth 20000 in
theorem ggX9_init_X5_init : GoodIn wsX9_init wsX5_init := goodIn_r _ [29, 30, 2, 3, 31, 32, 33, 34, 69, 70, 71] (by decide +kernel) (by decide +kernel)
set_option maxRecDepth 20000 in
theorem gX9_init_X5_init_n9 : GoodIn wsX9_init (wsX5_init) := ggX9_init_X5_init
set_option maxRecDepth 20000 in
theorem ggX9_init_X3_init : GoodIn wsX9_init wsX3_init := goodIn_r _ [36, 37, 2, 3, 38, 39, 78, 79, 80] (by decide +kernel) (by decide +kernel)
set_option maxRecDepth 20000 in
theorem gX9_init_X3_init_n18 : GoodIn wsX9_init (wsX3_init) := ggX9_init_X3_init
set_option maxRecDepth 20000 in
theorem ggX9_init_X7_init : GoodIn wsX9_init wsX7_init := goodIn_r _ [41, 42, 2, 3] (by decide +kernel) (by decide +kernel)
set_option maxRecDepth 20000 in
theorem gX9_init_X7_init_n25 : GoodIn wsX9_init (wsX7_init) := ggX9_init_X7_init
set_option maxRecDepth 20000 in
theorem ggX9_init_X8_init : GoodIn wsX9_init wsX8_init := goodIn_r _ [44, 45, 2, 3, 46, 38, 47, 83, 84, 85, 86, 87, 88, 89] (by decide +kernel) (by decide +kernel)
set_option maxRecDepth 20000 in
theorem gX9_init_X8_init_n32 : GoodIn wsX9_init (wsX8_init) := ggX9_init_X8_init
set_option maxRecDepth 20000 in
theorem ggX9_init_X0_init : GoodIn wsX9_init wsX0_init := goodIn_r _ [49, 50, 2, 3] (by decide +kernel) (by decide +kernel)
set_option maxRecDepth 20000 in
theorem gX9_init_X0_init_n39 : GoodIn wsX9_init (wsX0_init) := ggX9_init_X0_init
set_option maxRecDepth 20000 in
theorem ggX9_init_X2_init : GoodIn wsX9_init wsX2_init := goodIn_r _ [53, 54, 2, 3, 55, 56, 57, 58, 59, 60, 61, 62, 63, 64, 65, 66, 67, 68, 95, 96, 97, 98, 99, 100, 101, 102, 103] (by decide +kernel) (by decide +kernel)
set_option maxRecDepth 20000 in
theorem gX9_init_X2_init : GoodIn wsX9_init (wsX2_init) := ggX9_init_X2_init
theorem dX9_init_0 : decode cX9_init 0 = .ok (.aload_n 0, 1) := by decide +kernel
theorem dX9_init_1 : decode cX9_init 1 = .ok (.invokespecial 1, 3) := by decide +kernel
theorem dX9_init_4 : decode cX9_init 4 = .ok (.aload_n 0, 1) := by decide +kernel
theorem dX9_init_5 : decode cX9_init 5 = .ok (.new 7, 3) := by decide +kernel
theorem dX9_init_8 : decode cX9_init 8 = .ok (.dup, 1) := by decide +kernel
theorem dX9_init_9 : decode cX9_init 9 = .ok (.invokespecial 9, 3) := by decide +kernel
theorem dX9_init_12 : decode cX9_init 12 = .ok (.putfield 10, 3) := by decide +kernel
theorem dX9_init_15 : decode cX9_init 15 = .ok (.aload_n 0, 1) := by decide +kernel
theorem dX9_init_16 : decode cX9_init 16 = .ok (.new 16, 3) := by decide +kernel
theorem dX9_init_19 : decode cX9_init 19 = .ok (.dup, 1) := by decide +kernel
theorem dX9_init_20 : decode cX9_init 20 = .ok (.invokespecial 18, 3) := by decide +kernel
theorem dX9_init_23 : decode cX9_init 23 = .ok (.putfield 19, 3) := by decide +kernel
theorem dX9_init_26 : decode cX9_init 26 = .ok (.aload_n 0, 1) := by decide +kernel
theorem dX9_init_27 : decode cX9_init 27 = .ok (.new 23, 3) := by decide +kernel
theorem dX9_init_30 : decode cX9_init 30 = .ok (.dup, 1) := by decide +kernel
theorem dX9_init_31 : decode cX9_init 31 = .ok (.invokespecial 25, 3) := by decide +kernel
theorem dX9_init_34 : decode cX9_init 34 = .ok (.putfield 26, 3) := by decide +kernel
theorem dX9_init_37 : decode cX9_init 37 = .ok (.aload_n 0, 1) := by decide +kernel
theorem dX9_init_38 : decode cX9_init 38 = .ok (.new 30, 3) := by decide +kernel
theorem dX9_init_41 : decode cX9_init 41 = .ok (.dup, 1) := by decide +kernel
theorem dX9_init_42 : decode cX9_init 42 = .ok (.invokespecial 32, 3) := by decide +kernel
theorem dX9_init_45 : decode cX9_init 45 = .ok (.putfield 33, 3) := by decide +kernel
theorem dX9_init_48 : decode cX9_init 48 = .ok (.aload_n 0, 1) := by decide +kernel
theorem dX9_init_49 : decode cX9_init 49 = .ok (.new 37, 3) := by decide +kernel
theorem dX9_init_52 : decode cX9_init 52 = .ok (.dup, 1) := by decide +kernel
theorem dX9_init_53 : decode cX9_init 53 = .ok (.invokespecial 39, 3) := by decide +kernel
theorem dX9_init_56 : decode cX9_init 56 = .ok (.putfield 40, 3) := by decide +kernel
theorem dX9_init_59 : decode cX9_init 59 = .ok (.aload_n 0, 1) := by decide +kernel
theorem dX9_init_60 : decode cX9_init 60 = .ok (.new 44, 3) := by decide +kernel
theorem dX9_init_63 : decode cX9_init 63 = .ok (.dup, 1) := by decide +kernel
theorem dX9_init_64 : decode cX9_init 64 = .ok (.invokespecial 46, 3) := by decide +kernel
theorem dX9_init_67 : decode cX9_init 67 = .ok (.putfield 47, 3) := by decide +kernel
theorem dX9_init_70 : decode cX9_init 70 = .ok (.return_, 1) := by decide +kernel
set_option maxRecDepth 20000 in
theorem ggX9_addPoint_X9_isPointAllowed : GoodIn wsX9_addPoint wsX9_isPointAllowed := goodIn_r _ [10] (by decide +kernel) (by decide +kernel)
set_option maxRecDepth 20000 in
theorem gX9_addPoint_X9_isPointAllowed : GoodIn wsX9_addPoint (va_wsS RX9 51 yX9_isPointAllowed wsX9_isPointAllowed) := goodIn_app (goodIn_of _ (by decide +kernel)) ggX9_addPoint_X9_isPointAllowed
set_option maxRecDepth 20000 in
theorem ggX9_addPoint_X5_add : GoodIn wsX9_addPoint wsX5_add := goodIn_r _ [15, 16, 17, 18, 19, 20, 21, 22, 14, 23, 24, 25, 26, 27, 28, 29, 30, 31, 32, 33, 34, 35, 36, 37, 38, 39, 40, 41, 42, 43, 44, 45, 46, 47, 48, 49, 50, 51, 60, 61, 62, 63, 64, 65, 66, 67, 68, 69, 70, 71, 72, 73, 74, 75] (by decide +kernel) (by decide +kernel)
set_option maxRecDepth 20000 in
theorem gX9_addPoint_X5_add : GoodIn wsX9_addPoint (wsV RX9 62 RX5 yX5_add wsX5_add) := goodIn_app (goodIn_of _ (by decide +kernel)) ggX9_addPoint_X5_add
theorem dX9_addPoint_0 : decode cX9_addPoint 0 = .ok (.iload_n 1, 1) := by decide +kernel
theorem dX9_addPoint_1 : decode cX9_addPoint 1 = .ok (.iload_n 2, 1) := by decide +kernel
theorem dX9_addPoint_2 : decode cX9_addPoint 2 = .ok (.iload_n 3, 1) := by decide +kernel
theorem dX9_addPoint_3 : decode cX9_addPoint 3 = .ok (.iload 4, 2) := by decide +kernel
theorem dX9_addPoint_5 : decode cX9_addPoint 5 = .ok (.invokestatic 51, 3) := by decide +kernel
theorem dX9_addPoint_8 : decode cX9_addPoint 8 = .ok (.ifCond .ne 11, 3) := by decide +kernel
theorem dX9_addPoint_11 : decode cX9_addPoint 11 = .ok (.new 55, 3) := by decide +kernel
theorem dX9_addPoint_14 : decode cX9_addPoint 14 = .ok (.dup, 1) := by decide +kernel
theorem dX9_addPoint_15 : decode cX9_addPoint 15 = .ok (.invokespecial 57, 3) := by decide +kernel
theorem dX9_addPoint_18 : decode cX9_addPoint 18 = .ok (.athrow, 1) := by decide +kernel
theorem dX9_addPoint_19 : decode cX9_addPoint 19 = .ok (.aload_n 0, 1) := by decide +kernel
theorem dX9_addPoint_20 : decode cX9_addPoint 20 = .ok (.getfield 26, 3) := by decide +kernel
theorem dX9_addPoint_23 : decode cX9_addPoint 23 = .ok (.getfield 58, 3) := by decide +kernel
theorem dX9_addPoint_26 : decode cX9_addPoint 26 = .ok (.ifCond .gt 18, 3) := by decide +kernel
theorem dX9_addPoint_29 : decode cX9_addPoint 29 = .ok (.aload_n 0, 1) := by decide +kernel
theorem dX9_addPoint_30 : decode cX9_addPoint 30 = .ok (.getfield 10, 3) := by decide +kernel
theorem dX9_addPoint_33 : decode cX9_addPoint 33 = .ok (.iload_n 1, 1) := by decide +kernel
theorem dX9_addPoint_34 : decode cX9_addPoint 34 = .ok (.iload_n 2, 1) := by decide +kernel
theorem dX9_addPoint_35 : decode cX9_addPoint 35 = .ok (.iload_n 3, 1) := by decide +kernel
theorem dX9_addPoint_36 : decode cX9_addPoint 36 = .ok (.iload 4, 2) := by decide +kernel
theorem dX9_addPoint_38 : decode cX9_addPoint 38 = .ok (.invokevirtual 62, 3) := by decide +kernel
theorem dX9_addPoint_41 : decode cX9_addPoint 41 = .ok (.ifCond .ne 11, 3) := by decide +kernel
theorem dX9_addPoint_44 : decode cX9_addPoint 44 = .ok (.new 65, 3) := by decide +kernel
theorem dX9_addPoint_47 : decode cX9_addPoint 47 = .ok (.dup, 1) := by decide +kernel
theorem dX9_addPoint_48 : decode cX9_addPoint 48 = .ok (.invokespecial 67, 3) := by decide +kernel
theorem dX9_addPoint_51 : decode cX9_addPoint 51 = .ok (.athrow, 1) := by decide +kernel
theorem dX9_addPoint_52 : decode cX9_addPoint 52 = .ok (.aload_n 0, 1) := by decide +kernel
theorem dX9_addPoint_53 : decode cX9_addPoint 53 = .ok (.getfield 10, 3) := by decide +kernel
theorem dX9_addPoint_56 : decode cX9_addPoint 56 = .ok (.getfield 68, 3) := by decide +kernel
theorem dX9_addPoint_59 : decode cX9_addPoint 59 = .ok (.iconst 1, 1) := by decide +kernel
theorem dX9_addPoint_60 : decode cX9_addPoint 60 = .ok (.isub, 1) := by decide +kernel
theorem dX9_addPoint_61 : decode cX9_addPoint 61 = .ok (.ireturn, 1) := by decide +kernel
theorem dX9_points_0 : decode cX9_points 0 = .ok (.aload_n 0, 1) := by decide +kernel
theorem dX9_points_1 : decode cX9_points 1 = .ok (.getfield 10, 3) := by decide +kernel
theorem dX9_points_4 : decode cX9_points 4 = .ok (.getfield 68, 3) := by decide +kernel
theorem dX9_points_7 : decode cX9_points 7 = .ok (.ireturn, 1) := by decide +kernel
set_option maxRecDepth 20000 in
theorem ggX9_place_X9_existingPoint : GoodIn wsX9_place wsX9_existingPoint := goodIn_ca (goodIn_r _ [5, 6, 7, 8, 9, 10, 11, 12, 13, 14, 15, 26, 27, 28, 29, 30, 31, 32, 33, 34] (by decide +kernel) (by decide +kernel)) (goodIn_sub (fun _ h => List.mem_cons_of_mem _ (List.mem_append_right _ h)) (by decide +kernel))
set_option maxRecDepth 20000 in
theorem gX9_place_X9_existingPoint : GoodIn wsX9_place (wsV RX9 71 RX9 yX9_existingPoint wsX9_existingPoint) := goodIn_app (goodIn_of _ (by decide +kernel)) ggX9_place_X9_existingPoint
theorem dX9_place_0 : decode cX9_place 0 = .ok (.aload_n 0, 1) := by decide +kernel
theorem dX9_place_1 : decode cX9_place 1 = .ok (.iload_n 1, 1) := by decide +kernel
theorem dX9_place_2 : decode cX9_place 2 = .ok (.invokevirtual 71, 3) := by decide +kernel
theorem dX9_place_5 : decode cX9_place 5 = .ok (.astore_n 2, 1) := by decide +kernel
theorem dX9_place_6 : decode cX9_place 6 = .ok (.bipush 100, 2) := by decide +kernel
theorem dX9_place_8 : decode cX9_place 8 = .ok (.aload_n 2, 1) := by decide +kernel
theorem dX9_place_9 : decode cX9_place 9 = .ok (.getfield 75, 3) := by decide +kernel
theorem dX9_place_12 : decode cX9_place 12 = .ok (.imul, 1) := by decide +kernel
theorem dX9_place_13 : decode cX9_place 13 = .ok (.aload_n 2, 1) := by decide +kernel
theorem dX9_place_14 : decode cX9_place 14 = .ok (.getfield 80, 3) := by decide +kernel
theorem dX9_place_17 : decode cX9_place 17 = .ok (.iadd, 1) := by decide +kernel
theorem dX9_place_18 : decode cX9_place 18 = .ok (.ireturn, 1) := by decide +kernel
set_option maxRecDepth 20000 in
theorem ggX9_spare_X5_spareBits : GoodIn wsX9_spare wsX5_spareBits := goodIn_r _ [6, 7, 8, 9, 10, 11, 12, 13, 14, 21, 22, 23] (by decide +kernel) (by decide +kernel)
set_option maxRecDepth 20000 in
theorem gX9_spare_X5_spareBits : GoodIn wsX9_spare (wsV RX9 83 RX5 yX5_spareBits wsX5_spareBits) := goodIn_app (goodIn_of _ (by decide +kernel)) ggX9_spare_X5_spareBits
theorem dX9_spare_0 : decode cX9_spare 0 = .ok (.aload_n 0, 1) := by decide +kernel
theorem dX9_spare_1 : decode cX9_spare 1 = .ok (.getfield 10, 3) := by decide +kernel
theorem dX9_spare_4 : decode cX9_spare 4 = .ok (.invokevirtual 83, 3) := by decide +kernel
theorem dX9_spare_7 : decode cX9_spare 7 = .ok (.ireturn, 1) := by decide +kernel
set_option maxRecDepth 20000 in
theorem ggX9_put_X9_existingPoint : GoodIn wsX9_put wsX9_existingPoint := goodIn_ca (goodIn_r _ [7, 8, 9, 10, 11, 12, 13, 14, 15, 16, 17, 43, 44, 45, 46, 47, 48, 49, 50, 51] (by decide +kernel) (by decide +kernel)) (goodIn_sub (fun _ h => List.mem_cons_of_mem _ (List.mem_append_right _ h)) (by decide +kernel))
set_option maxRecDepth 20000 in
theorem gX9_put_X9_existingPoint : GoodIn wsX9_put (wsV RX9 71 RX9 yX9_existingPoint wsX9_existingPoint) := goodIn_app (goodIn_of _ (by decide +kernel)) ggX9_put_X9_existingPoint
set_option maxRecDepth 20000 in
theorem ggX9_put_X4_lowest : GoodIn wsX9_put wsX4_lowest := goodIn_r _ [22, 23, 24, 25, 26, 21, 27, 28, 33, 34, 35, 36, 37, 38, 39, 40, 41, 42] (by decide +kernel) (by decide +kernel)
set_option maxRecDepth 20000 in
theorem gX9_put_X4_lowest : GoodIn wsX9_put (wsV RX9 87 RX4 yX4_lowest wsX4_lowest) := goodIn_app (goodIn_of _ (by decide +kernel)) ggX9_put_X4_lowest
set_option maxRecDepth 20000 in
theorem ggX9_put_X4_highest : GoodIn wsX9_put wsX4_highest := goodIn_r _ [32, 23, 28, 24, 25, 26, 21, 27, 33, 34, 35, 36, 37, 38, 39, 40, 41, 42] (by decide +kernel) (by decide +kernel)
set_option maxRecDepth 20000 in
theorem gX9_put_X4_highest : GoodIn wsX9_put (wsV RX9 90 RX4 yX4_highest wsX4_highest) := goodIn_app (goodIn_of _ (by decide +kernel)) ggX9_put_X4_highest
theorem dX9_put_0 : decode cX9_put 0 = .ok (.aload_n 0, 1) := by decide +kernel
theorem dX9_put_1 : decode cX9_put 1 = .ok (.iload_n 1, 1) := by decide +kernel
theorem dX9_put_2 : decode cX9_put 2 = .ok (.invokevirtual 71, 3) := by decide +kernel
theorem dX9_put_5 : decode cX9_put 5 = .ok (.astore_n 3, 1) := by decide +kernel
theorem dX9_put_6 : decode cX9_put 6 = .ok (.iload_n 2, 1) := by decide +kernel
theorem dX9_put_7 : decode cX9_put 7 = .ok (.aload_n 3, 1) := by decide +kernel
theorem dX9_put_8 : decode cX9_put 8 = .ok (.invokevirtual 87, 3) := by decide +kernel
theorem dX9_put_11 : decode cX9_put 11 = .ok (.if_icmp .lt 11, 3) := by decide +kernel
theorem dX9_put_14 : decode cX9_put 14 = .ok (.iload_n 2, 1) := by decide +kernel
theorem dX9_put_15 : decode cX9_put 15 = .ok (.aload_n 3, 1) := by decide +kernel
theorem dX9_put_16 : decode cX9_put 16 = .ok (.invokevirtual 90, 3) := by decide +kernel
theorem dX9_put_19 : decode cX9_put 19 = .ok (.if_icmp .le 11, 3) := by decide +kernel
theorem dX9_put_22 : decode cX9_put 22 = .ok (.new 55, 3) := by decide +kernel
theorem dX9_put_25 : decode cX9_put 25 = .ok (.dup, 1) := by decide +kernel
theorem dX9_put_26 : decode cX9_put 26 = .ok (.invokespecial 57, 3) := by decide +kernel
theorem dX9_put_29 : decode cX9_put 29 = .ok (.athrow, 1) := by decide +kernel
theorem dX9_put_30 : decode cX9_put 30 = .ok (.aload_n 3, 1) := by decide +kernel
theorem dX9_put_31 : decode cX9_put 31 = .ok (.getfield 93, 3) := by decide +kernel
theorem dX9_put_34 : decode cX9_put 34 = .ok (.istore 4, 2) := by decide +kernel
theorem dX9_put_36 : decode cX9_put 36 = .ok (.aload_n 3, 1) := by decide +kernel
theorem dX9_put_37 : decode cX9_put 37 = .ok (.iload_n 2, 1) := by decide +kernel
theorem dX9_put_38 : decode cX9_put 38 = .ok (.putfield 93, 3) := by decide +kernel
theorem dX9_put_41 : decode cX9_put 41 = .ok (.iload 4, 2) := by decide +kernel
theorem dX9_put_43 : decode cX9_put 43 = .ok (.ireturn, 1) := by decide +kernel
set_option maxRecDepth 20000 in
theorem ggX9_send_X7_sendWord : GoodIn wsX9_send wsX7_sendWord := goodIn_r _ [12, 13, 14, 15, 16, 17, 18, 11, 19, 20, 21, 22, 23, 24, 25, 26, 27, 28, 29, 30, 31, 32, 33, 34, 35, 36, 37, 38, 39, 40, 41, 42, 43, 44, 45, 46, 47, 48, 49, 50, 51, 52, 53, 54, 55, 56, 57, 58, 59, 60, 61, 62, 63, 64, 65, 77, 78, 79, 80, 81, 82, 83, 84, 85, 86, 87, 88, 89, 90, 91, 92, 93, 94] (by decide +kernel) (by decide +kernel)
set_option maxRecDepth 20000 in
theorem gX9_send_X7_sendWord : GoodIn wsX9_send (wsV RX9 96 RX7 yX7_sendWord wsX7_sendWord) := goodIn_app (goodIn_of _ (by decide +kernel)) ggX9_send_X7_sendWord
set_option maxRecDepth 20000 in
theorem ggX9_send_X3_length : GoodIn wsX9_send wsX3_length := goodIn_r _ [69, 64, 70, 92, 93, 94] (by decide +kernel) (by decide +kernel)
set_option maxRecDepth 20000 in
theorem gX9_send_X3_length : GoodIn wsX9_send (wsV RX9 100 RX3 yX3_length wsX3_length) := goodIn_app (goodIn_of _ (by decide +kernel)) ggX9_send_X3_length
theorem dX9_send_0 : decode cX9_send 0 = .ok (.iload_n 1, 1) := by decide +kernel
theorem dX9_send_1 : decode cX9_send 1 = .ok (.iconst 1, 1) := by decide +kernel
theorem dX9_send_2 : decode cX9_send 2 = .ok (.if_icmp .lt 9, 3) := by decide +kernel
theorem dX9_send_5 : decode cX9_send 5 = .ok (.iload_n 1, 1) := by decide +kernel
theorem dX9_send_6 : decode cX9_send 6 = .ok (.bipush 64, 2) := by decide +kernel
theorem dX9_send_8 : decode cX9_send 8 = .ok (.if_icmp .le 11, 3) := by decide +kernel
theorem dX9_send_11 : decode cX9_send 11 = .ok (.new 55, 3) := by decide +kernel
theorem dX9_send_14 : decode cX9_send 14 = .ok (.dup, 1) := by decide +kernel
theorem dX9_send_15 : decode cX9_send 15 = .ok (.invokespecial 57, 3) := by decide +kernel
theorem dX9_send_18 : decode cX9_send 18 = .ok (.athrow, 1) := by decide +kernel
theorem dX9_send_19 : decode cX9_send 19 = .ok (.aload_n 0, 1) := by decide +kernel
