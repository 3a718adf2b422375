theorem dX0_init_0 : decode cX0_init 0 = .ok (.aload_n 0, 1) := by decide +kernel
theorem dX0_init_1 : decode cX0_init 1 = .ok (.invokespecial 3, 3) := by decide +kernel
theorem dX0_init_4 : decode cX0_init 4 = .ok (.return_, 1) := by decide +kernel
set_option maxRecDepth 20000 in
theorem ggX0_decode_X0_noteLost : GoodIn wsX0_decode wsX0_noteLost := goodIn_r _ [9, 10, 3, 11, 12, 13, 14, 15, 16, 17, 18, 19, 20, 21, 22, 23, 24, 25, 26, 27, 28, 29, 30, 31, 32, 33, 34, 72, 73, 74, 75, 76, 77, 78, 79, 80, 81, 82, 83, 84, 85, 86, 87, 88, 89] (by decide +kernel) (by decide +kernel)
set_option maxRecDepth 20000 in
theorem gX0_decode_X0_noteLost : GoodIn wsX0_decode (wsV RX0 24 RX0 yX0_noteLost wsX0_noteLost) := goodIn_app (goodIn_of _ (by decide +kernel)) ggX0_decode_X0_noteLost
set_option maxRecDepth 20000 in
theorem ggX0_decode_X0_giveSamples : GoodIn wsX0_decode wsX0_giveSamples := goodIn_r _ [38, 3, 2, 11, 12, 13, 14, 15, 16, 17, 18, 19, 20, 21, 22, 23, 24, 39, 40, 41, 42, 43, 44, 45, 30, 31, 32, 33, 34, 46, 47, 48, 49, 50, 51, 52, 53, 54, 55, 56, 57, 58, 59, 60, 61, 62, 63, 64, 65, 66, 67, 68, 69, 70, 71, 77, 78, 79, 72, 73, 74, 75, 76, 80, 81, 82, 83, 84, 85, 86, 87, 88, 89, 90, 91, 92] (by decide +kernel) (by decide +kernel)
set_option maxRecDepth 20000 in
theorem gX0_decode_X0_giveSamples : GoodIn wsX0_decode (wsV RX0 28 RX0 yX0_giveSamples wsX0_giveSamples) := goodIn_app (goodIn_of _ (by decide +kernel)) ggX0_decode_X0_giveSamples
theorem dX0_decode_0 : decode cX0_decode 0 = .ok (.lload_n 1, 1) := by decide +kernel
theorem dX0_decode_1 : decode cX0_decode 1 = .ok (.bipush 48, 2) := by decide +kernel
theorem dX0_decode_3 : decode cX0_decode 3 = .ok (.lushr, 1) := by decide +kernel
theorem dX0_decode_4 : decode cX0_decode 4 = .ok (.l2i, 1) := by decide +kernel
theorem dX0_decode_5 : decode cX0_decode 5 = .ok (.sipush 255, 3) := by decide +kernel
theorem dX0_decode_8 : decode cX0_decode 8 = .ok (.iand, 1) := by decide +kernel
theorem dX0_decode_9 : decode cX0_decode 9 = .ok (.istore 4, 2) := by decide +kernel
theorem dX0_decode_11 : decode cX0_decode 11 = .ok (.aload_n 0, 1) := by decide +kernel
theorem dX0_decode_12 : decode cX0_decode 12 = .ok (.getfield 9, 3) := by decide +kernel
theorem dX0_decode_15 : decode cX0_decode 15 = .ok (.ifCond .ne 12, 3) := by decide +kernel
theorem dX0_decode_18 : decode cX0_decode 18 = .ok (.aload_n 0, 1) := by decide +kernel
theorem dX0_decode_19 : decode cX0_decode 19 = .ok (.iload 4, 2) := by decide +kernel
theorem dX0_decode_21 : decode cX0_decode 21 = .ok (.putfield 15, 3) := by decide +kernel
theorem dX0_decode_24 : decode cX0_decode 24 = .ok (.goto 52, 3) := by decide +kernel
theorem dX0_decode_27 : decode cX0_decode 27 = .ok (.iload 4, 2) := by decide +kernel
theorem dX0_decode_29 : decode cX0_decode 29 = .ok (.aload_n 0, 1) := by decide +kernel
theorem dX0_decode_30 : decode cX0_decode 30 = .ok (.getfield 18, 3) := by decide +kernel
theorem dX0_decode_33 : decode cX0_decode 33 = .ok (.isub, 1) := by decide +kernel
theorem dX0_decode_34 : decode cX0_decode 34 = .ok (.sipush 255, 3) := by decide +kernel
theorem dX0_decode_37 : decode cX0_decode 37 = .ok (.iand, 1) := by decide +kernel
theorem dX0_decode_38 : decode cX0_decode 38 = .ok (.istore 5, 2) := by decide +kernel
theorem dX0_decode_40 : decode cX0_decode 40 = .ok (.iload 5, 2) := by decide +kernel
theorem dX0_decode_42 : decode cX0_decode 42 = .ok (.ifCond .ne 14, 3) := by decide +kernel
theorem dX0_decode_45 : decode cX0_decode 45 = .ok (.aload_n 0, 1) := by decide +kernel
theorem dX0_decode_46 : decode cX0_decode 46 = .ok (.dup, 1) := by decide +kernel
theorem dX0_decode_47 : decode cX0_decode 47 = .ok (.getfield 21, 3) := by decide +kernel
theorem dX0_decode_50 : decode cX0_decode 50 = .ok (.iconst 1, 1) := by decide +kernel
theorem dX0_decode_51 : decode cX0_decode 51 = .ok (.iadd, 1) := by decide +kernel
theorem dX0_decode_52 : decode cX0_decode 52 = .ok (.putfield 21, 3) := by decide +kernel
theorem dX0_decode_55 : decode cX0_decode 55 = .ok (.return_, 1) := by decide +kernel
theorem dX0_decode_56 : decode cX0_decode 56 = .ok (.aload_n 0, 1) := by decide +kernel
theorem dX0_decode_57 : decode cX0_decode 57 = .ok (.iload 5, 2) := by decide +kernel
theorem dX0_decode_59 : decode cX0_decode 59 = .ok (.iconst 1, 1) := by decide +kernel
theorem dX0_decode_60 : decode cX0_decode 60 = .ok (.isub, 1) := by decide +kernel
theorem dX0_decode_61 : decode cX0_decode 61 = .ok (.aload_n 3, 1) := by decide +kernel
theorem dX0_decode_62 : decode cX0_decode 62 = .ok (.invokevirtual 24, 3) := by decide +kernel
theorem dX0_decode_65 : decode cX0_decode 65 = .ok (.aload_n 0, 1) := by decide +kernel
theorem dX0_decode_66 : decode cX0_decode 66 = .ok (.dup, 1) := by decide +kernel
theorem dX0_decode_67 : decode cX0_decode 67 = .ok (.getfield 15, 3) := by decide +kernel
theorem dX0_decode_70 : decode cX0_decode 70 = .ok (.iload 5, 2) := by decide +kernel
theorem dX0_decode_72 : decode cX0_decode 72 = .ok (.iadd, 1) := by decide +kernel
theorem dX0_decode_73 : decode cX0_decode 73 = .ok (.putfield 15, 3) := by decide +kernel
theorem dX0_decode_76 : decode cX0_decode 76 = .ok (.aload_n 0, 1) := by decide +kernel
theorem dX0_decode_77 : decode cX0_decode 77 = .ok (.iload 4, 2) := by decide +kernel
theorem dX0_decode_79 : decode cX0_decode 79 = .ok (.putfield 18, 3) := by decide +kernel
theorem dX0_decode_82 : decode cX0_decode 82 = .ok (.aload_n 0, 1) := by decide +kernel
theorem dX0_decode_83 : decode cX0_decode 83 = .ok (.dup, 1) := by decide +kernel
theorem dX0_decode_84 : decode cX0_decode 84 = .ok (.getfield 9, 3) := by decide +kernel
theorem dX0_decode_87 : decode cX0_decode 87 = .ok (.iconst 1, 1) := by decide +kernel
theorem dX0_decode_88 : decode cX0_decode 88 = .ok (.iadd, 1) := by decide +kernel
theorem dX0_decode_89 : decode cX0_decode 89 = .ok (.putfield 9, 3) := by decide +kernel
theorem dX0_decode_92 : decode cX0_decode 92 = .ok (.aload_n 0, 1) := by decide +kernel
theorem dX0_decode_93 : decode cX0_decode 93 = .ok (.lload_n 1, 1) := by decide +kernel
theorem dX0_decode_94 : decode cX0_decode 94 = .ok (.aload_n 3, 1) := by decide +kernel
theorem dX0_decode_95 : decode cX0_decode 95 = .ok (.invokevirtual 28, 3) := by decide +kernel
theorem dX0_decode_98 : decode cX0_decode 98 = .ok (.return_, 1) := by decide +kernel
set_option maxRecDepth 20000 in
theorem ggX0_noteLost_X5_at : GoodIn wsX0_noteLost wsX5_at := goodIn_r _ [7, 8, 9, 32, 33, 34] (by decide +kernel) (by decide +kernel)
set_option maxRecDepth 20000 in
theorem gX0_noteLost_X5_at : GoodIn wsX0_noteLost (wsV RX0 40 RX5 yX5_at wsX5_at) := goodIn_app (goodIn_of _ (by decide +kernel)) ggX0_noteLost_X5_at
set_option maxRecDepth 20000 in
theorem ggX0_noteLost_X4_isSentIn : GoodIn wsX0_noteLost wsX4_isSentIn := goodIn_r _ [14, 15, 16, 35, 36, 37, 38, 39, 40, 41, 42, 43, 44] (by decide +kernel) (by decide +kernel)
set_option maxRecDepth 20000 in
theorem gX0_noteLost_X4_isSentIn : GoodIn wsX0_noteLost (wsV RX0 44 RX4 yX4_isSentIn wsX4_isSentIn) := goodIn_app (goodIn_of _ (by decide +kernel)) ggX0_noteLost_X4_isSentIn
set_option maxRecDepth 20000 in
theorem ggX0_noteLost_X4_noteMissing : GoodIn wsX0_noteLost wsX4_noteMissing := goodIn_r _ [20, 21, 22, 23, 24, 13, 25, 26, 35, 36, 37, 38, 39, 40, 41, 42, 43, 44] (by decide +kernel) (by decide +kernel)
set_option maxRecDepth 20000 in
theorem gX0_noteLost_X4_noteMissing : GoodIn wsX0_noteLost (wsV RX0 50 RX4 yX4_noteMissing wsX4_noteMissing) := goodIn_app (goodIn_of _ (by decide +kernel)) ggX0_noteLost_X4_noteMissing
theorem dX0_noteLost_0 : decode cX0_noteLost 0 = .ok (.aload_n 0, 1) := by decide +kernel
theorem dX0_noteLost_1 : decode cX0_noteLost 1 = .ok (.dup, 1) := by decide +kernel
theorem dX0_noteLost_2 : decode cX0_noteLost 2 = .ok (.getfield 32, 3) := by decide +kernel
theorem dX0_noteLost_5 : decode cX0_noteLost 5 = .ok (.iload_n 1, 1) := by decide +kernel
theorem dX0_noteLost_6 : decode cX0_noteLost 6 = .ok (.iadd, 1) := by decide +kernel
theorem dX0_noteLost_7 : decode cX0_noteLost 7 = .ok (.putfield 32, 3) := by decide +kernel
theorem dX0_noteLost_10 : decode cX0_noteLost 10 = .ok (.iconst 1, 1) := by decide +kernel
theorem dX0_noteLost_11 : decode cX0_noteLost 11 = .ok (.istore_n 3, 1) := by decide +kernel
theorem dX0_noteLost_12 : decode cX0_noteLost 12 = .ok (.iload_n 3, 1) := by decide +kernel
theorem dX0_noteLost_13 : decode cX0_noteLost 13 = .ok (.iload_n 1, 1) := by decide +kernel
theorem dX0_noteLost_14 : decode cX0_noteLost 14 = .ok (.if_icmp .gt 63, 3) := by decide +kernel
theorem dX0_noteLost_17 : decode cX0_noteLost 17 = .ok (.iconst 0, 1) := by decide +kernel
theorem dX0_noteLost_18 : decode cX0_noteLost 18 = .ok (.istore 4, 2) := by decide +kernel
theorem dX0_noteLost_20 : decode cX0_noteLost 20 = .ok (.iload 4, 2) := by decide +kernel
theorem dX0_noteLost_22 : decode cX0_noteLost 22 = .ok (.aload_n 2, 1) := by decide +kernel
theorem dX0_noteLost_23 : decode cX0_noteLost 23 = .ok (.getfield 35, 3) := by decide +kernel
theorem dX0_noteLost_26 : decode cX0_noteLost 26 = .ok (.if_icmp .ge 45, 3) := by decide +kernel
theorem dX0_noteLost_29 : decode cX0_noteLost 29 = .ok (.aload_n 2, 1) := by decide +kernel
theorem dX0_noteLost_30 : decode cX0_noteLost 30 = .ok (.iload 4, 2) := by decide +kernel
theorem dX0_noteLost_32 : decode cX0_noteLost 32 = .ok (.invokevirtual 40, 3) := by decide +kernel
theorem dX0_noteLost_35 : decode cX0_noteLost 35 = .ok (.astore 5, 2) := by decide +kernel
theorem dX0_noteLost_37 : decode cX0_noteLost 37 = .ok (.aload 5, 2) := by decide +kernel
theorem dX0_noteLost_39 : decode cX0_noteLost 39 = .ok (.ifnull 26, 3) := by decide +kernel
theorem dX0_noteLost_42 : decode cX0_noteLost 42 = .ok (.aload 5, 2) := by decide +kernel
theorem dX0_noteLost_44 : decode cX0_noteLost 44 = .ok (.aload_n 0, 1) := by decide +kernel
theorem dX0_noteLost_45 : decode cX0_noteLost 45 = .ok (.getfield 18, 3) := by decide +kernel
theorem dX0_noteLost_48 : decode cX0_noteLost 48 = .ok (.iload_n 3, 1) := by decide +kernel
theorem dX0_noteLost_49 : decode cX0_noteLost 49 = .ok (.iadd, 1) := by decide +kernel
theorem dX0_noteLost_50 : decode cX0_noteLost 50 = .ok (.sipush 255, 3) := by decide +kernel
theorem dX0_noteLost_53 : decode cX0_noteLost 53 = .ok (.iand, 1) := by decide +kernel
theorem dX0_noteLost_54 : decode cX0_noteLost 54 = .ok (.invokevirtual 44, 3) := by decide +kernel
theorem dX0_noteLost_57 : decode cX0_noteLost 57 = .ok (.ifCond .eq 8, 3) := by decide +kernel
theorem dX0_noteLost_60 : decode cX0_noteLost 60 = .ok (.aload 5, 2) := by decide +kernel
theorem dX0_noteLost_62 : decode cX0_noteLost 62 = .ok (.invokevirtual 50, 3) := by decide +kernel
theorem dX0_noteLost_65 : decode cX0_noteLost 65 = .ok (.iinc 4 1, 3) := by decide +kernel
theorem dX0_noteLost_68 : decode cX0_noteLost 68 = .ok (.goto (-48), 3) := by decide +kernel
theorem dX0_noteLost_71 : decode cX0_noteLost 71 = .ok (.iinc 3 1, 3) := by decide +kernel
theorem dX0_noteLost_74 : decode cX0_noteLost 74 = .ok (.goto (-62), 3) := by decide +kernel
theorem dX0_noteLost_77 : decode cX0_noteLost 77 = .ok (.return_, 1) := by decide +kernel
set_option maxRecDepth 20000 in
theorem ggX0_giveSamples_X5_at : GoodIn wsX0_giveSamples wsX5_at := goodIn_r _ [7, 8, 9, 55, 56, 57] (by decide +kernel) (by decide +kernel)
set_option maxRecDepth 20000 in
theorem gX0_giveSamples_X5_at : GoodIn wsX0_giveSamples (wsV RX0 40 RX5 yX5_at wsX5_at) := goodIn_app (goodIn_of _ (by decide +kernel)) ggX0_giveSamples_X5_at
set_option maxRecDepth 20000 in
theorem ggX0_giveSamples_X4_isSentIn : GoodIn wsX0_giveSamples wsX4_isSentIn := goodIn_r _ [14, 15, 16, 63, 64, 65, 66, 67, 68, 69, 70, 71, 72] (by decide +kernel) (by decide +kernel)
set_option maxRecDepth 20000 in
theorem gX0_giveSamples_X4_isSentIn : GoodIn wsX0_giveSamples (wsV RX0 44 RX4 yX4_isSentIn wsX4_isSentIn) := goodIn_app (goodIn_of _ (by decide +kernel)) ggX0_giveSamples_X4_isSentIn
set_option maxRecDepth 20000 in
theorem ggX0_giveSamples_X4_readFrom : GoodIn wsX0_giveSamples wsX4_readFrom := goodIn_r _ [20, 21, 22, 23, 24, 25, 26, 13, 27, 28, 29, 30, 31, 32, 33, 34, 35, 36, 37, 38, 39, 40, 41, 42, 43, 44, 45, 46, 47, 48, 49, 50, 51, 52, 53, 54, 63, 64, 65, 66, 67, 68, 69, 70, 71, 72, 73, 74, 75] (by decide +kernel) (by decide +kernel)
set_option maxRecDepth 20000 in
theorem gX0_giveSamples_X4_readFrom : GoodIn wsX0_giveSamples (wsV RX0 53 RX4 yX4_readFrom wsX4_readFrom) := goodIn_app (goodIn_of _ (by decide +kernel)) ggX0_giveSamples_X4_readFrom
theorem dX0_giveSamples_0 : decode cX0_giveSamples 0 = .ok (.iconst 0, 1) := by decide +kernel
theorem dX0_giveSamples_1 : decode cX0_giveSamples 1 = .ok (.istore 4, 2) := by decide +kernel
theorem dX0_giveSamples_3 : decode cX0_giveSamples 3 = .ok (.iload 4, 2) := by decide +kernel
theorem dX0_giveSamples_5 : decode cX0_giveSamples 5 = .ok (.aload_n 3, 1) := by decide +kernel
theorem dX0_giveSamples_6 : decode cX0_giveSamples 6 = .ok (.getfield 35, 3) := by decide +kernel
theorem dX0_giveSamples_9 : decode cX0_giveSamples 9 = .ok (.if_icmp .ge 44, 3) := by decide +kernel
theorem dX0_giveSamples_12 : decode cX0_giveSamples 12 = .ok (.aload_n 3, 1) := by decide +kernel
theorem dX0_giveSamples_13 : decode cX0_giveSamples 13 = .ok (.iload 4, 2) := by decide +kernel
theorem dX0_giveSamples_15 : decode cX0_giveSamples 15 = .ok (.invokevirtual 40, 3) := by decide +kernel
theorem dX0_giveSamples_18 : decode cX0_giveSamples 18 = .ok (.astore 5, 2) := by decide +kernel
theorem dX0_giveSamples_20 : decode cX0_giveSamples 20 = .ok (.aload 5, 2) := by decide +kernel
theorem dX0_giveSamples_22 : decode cX0_giveSamples 22 = .ok (.ifnull 25, 3) := by decide +kernel
theorem dX0_giveSamples_25 : decode cX0_giveSamples 25 = .ok (.aload 5, 2) := by decide +kernel
theorem dX0_giveSamples_27 : decode cX0_giveSamples 27 = .ok (.aload_n 0, 1) := by decide +kernel
theorem dX0_giveSamples_28 : decode cX0_giveSamples 28 = .ok (.getfield 18, 3) := by decide +kernel
theorem dX0_giveSamples_31 : decode cX0_giveSamples 31 = .ok (.invokevirtual 44, 3) := by decide +kernel
theorem dX0_giveSamples_34 : decode cX0_giveSamples 34 = .ok (.ifCond .eq 13, 3) := by decide +kernel
theorem dX0_giveSamples_37 : decode cX0_giveSamples 37 = .ok (.aload 5, 2) := by decide +kernel
theorem dX0_giveSamples_39 : decode cX0_giveSamples 39 = .ok (.lload_n 1, 1) := by decide +kernel
theorem dX0_giveSamples_40 : decode cX0_giveSamples 40 = .ok (.aload_n 0, 1) := by decide +kernel
theorem dX0_giveSamples_41 : decode cX0_giveSamples 41 = .ok (.getfield 15, 3) := by decide +kernel
theorem dX0_giveSamples_44 : decode cX0_giveSamples 44 = .ok (.invokevirtual 53, 3) := by decide +kernel
theorem dX0_giveSamples_47 : decode cX0_giveSamples 47 = .ok (.iinc 4 1, 3) := by decide +kernel
theorem dX0_giveSamples_50 : decode cX0_giveSamples 50 = .ok (.goto (-47), 3) := by decide +kernel
theorem dX0_giveSamples_53 : decode cX0_giveSamples 53 = .ok (.return_, 1) := by decide +kernel
set_option maxRecDepth 20000 in
theorem ggX1_init_X6_init : GoodIn wsX1_init wsX6_init := goodIn_r _ [9, 10, 2, 3] (by decide +kernel) (by decide +kernel)
set_option maxRecDepth 20000 in
theorem gX1_init_X6_init_n9 : GoodIn wsX1_init (wsX6_init) := ggX1_init_X6_init
theorem dX1_init_0 : decode cX1_init 0 = .ok (.aload_n 0, 1) := by decide +kernel
theorem dX1_init_1 : decode cX1_init 1 = .ok (.invokespecial 1, 3) := by decide +kernel
theorem dX1_init_4 : decode cX1_init 4 = .ok (.aload_n 0, 1) := by decide +kernel
theorem dX1_init_5 : decode cX1_init 5 = .ok (.new 7, 3) := by decide +kernel
theorem dX1_init_8 : decode cX1_init 8 = .ok (.dup, 1) := by decide +kernel
theorem dX1_init_9 : decode cX1_init 9 = .ok (.invokespecial 9, 3) := by decide +kernel
theorem dX1_init_12 : decode cX1_init 12 = .ok (.putfield 10, 3) := by decide +kernel
theorem dX1_init_15 : decode cX1_init 15 = .ok (.return_, 1) := by decide +kernel
set_option maxRecDepth 20000 in
theorem ggX1_combine_X1_operate : GoodIn wsX1_combine wsX1_operate := goodIn_r _ [18, 19, 7, 8, 5, 9, 3, 4, 6, 31, 32, 33, 34, 35] (by decide +kernel) (by decide +kernel)
set_option maxRecDepth 20000 in
theorem gX1_combine_X1_operate : GoodIn wsX1_combine (wsV RX1 24 RX1 yX1_operate wsX1_operate) := goodIn_app (goodIn_of _ (by decide +kernel)) ggX1_combine_X1_operate
set_option maxRecDepth 20000 in
theorem ggX1_combine_X6_set : GoodIn wsX1_combine wsX6_set := goodIn_r _ [24, 25, 26, 27, 28, 29, 30] (by decide +kernel) (by decide +kernel)
set_option maxRecDepth 20000 in
theorem gX1_combine_X6_set : GoodIn wsX1_combine (wsV RX1 42 RX6 yX6_set wsX6_set) := goodIn_app (goodIn_of _ (by decide +kernel)) ggX1_combine_X6_set
theorem dX1_combine_0 : decode cX1_combine 0 = .ok (.ldc2_w 16, 3) := by decide +kernel
theorem dX1_combine_3 : decode cX1_combine 3 = .ok (.ldc2_w 18, 3) := by decide +kernel
theorem dX1_combine_6 : decode cX1_combine 6 = .ok (.aload_n 0, 1) := by decide +kernel
theorem dX1_combine_7 : decode cX1_combine 7 = .ok (.aload_n 1, 1) := by decide +kernel
theorem dX1_combine_8 : decode cX1_combine 8 = .ok (.getfield 20, 3) := by decide +kernel
theorem dX1_combine_11 : decode cX1_combine 11 = .ok (.i2l, 1) := by decide +kernel
theorem dX1_combine_12 : decode cX1_combine 12 = .ok (.aload_n 2, 1) := by decide +kernel
theorem dX1_combine_13 : decode cX1_combine 13 = .ok (.getfield 20, 3) := by decide +kernel
theorem dX1_combine_16 : decode cX1_combine 16 = .ok (.i2l, 1) := by decide +kernel
theorem dX1_combine_17 : decode cX1_combine 17 = .ok (.invokevirtual 24, 3) := by decide +kernel
theorem dX1_combine_20 : decode cX1_combine 20 = .ok (.invokestatic 28, 3) := by decide +kernel
theorem dX1_combine_23 : decode cX1_combine 23 = .ok (.invokestatic 33, 3) := by decide +kernel
theorem dX1_combine_26 : decode cX1_combine 26 = .ok (.l2i, 1) := by decide +kernel
theorem dX1_combine_27 : decode cX1_combine 27 = .ok (.istore_n 3, 1) := by decide +kernel
theorem dX1_combine_28 : decode cX1_combine 28 = .ok (.aload_n 0, 1) := by decide +kernel
theorem dX1_combine_29 : decode cX1_combine 29 = .ok (.getfield 10, 3) := by decide +kernel
theorem dX1_combine_32 : decode cX1_combine 32 = .ok (.iload_n 3, 1) := by decide +kernel
theorem dX1_combine_33 : decode cX1_combine 33 = .ok (.aload_n 1, 1) := by decide +kernel
theorem dX1_combine_34 : decode cX1_combine 34 = .ok (.getfield 36, 3) := by decide +kernel
theorem dX1_combine_37 : decode cX1_combine 37 = .ok (.aload_n 2, 1) := by decide +kernel
theorem dX1_combine_38 : decode cX1_combine 38 = .ok (.getfield 36, 3) := by decide +kernel
theorem dX1_combine_41 : decode cX1_combine 41 = .ok (.invokestatic 39, 3) := by decide +kernel
theorem dX1_combine_44 : decode cX1_combine 44 = .ok (.invokevirtual 42, 3) := by decide +kernel
theorem dX1_combine_47 : decode cX1_combine 47 = .ok (.return_, 1) := by decide +kernel
theorem dX1_operate_0 : decode cX1_operate 0 = .ok (.aload_n 0, 1) := by decide +kernel
theorem dX1_operate_1 : decode cX1_operate 1 = .ok (.getfield 46, 3) := by decide +kernel
theorem dX1_operate_4 : decode cX1_operate 4 = .ok (.tableswitch 50 0 3 #[32, 36, 40, 44], 32) := by decide +kernel
theorem dX1_operate_36 : decode cX1_operate 36 = .ok (.lload_n 1, 1) := by decide +kernel
theorem dX1_operate_37 : decode cX1_operate 37 = .ok (.lload_n 3, 1) := by decide +kernel
theorem dX1_operate_38 : decode cX1_operate 38 = .ok (.ladd, 1) := by decide +kernel
theorem dX1_operate_39 : decode cX1_operate 39 = .ok (.lreturn, 1) := by decide +kernel
theorem dX1_operate_40 : decode cX1_operate 40 = .ok (.lload_n 1, 1) := by decide +kernel
theorem dX1_operate_41 : decode cX1_operate 41 = .ok (.lload_n 3, 1) := by decide +kernel
theorem dX1_operate_42 : decode cX1_operate 42 = .ok (.lsub, 1) := by decide +kernel
theorem dX1_operate_43 : decode cX1_operate 43 = .ok (.lreturn, 1) := by decide +kernel
theorem dX1_operate_44 : decode cX1_operate 44 = .ok (.lload_n 1, 1) := by decide +kernel
theorem dX1_operate_45 : decode cX1_operate 45 = .ok (.lload_n 3, 1) := by decide +kernel
theorem dX1_operate_46 : decode cX1_operate 46 = .ok (.lmul, 1) := by decide +kernel
theorem dX1_operate_47 : decode cX1_operate 47 = .ok (.lreturn, 1) := by decide +kernel
theorem dX1_operate_48 : decode cX1_operate 48 = .ok (.lload_n 1, 1) := by decide +kernel
theorem dX1_operate_49 : decode cX1_operate 49 = .ok (.lload_n 3, 1) := by decide +kernel
theorem dX1_operate_50 : decode cX1_operate 50 = .ok (.invokestatic 33, 3) := by decide +kernel
theorem dX1_operate_53 : decode cX1_operate 53 = .ok (.lreturn, 1) := by decide +kernel
theorem dX1_operate_54 : decode cX1_operate 54 = .ok (.lload_n 1, 1) := by decide +kernel
theorem dX1_operate_55 : decode cX1_operate 55 = .ok (.lload_n 3, 1) := by decide +kernel
theorem dX1_operate_56 : decode cX1_operate 56 = .ok (.invokestatic 28, 3) := by decide +kernel
theorem dX1_operate_59 : decode cX1_operate 59 = .ok (.lreturn, 1) := by decide +kernel
set_option maxRecDepth 20000 in
theorem ggX2_init_X1_init : GoodIn wsX2_init wsX1_init := goodIn_r _ [9, 10, 2, 3, 11, 12, 13, 14, 15, 16, 17, 24, 25, 26, 19, 20, 21, 22, 23] (by decide +kernel) (by decide +kernel)
set_option maxRecDepth 20000 in
theorem gX2_init_X1_init_n17 : GoodIn wsX2_init (wsX1_init) := ggX2_init_X1_init
theorem dX2_init_0 : decode cX2_init 0 = .ok (.aload_n 0, 1) := by decide +kernel
theorem dX2_init_1 : decode cX2_init 1 = .ok (.invokespecial 3, 3) := by decide +kernel
theorem dX2_init_4 : decode cX2_init 4 = .ok (.aload_n 0, 1) := by decide +kernel
theorem dX2_init_5 : decode cX2_init 5 = .ok (.bipush 8, 2) := by decide +kernel
theorem dX2_init_7 : decode cX2_init 7 = .ok (.anewarray 9, 3) := by decide +kernel
theorem dX2_init_10 : decode cX2_init 10 = .ok (.putfield 11, 3) := by decide +kernel
theorem dX2_init_13 : decode cX2_init 13 = .ok (.iconst 0, 1) := by decide +kernel
theorem dX2_init_14 : decode cX2_init 14 = .ok (.istore_n 1, 1) := by decide +kernel
theorem dX2_init_15 : decode cX2_init 15 = .ok (.iload_n 1, 1) := by decide +kernel
theorem dX2_init_16 : decode cX2_init 16 = .ok (.aload_n 0, 1) := by decide +kernel
theorem dX2_init_17 : decode cX2_init 17 = .ok (.getfield 11, 3) := by decide +kernel
theorem dX2_init_20 : decode cX2_init 20 = .ok (.arraylength, 1) := by decide +kernel
theorem dX2_init_21 : decode cX2_init 21 = .ok (.if_icmp .ge 22, 3) := by decide +kernel
theorem dX2_init_24 : decode cX2_init 24 = .ok (.aload_n 0, 1) := by decide +kernel
theorem dX2_init_25 : decode cX2_init 25 = .ok (.getfield 11, 3) := by decide +kernel
theorem dX2_init_28 : decode cX2_init 28 = .ok (.iload_n 1, 1) := by decide +kernel
theorem dX2_init_29 : decode cX2_init 29 = .ok (.new 9, 3) := by decide +kernel
theorem dX2_init_32 : decode cX2_init 32 = .ok (.dup, 1) := by decide +kernel
theorem dX2_init_33 : decode cX2_init 33 = .ok (.invokespecial 17, 3) := by decide +kernel
theorem dX2_init_36 : decode cX2_init 36 = .ok (.aastore, 1) := by decide +kernel
theorem dX2_init_37 : decode cX2_init 37 = .ok (.iinc 1 1, 3) := by decide +kernel
theorem dX2_init_40 : decode cX2_init 40 = .ok (.goto (-25), 3) := by decide +kernel
theorem dX2_init_43 : decode cX2_init 43 = .ok (.return_, 1) := by decide +kernel
set_option maxRecDepth 20000 in
theorem ggX2_define_X2_at : GoodIn wsX2_define wsX2_at := goodIn_r _ [5, 6, 12] (by decide +kernel) (by decide +kernel)
set_option maxRecDepth 20000 in
theorem gX2_define_X2_at : GoodIn wsX2_define (wsV RX2 18 RX2 yX2_at wsX2_at) := goodIn_app (goodIn_of _ (by decide +kernel)) ggX2_define_X2_at
theorem dX2_define_0 : decode cX2_define 0 = .ok (.aload_n 0, 1) := by decide +kernel
theorem dX2_define_1 : decode cX2_define 1 = .ok (.iload_n 1, 1) := by decide +kernel
theorem dX2_define_2 : decode cX2_define 2 = .ok (.invokevirtual 18, 3) := by decide +kernel
theorem dX2_define_5 : decode cX2_define 5 = .ok (.astore 5, 2) := by decide +kernel
theorem dX2_define_7 : decode cX2_define 7 = .ok (.aload 5, 2) := by decide +kernel
theorem dX2_define_9 : decode cX2_define 9 = .ok (.ifnonnull 4, 3) := by decide +kernel
theorem dX2_define_12 : decode cX2_define 12 = .ok (.return_, 1) := by decide +kernel
theorem dX2_define_13 : decode cX2_define 13 = .ok (.aload 5, 2) := by decide +kernel
theorem dX2_define_15 : decode cX2_define 15 = .ok (.iconst 1, 1) := by decide +kernel
theorem dX2_define_16 : decode cX2_define 16 = .ok (.putfield 22, 3) := by decide +kernel
theorem dX2_define_19 : decode cX2_define 19 = .ok (.aload 5, 2) := by decide +kernel
theorem dX2_define_21 : decode cX2_define 21 = .ok (.iload_n 2, 1) := by decide +kernel
theorem dX2_define_22 : decode cX2_define 22 = .ok (.putfield 26, 3) := by decide +kernel
theorem dX2_define_25 : decode cX2_define 25 = .ok (.aload 5, 2) := by decide +kernel
theorem dX2_define_27 : decode cX2_define 27 = .ok (.iload_n 3, 1) := by decide +kernel
theorem dX2_define_28 : decode cX2_define 28 = .ok (.putfield 30, 3) := by decide +kernel
theorem dX2_define_31 : decode cX2_define 31 = .ok (.aload 5, 2) := by decide +kernel
theorem dX2_define_33 : decode cX2_define 33 = .ok (.iload 4, 2) := by decide +kernel
theorem dX2_define_35 : decode cX2_define 35 = .ok (.putfield 33, 3) := by decide +kernel
theorem dX2_define_38 : decode cX2_define 38 = .ok (.return_, 1) := by decide +kernel
set_option maxRecDepth 20000 in
theorem ggX2_wouldNeedItself_X2_operandMask : GoodIn wsX2_wouldNeedItself wsX2_operandMask := goodIn_r _ [5] (by decide +kernel) (by decide +kernel)
set_option maxRecDepth 20000 in
theorem gX2_wouldNeedItself_X2_operandMask : GoodIn wsX2_wouldNeedItself (va_wsS RX2 36 yX2_operandMask wsX2_operandMask) := goodIn_app (goodIn_of _ (by decide +kernel)) ggX2_wouldNeedItself_X2_operandMask
set_option maxRecDepth 20000 in
theorem ggX2_wouldNeedItself_X2_needsOf : GoodIn wsX2_wouldNeedItself wsX2_needsOf := goodIn_r _ [9, 1, 2, 3, 4, 5, 10, 11, 12, 13, 14, 15] (by decide +kernel) (by decide +kernel)
set_option maxRecDepth 20000 in
theorem gX2_wouldNeedItself_X2_needsOf : GoodIn wsX2_wouldNeedItself (wsV RX2 40 RX2 yX2_needsOf wsX2_needsOf) := goodIn_app (goodIn_of _ (by decide +kernel)) ggX2_wouldNeedItself_X2_needsOf
theorem dX2_wouldNeedItself_0 : decode cX2_wouldNeedItself 0 = .ok (.iload_n 2, 1) := by decide +kernel
theorem dX2_wouldNeedItself_1 : decode cX2_wouldNeedItself 1 = .ok (.invokestatic 36, 3) := by decide +kernel
theorem dX2_wouldNeedItself_4 : decode cX2_wouldNeedItself 4 = .ok (.iload_n 3, 1) := by decide +kernel
theorem dX2_wouldNeedItself_5 : decode cX2_wouldNeedItself 5 = .ok (.invokestatic 36, 3) := by decide +kernel
theorem dX2_wouldNeedItself_8 : decode cX2_wouldNeedItself 8 = .ok (.ior, 1) := by decide +kernel
theorem dX2_wouldNeedItself_9 : decode cX2_wouldNeedItself 9 = .ok (.istore 4, 2) := by decide +kernel
theorem dX2_wouldNeedItself_11 : decode cX2_wouldNeedItself 11 = .ok (.iconst 0, 1) := by decide +kernel
theorem dX2_wouldNeedItself_12 : decode cX2_wouldNeedItself 12 = .ok (.istore 5, 2) := by decide +kernel
theorem dX2_wouldNeedItself_14 : decode cX2_wouldNeedItself 14 = .ok (.iload 5, 2) := by decide +kernel
theorem dX2_wouldNeedItself_16 : decode cX2_wouldNeedItself 16 = .ok (.aload_n 0, 1) := by decide +kernel
theorem dX2_wouldNeedItself_17 : decode cX2_wouldNeedItself 17 = .ok (.getfield 11, 3) := by decide +kernel
theorem dX2_wouldNeedItself_20 : decode cX2_wouldNeedItself 20 = .ok (.arraylength, 1) := by decide +kernel
theorem dX2_wouldNeedItself_21 : decode cX2_wouldNeedItself 21 = .ok (.if_icmp .ge 20, 3) := by decide +kernel
theorem dX2_wouldNeedItself_24 : decode cX2_wouldNeedItself 24 = .ok (.iload 4, 2) := by decide +kernel
theorem dX2_wouldNeedItself_26 : decode cX2_wouldNeedItself 26 = .ok (.aload_n 0, 1) := by decide +kernel
theorem dX2_wouldNeedItself_27 : decode cX2_wouldNeedItself 27 = .ok (.iload 4, 2) := by decide +kernel
theorem dX2_wouldNeedItself_29 : decode cX2_wouldNeedItself 29 = .ok (.invokevirtual 40, 3) := by decide +kernel
theorem dX2_wouldNeedItself_32 : decode cX2_wouldNeedItself 32 = .ok (.ior, 1) := by decide +kernel
theorem dX2_wouldNeedItself_33 : decode cX2_wouldNeedItself 33 = .ok (.istore 4, 2) := by decide +kernel
theorem dX2_wouldNeedItself_35 : decode cX2_wouldNeedItself 35 = .ok (.iinc 5 1, 3) := by decide +kernel
theorem dX2_wouldNeedItself_38 : decode cX2_wouldNeedItself 38 = .ok (.goto (-24), 3) := by decide +kernel
theorem dX2_wouldNeedItself_41 : decode cX2_wouldNeedItself 41 = .ok (.iload 4, 2) := by decide +kernel
theorem dX2_wouldNeedItself_43 : decode cX2_wouldNeedItself 43 = .ok (.iload_n 1, 1) := by decide +kernel
theorem dX2_wouldNeedItself_44 : decode cX2_wouldNeedItself 44 = .ok (.ishr, 1) := by decide +kernel
theorem dX2_wouldNeedItself_45 : decode cX2_wouldNeedItself 45 = .ok (.iconst 1, 1) := by decide +kernel
theorem dX2_wouldNeedItself_46 : decode cX2_wouldNeedItself 46 = .ok (.iand, 1) := by decide +kernel
theorem dX2_wouldNeedItself_47 : decode cX2_wouldNeedItself 47 = .ok (.ifCond .eq 7, 3) := by decide +kernel
theorem dX2_wouldNeedItself_50 : decode cX2_wouldNeedItself 50 = .ok (.iconst 1, 1) := by decide +kernel
theorem dX2_wouldNeedItself_51 : decode cX2_wouldNeedItself 51 = .ok (.goto 4, 3) := by decide +kernel
theorem dX2_wouldNeedItself_54 : decode cX2_wouldNeedItself 54 = .ok (.iconst 0, 1) := by decide +kernel
theorem dX2_wouldNeedItself_55 : decode cX2_wouldNeedItself 55 = .ok (.ireturn, 1) := by decide +kernel
set_option maxRecDepth 20000 in
theorem ggX2_needsOf_X2_operandMask : GoodIn wsX2_needsOf wsX2_operandMask := goodIn_r _ [5] (by decide +kernel) (by decide +kernel)
set_option maxRecDepth 20000 in
theorem gX2_needsOf_X2_operandMask : GoodIn wsX2_needsOf (va_wsS RX2 36 yX2_operandMask wsX2_operandMask) := goodIn_app (goodIn_of _ (by decide +kernel)) ggX2_needsOf_X2_operandMask
theorem dX2_needsOf_0 : decode cX2_needsOf 0 = .ok (.iconst 0, 1) := by decide +kernel
theorem dX2_needsOf_1 : decode cX2_needsOf 1 = .ok (.istore_n 2, 1) := by decide +kernel
theorem dX2_needsOf_2 : decode cX2_needsOf 2 = .ok (.iconst 0, 1) := by decide +kernel
theorem dX2_needsOf_3 : decode cX2_needsOf 3 = .ok (.istore_n 3, 1) := by decide +kernel
theorem dX2_needsOf_4 : decode cX2_needsOf 4 = .ok (.iload_n 3, 1) := by decide +kernel
theorem dX2_needsOf_5 : decode cX2_needsOf 5 = .ok (.aload_n 0, 1) := by decide +kernel
theorem dX2_needsOf_6 : decode cX2_needsOf 6 = .ok (.getfield 11, 3) := by decide +kernel
theorem dX2_needsOf_9 : decode cX2_needsOf 9 = .ok (.arraylength, 1) := by decide +kernel
theorem dX2_needsOf_10 : decode cX2_needsOf 10 = .ok (.if_icmp .ge 58, 3) := by decide +kernel
theorem dX2_needsOf_13 : decode cX2_needsOf 13 = .ok (.aload_n 0, 1) := by decide +kernel
theorem dX2_needsOf_14 : decode cX2_needsOf 14 = .ok (.getfield 11, 3) := by decide +kernel
theorem dX2_needsOf_17 : decode cX2_needsOf 17 = .ok (.iload_n 3, 1) := by decide +kernel
theorem dX2_needsOf_18 : decode cX2_needsOf 18 = .ok (.aaload, 1) := by decide +kernel
theorem dX2_needsOf_19 : decode cX2_needsOf 19 = .ok (.astore 4, 2) := by decide +kernel
theorem dX2_needsOf_21 : decode cX2_needsOf 21 = .ok (.aload 4, 2) := by decide +kernel
theorem dX2_needsOf_23 : decode cX2_needsOf 23 = .ok (.ifnull 39, 3) := by decide +kernel
theorem dX2_needsOf_26 : decode cX2_needsOf 26 = .ok (.aload 4, 2) := by decide +kernel
theorem dX2_needsOf_28 : decode cX2_needsOf 28 = .ok (.getfield 22, 3) := by decide +kernel
theorem dX2_needsOf_31 : decode cX2_needsOf 31 = .ok (.ifCond .eq 31, 3) := by decide +kernel
theorem dX2_needsOf_34 : decode cX2_needsOf 34 = .ok (.iload_n 1, 1) := by decide +kernel
theorem dX2_needsOf_35 : decode cX2_needsOf 35 = .ok (.iload_n 3, 1) := by decide +kernel
theorem dX2_needsOf_36 : decode cX2_needsOf 36 = .ok (.ishr, 1) := by decide +kernel
theorem dX2_needsOf_37 : decode cX2_needsOf 37 = .ok (.iconst 1, 1) := by decide +kernel
theorem dX2_needsOf_38 : decode cX2_needsOf 38 = .ok (.iand, 1) := by decide +kernel
theorem dX2_needsOf_39 : decode cX2_needsOf 39 = .ok (.ifCond .eq 23, 3) := by decide +kernel
theorem dX2_needsOf_42 : decode cX2_needsOf 42 = .ok (.iload_n 2, 1) := by decide +kernel
theorem dX2_needsOf_43 : decode cX2_needsOf 43 = .ok (.aload 4, 2) := by decide +kernel
theorem dX2_needsOf_45 : decode cX2_needsOf 45 = .ok (.getfield 30, 3) := by decide +kernel
theorem dX2_needsOf_48 : decode cX2_needsOf 48 = .ok (.invokestatic 36, 3) := by decide +kernel
theorem dX2_needsOf_51 : decode cX2_needsOf 51 = .ok (.aload 4, 2) := by decide +kernel
theorem dX2_needsOf_53 : decode cX2_needsOf 53 = .ok (.getfield 33, 3) := by decide +kernel
theorem dX2_needsOf_56 : decode cX2_needsOf 56 = .ok (.invokestatic 36, 3) := by decide +kernel
theorem dX2_needsOf_59 : decode cX2_needsOf 59 = .ok (.ior, 1) := by decide +kernel
theorem dX2_needsOf_60 : decode cX2_needsOf 60 = .ok (.ior, 1) := by decide +kernel
theorem dX2_needsOf_61 : decode cX2_needsOf 61 = .ok (.istore_n 2, 1) := by decide +kernel
theorem dX2_needsOf_62 : decode cX2_needsOf 62 = .ok (.iinc 3 1, 3) := by decide +kernel
theorem dX2_needsOf_65 : decode cX2_needsOf 65 = .ok (.goto (-61), 3) := by decide +kernel
theorem dX2_needsOf_68 : decode cX2_needsOf 68 = .ok (.iload_n 2, 1) := by decide +kernel
theorem dX2_needsOf_69 : decode cX2_needsOf 69 = .ok (.ireturn, 1) := by decide +kernel
theorem dX2_operandMask_0 : decode cX2_operandMask 0 = .ok (.iload_n 0, 1) := by decide +kernel
theorem dX2_operandMask_1 : decode cX2_operandMask 1 = .ok (.bipush 100, 2) := by decide +kernel
theorem dX2_operandMask_3 : decode cX2_operandMask 3 = .ok (.if_icmp .lt 12, 3) := by decide +kernel
theorem dX2_operandMask_6 : decode cX2_operandMask 6 = .ok (.iconst 1, 1) := by decide +kernel
theorem dX2_operandMask_7 : decode cX2_operandMask 7 = .ok (.iload_n 0, 1) := by decide +kernel
theorem dX2_operandMask_8 : decode cX2_operandMask 8 = .ok (.bipush 100, 2) := by decide +kernel
theorem dX2_operandMask_10 : decode cX2_operandMask 10 = .ok (.isub, 1) := by decide +kernel
theorem dX2_operandMask_11 : decode cX2_operandMask 11 = .ok (.ishl, 1) := by decide +kernel
theorem dX2_operandMask_12 : decode cX2_operandMask 12 = .ok (.goto 4, 3) := by decide +kernel
theorem dX2_operandMask_15 : decode cX2_operandMask 15 = .ok (.iconst 0, 1) := by decide +kernel
theorem dX2_operandMask_16 : decode cX2_operandMask 16 = .ok (.ireturn, 1) := by decide +kernel
set_option maxRecDepth 20000 in
theorem ggX2_compute_X6_forget : GoodIn wsX2_compute wsX6_forget := goodIn_r _ [6, 7, 63, 64, 65] (by decide +kernel) (by decide +kernel)
set_option maxRecDepth 20000 in
theorem gX2_compute_X6_forget : GoodIn wsX2_compute (wsV RX2 47 RX6 yX6_forget wsX6_forget) := goodIn_app (goodIn_of _ (by decide +kernel)) ggX2_compute_X6_forget
set_option maxRecDepth 20000 in
theorem ggX2_compute_X2_computeOne : GoodIn wsX2_compute wsX2_computeOne := goodIn_r _ [12, 13, 14, 15, 11, 16, 17, 18, 19, 20, 1, 21, 22, 23, 24, 25, 26, 27, 28, 29, 30, 31, 32, 33, 34, 35, 36, 37, 38, 39, 40, 41, 42, 43, 44, 45, 46, 47, 48, 49, 50, 51, 52, 53, 5, 54, 7, 55, 56, 58, 59, 60, 61, 62, 63, 64, 65, 66, 67, 68, 69, 70, 71, 72, 73, 74, 75, 57, 76, 77, 78] (by decide +kernel) (by decide +kernel)
set_option maxRecDepth 20000 in
theorem gX2_compute_X2_computeOne : GoodIn wsX2_compute (wsV RX2 52 RX2 yX2_computeOne wsX2_computeOne) := goodIn_app (goodIn_of _ (by decide +kernel)) ggX2_compute_X2_computeOne
set_option maxRecDepth 20000 in
theorem ggX2_compute_X2_at : GoodIn wsX2_compute wsX2_at := goodIn_r _ [20, 1, 57] (by decide +kernel) (by decide +kernel)
set_option maxRecDepth 20000 in
theorem gX2_compute_X2_at : GoodIn wsX2_compute (wsV RX2 18 RX2 yX2_at wsX2_at) := goodIn_app (goodIn_of _ (by decide +kernel)) ggX2_compute_X2_at
theorem dX2_compute_0 : decode cX2_compute 0 = .ok (.iconst 0, 1) := by decide +kernel
theorem dX2_compute_1 : decode cX2_compute 1 = .ok (.istore_n 3, 1) := by decide +kernel
theorem dX2_compute_2 : decode cX2_compute 2 = .ok (.iload_n 3, 1) := by decide +kernel
theorem dX2_compute_3 : decode cX2_compute 3 = .ok (.aload_n 0, 1) := by decide +kernel
theorem dX2_compute_4 : decode cX2_compute 4 = .ok (.getfield 11, 3) := by decide +kernel
theorem dX2_compute_7 : decode cX2_compute 7 = .ok (.arraylength, 1) := by decide +kernel
theorem dX2_compute_8 : decode cX2_compute 8 = .ok (.if_icmp .ge 30, 3) := by decide +kernel
theorem dX2_compute_11 : decode cX2_compute 11 = .ok (.aload_n 0, 1) := by decide +kernel
theorem dX2_compute_12 : decode cX2_compute 12 = .ok (.getfield 11, 3) := by decide +kernel
theorem dX2_compute_15 : decode cX2_compute 15 = .ok (.iload_n 3, 1) := by decide +kernel
theorem dX2_compute_16 : decode cX2_compute 16 = .ok (.aaload, 1) := by decide +kernel
theorem dX2_compute_17 : decode cX2_compute 17 = .ok (.ifnull 15, 3) := by decide +kernel
theorem dX2_compute_20 : decode cX2_compute 20 = .ok (.aload_n 0, 1) := by decide +kernel
theorem dX2_compute_21 : decode cX2_compute 21 = .ok (.getfield 11, 3) := by decide +kernel
theorem dX2_compute_24 : decode cX2_compute 24 = .ok (.iload_n 3, 1) := by decide +kernel
theorem dX2_compute_25 : decode cX2_compute 25 = .ok (.aaload, 1) := by decide +kernel
theorem dX2_compute_26 : decode cX2_compute 26 = .ok (.getfield 43, 3) := by decide +kernel
theorem dX2_compute_29 : decode cX2_compute 29 = .ok (.invokevirtual 47, 3) := by decide +kernel
theorem dX2_compute_32 : decode cX2_compute 32 = .ok (.iinc 3 1, 3) := by decide +kernel
theorem dX2_compute_35 : decode cX2_compute 35 = .ok (.goto (-33), 3) := by decide +kernel
theorem dX2_compute_38 : decode cX2_compute 38 = .ok (.iconst 0, 1) := by decide +kernel
theorem dX2_compute_39 : decode cX2_compute 39 = .ok (.istore_n 3, 1) := by decide +kernel
theorem dX2_compute_40 : decode cX2_compute 40 = .ok (.iload_n 3, 1) := by decide +kernel
theorem dX2_compute_41 : decode cX2_compute 41 = .ok (.aload_n 0, 1) := by decide +kernel
theorem dX2_compute_42 : decode cX2_compute 42 = .ok (.getfield 11, 3) := by decide +kernel
theorem dX2_compute_45 : decode cX2_compute 45 = .ok (.arraylength, 1) := by decide +kernel
theorem dX2_compute_46 : decode cX2_compute 46 = .ok (.if_icmp .ge 40, 3) := by decide +kernel
theorem dX2_compute_49 : decode cX2_compute 49 = .ok (.iconst 0, 1) := by decide +kernel
theorem dX2_compute_50 : decode cX2_compute 50 = .ok (.istore 4, 2) := by decide +kernel
theorem dX2_compute_52 : decode cX2_compute 52 = .ok (.iload 4, 2) := by decide +kernel
theorem dX2_compute_54 : decode cX2_compute 54 = .ok (.aload_n 0, 1) := by decide +kernel
theorem dX2_compute_55 : decode cX2_compute 55 = .ok (.getfield 11, 3) := by decide +kernel
theorem dX2_compute_58 : decode cX2_compute 58 = .ok (.arraylength, 1) := by decide +kernel
theorem dX2_compute_59 : decode cX2_compute 59 = .ok (.if_icmp .ge 21, 3) := by decide +kernel
theorem dX2_compute_62 : decode cX2_compute 62 = .ok (.aload_n 0, 1) := by decide +kernel
theorem dX2_compute_63 : decode cX2_compute 63 = .ok (.aload_n 0, 1) := by decide +kernel
theorem dX2_compute_64 : decode cX2_compute 64 = .ok (.getfield 11, 3) := by decide +kernel
theorem dX2_compute_67 : decode cX2_compute 67 = .ok (.iload 4, 2) := by decide +kernel
theorem dX2_compute_69 : decode cX2_compute 69 = .ok (.aaload, 1) := by decide +kernel
theorem dX2_compute_70 : decode cX2_compute 70 = .ok (.aload_n 2, 1) := by decide +kernel
theorem dX2_compute_71 : decode cX2_compute 71 = .ok (.invokevirtual 52, 3) := by decide +kernel
theorem dX2_compute_74 : decode cX2_compute 74 = .ok (.iinc 4 1, 3) := by decide +kernel
theorem dX2_compute_77 : decode cX2_compute 77 = .ok (.goto (-25), 3) := by decide +kernel
theorem dX2_compute_80 : decode cX2_compute 80 = .ok (.iinc 3 1, 3) := by decide +kernel
theorem dX2_compute_83 : decode cX2_compute 83 = .ok (.goto (-43), 3) := by decide +kernel
theorem dX2_compute_86 : decode cX2_compute 86 = .ok (.aload_n 0, 1) := by decide +kernel
theorem dX2_compute_87 : decode cX2_compute 87 = .ok (.iload_n 1, 1) := by decide +kernel
theorem dX2_compute_88 : decode cX2_compute 88 = .ok (.invokevirtual 18, 3) := by decide +kernel
theorem dX2_compute_91 : decode cX2_compute 91 = .ok (.astore_n 3, 1) := by decide +kernel
theorem dX2_compute_92 : decode cX2_compute 92 = .ok (.aload_n 3, 1) := by decide +kernel
theorem dX2_compute_93 : decode cX2_compute 93 = .ok (.ifnonnull 7, 3) := by decide +kernel
theorem dX2_compute_96 : decode cX2_compute 96 = .ok (.aconst_null, 1) := by decide +kernel
theorem dX2_compute_97 : decode cX2_compute 97 = .ok (.goto 7, 3) := by decide +kernel
theorem dX2_compute_100 : decode cX2_compute 100 = .ok (.aload_n 3, 1) := by decide +kernel
theorem dX2_compute_101 : decode cX2_compute 101 = .ok (.getfield 43, 3) := by decide +kernel
theorem dX2_compute_104 : decode cX2_compute 104 = .ok (.areturn, 1) := by decide +kernel
set_option maxRecDepth 20000 in
theorem ggX2_computeOne_X2_operand : GoodIn wsX2_computeOne wsX2_operand := goodIn_r _ [5, 6, 7, 8, 4, 9, 10, 11, 12, 13, 14, 15, 16, 17, 49, 50, 51, 52, 53, 57, 58, 59, 60, 61, 62, 63, 64, 65, 66, 67, 68, 69, 70] (by decide +kernel) (by decide +kernel)
set_option maxRecDepth 20000 in
theorem gX2_computeOne_X2_operand : GoodIn wsX2_computeOne (wsV RX2 59 RX2 yX2_operand wsX2_operand) := goodIn_app (goodIn_of _ (by decide +kernel)) ggX2_computeOne_X2_operand
set_option maxRecDepth 20000 in
theorem ggX2_computeOne_X1_combine : GoodIn wsX2_computeOne wsX1_combine := goodIn_r _ [22, 23, 24, 25, 26, 27, 28, 29, 30, 31, 32, 33, 34, 35, 36, 37, 38, 21, 39, 40, 41, 42, 43, 44, 45, 46, 47, 48, 54, 55, 56, 49, 50, 51, 52, 53] (by decide +kernel) (by decide +kernel)
set_option maxRecDepth 20000 in
theorem gX2_computeOne_X1_combine : GoodIn wsX2_computeOne (wsV RX2 63 RX1 yX1_combine wsX1_combine) := goodIn_app (goodIn_of _ (by decide +kernel)) ggX2_computeOne_X1_combine
theorem dX2_computeOne_0 : decode cX2_computeOne 0 = .ok (.aload_n 1, 1) := by decide +kernel
theorem dX2_computeOne_1 : decode cX2_computeOne 1 = .ok (.ifnull 20, 3) := by decide +kernel
theorem dX2_computeOne_4 : decode cX2_computeOne 4 = .ok (.aload_n 1, 1) := by decide +kernel
theorem dX2_computeOne_5 : decode cX2_computeOne 5 = .ok (.getfield 22, 3) := by decide +kernel
theorem dX2_computeOne_8 : decode cX2_computeOne 8 = .ok (.ifCond .eq 13, 3) := by decide +kernel
theorem dX2_computeOne_11 : decode cX2_computeOne 11 = .ok (.aload_n 1, 1) := by decide +kernel
theorem dX2_computeOne_12 : decode cX2_computeOne 12 = .ok (.getfield 43, 3) := by decide +kernel
theorem dX2_computeOne_15 : decode cX2_computeOne 15 = .ok (.getfield 56, 3) := by decide +kernel
theorem dX2_computeOne_18 : decode cX2_computeOne 18 = .ok (.ifCond .eq 4, 3) := by decide +kernel
theorem dX2_computeOne_21 : decode cX2_computeOne 21 = .ok (.return_, 1) := by decide +kernel
theorem dX2_computeOne_22 : decode cX2_computeOne 22 = .ok (.aload_n 0, 1) := by decide +kernel
theorem dX2_computeOne_23 : decode cX2_computeOne 23 = .ok (.aload_n 1, 1) := by decide +kernel
theorem dX2_computeOne_24 : decode cX2_computeOne 24 = .ok (.getfield 30, 3) := by decide +kernel
theorem dX2_computeOne_27 : decode cX2_computeOne 27 = .ok (.aload_n 2, 1) := by decide +kernel
theorem dX2_computeOne_28 : decode cX2_computeOne 28 = .ok (.invokevirtual 59, 3) := by decide +kernel
theorem dX2_computeOne_31 : decode cX2_computeOne 31 = .ok (.astore_n 3, 1) := by decide +kernel
theorem dX2_computeOne_32 : decode cX2_computeOne 32 = .ok (.aload_n 0, 1) := by decide +kernel
theorem dX2_computeOne_33 : decode cX2_computeOne 33 = .ok (.aload_n 1, 1) := by decide +kernel
theorem dX2_computeOne_34 : decode cX2_computeOne 34 = .ok (.getfield 33, 3) := by decide +kernel
theorem dX2_computeOne_37 : decode cX2_computeOne 37 = .ok (.aload_n 2, 1) := by decide +kernel
theorem dX2_computeOne_38 : decode cX2_computeOne 38 = .ok (.invokevirtual 59, 3) := by decide +kernel
theorem dX2_computeOne_41 : decode cX2_computeOne 41 = .ok (.astore 4, 2) := by decide +kernel
theorem dX2_computeOne_43 : decode cX2_computeOne 43 = .ok (.aload_n 3, 1) := by decide +kernel
theorem dX2_computeOne_44 : decode cX2_computeOne 44 = .ok (.ifnull 30, 3) := by decide +kernel
theorem dX2_computeOne_47 : decode cX2_computeOne 47 = .ok (.aload 4, 2) := by decide +kernel
theorem dX2_computeOne_49 : decode cX2_computeOne 49 = .ok (.ifnull 25, 3) := by decide +kernel
theorem dX2_computeOne_52 : decode cX2_computeOne 52 = .ok (.aload_n 3, 1) := by decide +kernel
theorem dX2_computeOne_53 : decode cX2_computeOne 53 = .ok (.getfield 56, 3) := by decide +kernel
theorem dX2_computeOne_56 : decode cX2_computeOne 56 = .ok (.ifCond .eq 18, 3) := by decide +kernel
theorem dX2_computeOne_59 : decode cX2_computeOne 59 = .ok (.aload 4, 2) := by decide +kernel
theorem dX2_computeOne_61 : decode cX2_computeOne 61 = .ok (.getfield 56, 3) := by decide +kernel
theorem dX2_computeOne_64 : decode cX2_computeOne 64 = .ok (.ifCond .eq 10, 3) := by decide +kernel
theorem dX2_computeOne_67 : decode cX2_computeOne 67 = .ok (.aload_n 1, 1) := by decide +kernel
theorem dX2_computeOne_68 : decode cX2_computeOne 68 = .ok (.aload_n 3, 1) := by decide +kernel
theorem dX2_computeOne_69 : decode cX2_computeOne 69 = .ok (.aload 4, 2) := by decide +kernel
theorem dX2_computeOne_71 : decode cX2_computeOne 71 = .ok (.invokevirtual 63, 3) := by decide +kernel
theorem dX2_computeOne_74 : decode cX2_computeOne 74 = .ok (.return_, 1) := by decide +kernel
set_option maxRecDepth 20000 in
theorem ggX2_operand_X2_at : GoodIn wsX2_operand wsX2_at := goodIn_r _ [5, 6, 29] (by decide +kernel) (by decide +kernel)
set_option maxRecDepth 20000 in
theorem gX2_operand_X2_at : GoodIn wsX2_operand (wsV RX2 18 RX2 yX2_at wsX2_at) := goodIn_app (goodIn_of _ (by decide +kernel)) ggX2_operand_X2_at
set_option maxRecDepth 20000 in
theorem ggX2_operand_X5_at : GoodIn wsX2_operand wsX5_at := goodIn_r _ [11, 12, 13, 30, 31, 32] (by decide +kernel) (by decide +kernel)
set_option maxRecDepth 20000 in
theorem gX2_operand_X5_at : GoodIn wsX2_operand (wsV RX2 67 RX5 yX5_at wsX5_at) := goodIn_app (goodIn_of _ (by decide +kernel)) ggX2_operand_X5_at
theorem dX2_operand_0 : decode cX2_operand 0 = .ok (.iload_n 1, 1) := by decide +kernel
theorem dX2_operand_1 : decode cX2_operand 1 = .ok (.bipush 100, 2) := by decide +kernel
theorem dX2_operand_3 : decode cX2_operand 3 = .ok (.if_icmp .lt 25, 3) := by decide +kernel
theorem dX2_operand_6 : decode cX2_operand 6 = .ok (.aload_n 0, 1) := by decide +kernel
theorem dX2_operand_7 : decode cX2_operand 7 = .ok (.iload_n 1, 1) := by decide +kernel
theorem dX2_operand_8 : decode cX2_operand 8 = .ok (.bipush 100, 2) := by decide +kernel
theorem dX2_operand_10 : decode cX2_operand 10 = .ok (.isub, 1) := by decide +kernel
theorem dX2_operand_11 : decode cX2_operand 11 = .ok (.invokevirtual 18, 3) := by decide +kernel
theorem dX2_operand_14 : decode cX2_operand 14 = .ok (.astore_n 3, 1) := by decide +kernel
theorem dX2_operand_15 : decode cX2_operand 15 = .ok (.aload_n 3, 1) := by decide +kernel
theorem dX2_operand_16 : decode cX2_operand 16 = .ok (.ifnonnull 7, 3) := by decide +kernel
theorem dX2_operand_19 : decode cX2_operand 19 = .ok (.aconst_null, 1) := by decide +kernel
theorem dX2_operand_20 : decode cX2_operand 20 = .ok (.goto 7, 3) := by decide +kernel
theorem dX2_operand_23 : decode cX2_operand 23 = .ok (.aload_n 3, 1) := by decide +kernel
theorem dX2_operand_24 : decode cX2_operand 24 = .ok (.getfield 43, 3) := by decide +kernel
theorem dX2_operand_27 : decode cX2_operand 27 = .ok (.areturn, 1) := by decide +kernel
theorem dX2_operand_28 : decode cX2_operand 28 = .ok (.aload_n 2, 1) := by decide +kernel
theorem dX2_operand_29 : decode cX2_operand 29 = .ok (.iload_n 1, 1) := by decide +kernel
theorem dX2_operand_30 : decode cX2_operand 30 = .ok (.invokevirtual 67, 3) := by decide +kernel
theorem dX2_operand_33 : decode cX2_operand 33 = .ok (.astore_n 3, 1) := by decide +kernel
theorem dX2_operand_34 : decode cX2_operand 34 = .ok (.aload_n 3, 1) := by decide +kernel
theorem dX2_operand_35 : decode cX2_operand 35 = .ok (.ifnonnull 7, 3) := by decide +kernel
theorem dX2_operand_38 : decode cX2_operand 38 = .ok (.aconst_null, 1) := by decide +kernel
theorem dX2_operand_39 : decode cX2_operand 39 = .ok (.goto 7, 3) := by decide +kernel
theorem dX2_operand_42 : decode cX2_operand 42 = .ok (.aload_n 3, 1) := by decide +kernel
theorem dX2_operand_43 : decode cX2_operand 43 = .ok (.getfield 72, 3) := by decide +kernel
theorem dX2_operand_46 : decode cX2_operand 46 = .ok (.areturn, 1) := by decide +kernel
theorem dX2_at_0 : decode cX2_at 0 = .ok (.iload_n 1, 1) := by decide +kernel
theorem dX2_at_1 : decode cX2_at 1 = .ok (.ifCond .lt 21, 3) := by decide +kernel
theorem dX2_at_4 : decode cX2_at 4 = .ok (.iload_n 1, 1) := by decide +kernel
theorem dX2_at_5 : decode cX2_at 5 = .ok (.aload_n 0, 1) := by decide +kernel
theorem dX2_at_6 : decode cX2_at 6 = .ok (.getfield 11, 3) := by decide +kernel
theorem dX2_at_9 : decode cX2_at 9 = .ok (.arraylength, 1) := by decide +kernel
theorem dX2_at_10 : decode cX2_at 10 = .ok (.if_icmp .ge 12, 3) := by decide +kernel
theorem dX2_at_13 : decode cX2_at 13 = .ok (.aload_n 0, 1) := by decide +kernel
theorem dX2_at_14 : decode cX2_at 14 = .ok (.getfield 11, 3) := by decide +kernel
theorem dX2_at_17 : decode cX2_at 17 = .ok (.iload_n 1, 1) := by decide +kernel
theorem dX2_at_18 : decode cX2_at 18 = .ok (.aaload, 1) := by decide +kernel
theorem dX2_at_19 : decode cX2_at 19 = .ok (.goto 4, 3) := by decide +kernel
theorem dX2_at_22 : decode cX2_at 22 = .ok (.aconst_null, 1) := by decide +kernel
theorem dX2_at_23 : decode cX2_at 23 = .ok (.areturn, 1) := by decide +kernel
theorem dX3_init_0 : decode cX3_init 0 = .ok (.aload_n 0, 1) := by decide +kernel
theorem dX3_init_1 : decode cX3_init 1 = .ok (.invokespecial 3, 3) := by decide +kernel
theorem dX3_init_4 : decode cX3_init 4 = .ok (.aload_n 0, 1) := by decide +kernel
theorem dX3_init_5 : decode cX3_init 5 = .ok (.sipush 8000, 3) := by decide +kernel
theorem dX3_init_8 : decode cX3_init 8 = .ok (.newarray .int, 2) := by decide +kernel
theorem dX3_init_10 : decode cX3_init 10 = .ok (.putfield 9, 3) := by decide +kernel
theorem dX3_init_13 : decode cX3_init 13 = .ok (.return_, 1) := by decide +kernel
theorem dX3_length_0 : decode cX3_length 0 = .ok (.aload_n 0, 1) := by decide +kernel
theorem dX3_length_1 : decode cX3_length 1 = .ok (.getfield 15, 3) := by decide +kernel
theorem dX3_length_4 : decode cX3_length 4 = .ok (.aload_n 0, 1) := by decide +kernel
theorem dX3_length_5 : decode cX3_length 5 = .ok (.getfield 19, 3) := by decide +kernel
theorem dX3_length_8 : decode cX3_length 8 = .ok (.isub, 1) := by decide +kernel
theorem dX3_length_9 : decode cX3_length 9 = .ok (.ireturn, 1) := by decide +kernel
set_option maxRecDepth 20000 in
theorem ggX3_holds_X3_length : GoodIn wsX3_holds wsX3_length := goodIn_r _ [5, 6, 7, 8, 9, 10] (by decide +kernel) (by decide +kernel)
set_option maxRecDepth 20000 in
theorem gX3_holds_X3_length : GoodIn wsX3_holds (wsV RX3 22 RX3 yX3_length wsX3_length) := goodIn_app (goodIn_of _ (by decide +kernel)) ggX3_holds_X3_length
theorem dX3_holds_0 : decode cX3_holds 0 = .ok (.iload_n 1, 1) := by decide +kernel
theorem dX3_holds_1 : decode cX3_holds 1 = .ok (.ifCond .lt 25, 3) := by decide +kernel
theorem dX3_holds_4 : decode cX3_holds 4 = .ok (.iload_n 1, 1) := by decide +kernel
theorem dX3_holds_5 : decode cX3_holds 5 = .ok (.aload_n 0, 1) := by decide +kernel
theorem dX3_holds_6 : decode cX3_holds 6 = .ok (.invokevirtual 22, 3) := by decide +kernel
theorem dX3_holds_9 : decode cX3_holds 9 = .ok (.if_icmp .ge 17, 3) := by decide +kernel
theorem dX3_holds_12 : decode cX3_holds 12 = .ok (.iload_n 2, 1) := by decide +kernel
theorem dX3_holds_13 : decode cX3_holds 13 = .ok (.aload_n 0, 1) := by decide +kernel
theorem dX3_holds_14 : decode cX3_holds 14 = .ok (.invokevirtual 22, 3) := by decide +kernel
theorem dX3_holds_17 : decode cX3_holds 17 = .ok (.iload_n 1, 1) := by decide +kernel
theorem dX3_holds_18 : decode cX3_holds 18 = .ok (.isub, 1) := by decide +kernel
theorem dX3_holds_19 : decode cX3_holds 19 = .ok (.if_icmp .gt 7, 3) := by decide +kernel
theorem dX3_holds_22 : decode cX3_holds 22 = .ok (.iconst 1, 1) := by decide +kernel
theorem dX3_holds_23 : decode cX3_holds 23 = .ok (.goto 4, 3) := by decide +kernel
theorem dX3_holds_26 : decode cX3_holds 26 = .ok (.iconst 0, 1) := by decide +kernel
theorem dX3_holds_27 : decode cX3_holds 27 = .ok (.ireturn, 1) := by decide +kernel
theorem dX3_append_0 : decode cX3_append 0 = .ok (.aload_n 0, 1) := by decide +kernel
theorem dX3_append_1 : decode cX3_append 1 = .ok (.getfield 15, 3) := by decide +kernel
theorem dX3_append_4 : decode cX3_append 4 = .ok (.aload_n 0, 1) := by decide +kernel
theorem dX3_append_5 : decode cX3_append 5 = .ok (.getfield 9, 3) := by decide +kernel
theorem dX3_append_8 : decode cX3_append 8 = .ok (.arraylength, 1) := by decide +kernel
theorem dX3_append_9 : decode cX3_append 9 = .ok (.if_icmp .ge 23, 3) := by decide +kernel
theorem dX3_append_12 : decode cX3_append 12 = .ok (.aload_n 0, 1) := by decide +kernel
