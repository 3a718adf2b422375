theorem dX3_append_13 : decode cX3_append 13 = .ok (.getfield 9, 3) := by decide +kernel
theorem dX3_append_16 : decode cX3_append 16 = .ok (.aload_n 0, 1) := by decide +kernel
theorem dX3_append_17 : decode cX3_append 17 = .ok (.getfield 15, 3) := by decide +kernel
theorem dX3_append_20 : decode cX3_append 20 = .ok (.iload_n 1, 1) := by decide +kernel
theorem dX3_append_21 : decode cX3_append 21 = .ok (.iastore, 1) := by decide +kernel
theorem dX3_append_22 : decode cX3_append 22 = .ok (.aload_n 0, 1) := by decide +kernel
theorem dX3_append_23 : decode cX3_append 23 = .ok (.dup, 1) := by decide +kernel
theorem dX3_append_24 : decode cX3_append 24 = .ok (.getfield 15, 3) := by decide +kernel
theorem dX3_append_27 : decode cX3_append 27 = .ok (.iconst 1, 1) := by decide +kernel
theorem dX3_append_28 : decode cX3_append 28 = .ok (.iadd, 1) := by decide +kernel
theorem dX3_append_29 : decode cX3_append 29 = .ok (.putfield 15, 3) := by decide +kernel
theorem dX3_append_32 : decode cX3_append 32 = .ok (.return_, 1) := by decide +kernel
set_option maxRecDepth 20000 in
theorem ggX3_look_X3_holds : GoodIn wsX3_look wsX3_holds := goodIn_r _ [7, 8, 9, 10, 6, 11, 12, 2, 13, 14, 15] (by decide +kernel) (by decide +kernel)
set_option maxRecDepth 20000 in
theorem gX3_look_X3_holds : GoodIn wsX3_look (wsV RX3 26 RX3 yX3_holds wsX3_holds) := goodIn_app (goodIn_of _ (by decide +kernel)) ggX3_look_X3_holds
theorem dX3_look_0 : decode cX3_look 0 = .ok (.aload_n 0, 1) := by decide +kernel
theorem dX3_look_1 : decode cX3_look 1 = .ok (.iload_n 1, 1) := by decide +kernel
theorem dX3_look_2 : decode cX3_look 2 = .ok (.iconst 1, 1) := by decide +kernel
theorem dX3_look_3 : decode cX3_look 3 = .ok (.invokevirtual 26, 3) := by decide +kernel
theorem dX3_look_6 : decode cX3_look 6 = .ok (.ifCond .eq 17, 3) := by decide +kernel
theorem dX3_look_9 : decode cX3_look 9 = .ok (.aload_n 0, 1) := by decide +kernel
theorem dX3_look_10 : decode cX3_look 10 = .ok (.getfield 9, 3) := by decide +kernel
theorem dX3_look_13 : decode cX3_look 13 = .ok (.aload_n 0, 1) := by decide +kernel
theorem dX3_look_14 : decode cX3_look 14 = .ok (.getfield 19, 3) := by decide +kernel
theorem dX3_look_17 : decode cX3_look 17 = .ok (.iload_n 1, 1) := by decide +kernel
theorem dX3_look_18 : decode cX3_look 18 = .ok (.iadd, 1) := by decide +kernel
theorem dX3_look_19 : decode cX3_look 19 = .ok (.iaload, 1) := by decide +kernel
theorem dX3_look_20 : decode cX3_look 20 = .ok (.goto 4, 3) := by decide +kernel
theorem dX3_look_23 : decode cX3_look 23 = .ok (.iconst 0, 1) := by decide +kernel
theorem dX3_look_24 : decode cX3_look 24 = .ok (.ireturn, 1) := by decide +kernel
set_option maxRecDepth 20000 in
theorem ggX3_turnOver_X3_holds : GoodIn wsX3_turnOver wsX3_holds := goodIn_r _ [7, 8, 9, 10, 6, 11, 12, 2, 13, 14, 15] (by decide +kernel) (by decide +kernel)
set_option maxRecDepth 20000 in
theorem gX3_turnOver_X3_holds : GoodIn wsX3_turnOver (wsV RX3 26 RX3 yX3_holds wsX3_holds) := goodIn_app (goodIn_of _ (by decide +kernel)) ggX3_turnOver_X3_holds
theorem dX3_turnOver_0 : decode cX3_turnOver 0 = .ok (.aload_n 0, 1) := by decide +kernel
theorem dX3_turnOver_1 : decode cX3_turnOver 1 = .ok (.iload_n 1, 1) := by decide +kernel
theorem dX3_turnOver_2 : decode cX3_turnOver 2 = .ok (.iconst 1, 1) := by decide +kernel
theorem dX3_turnOver_3 : decode cX3_turnOver 3 = .ok (.invokevirtual 26, 3) := by decide +kernel
theorem dX3_turnOver_6 : decode cX3_turnOver 6 = .ok (.ifCond .ne 5, 3) := by decide +kernel
theorem dX3_turnOver_9 : decode cX3_turnOver 9 = .ok (.iconst 0, 1) := by decide +kernel
theorem dX3_turnOver_10 : decode cX3_turnOver 10 = .ok (.ireturn, 1) := by decide +kernel
theorem dX3_turnOver_11 : decode cX3_turnOver 11 = .ok (.aload_n 0, 1) := by decide +kernel
theorem dX3_turnOver_12 : decode cX3_turnOver 12 = .ok (.getfield 9, 3) := by decide +kernel
theorem dX3_turnOver_15 : decode cX3_turnOver 15 = .ok (.aload_n 0, 1) := by decide +kernel
theorem dX3_turnOver_16 : decode cX3_turnOver 16 = .ok (.getfield 19, 3) := by decide +kernel
theorem dX3_turnOver_19 : decode cX3_turnOver 19 = .ok (.iload_n 1, 1) := by decide +kernel
theorem dX3_turnOver_20 : decode cX3_turnOver 20 = .ok (.iadd, 1) := by decide +kernel
theorem dX3_turnOver_21 : decode cX3_turnOver 21 = .ok (.dup2, 1) := by decide +kernel
theorem dX3_turnOver_22 : decode cX3_turnOver 22 = .ok (.iaload, 1) := by decide +kernel
theorem dX3_turnOver_23 : decode cX3_turnOver 23 = .ok (.iconst 1, 1) := by decide +kernel
theorem dX3_turnOver_24 : decode cX3_turnOver 24 = .ok (.ixor, 1) := by decide +kernel
theorem dX3_turnOver_25 : decode cX3_turnOver 25 = .ok (.iastore, 1) := by decide +kernel
theorem dX3_turnOver_26 : decode cX3_turnOver 26 = .ok (.aload_n 0, 1) := by decide +kernel
theorem dX3_turnOver_27 : decode cX3_turnOver 27 = .ok (.getfield 9, 3) := by decide +kernel
theorem dX3_turnOver_30 : decode cX3_turnOver 30 = .ok (.aload_n 0, 1) := by decide +kernel
theorem dX3_turnOver_31 : decode cX3_turnOver 31 = .ok (.getfield 19, 3) := by decide +kernel
theorem dX3_turnOver_34 : decode cX3_turnOver 34 = .ok (.iload_n 1, 1) := by decide +kernel
theorem dX3_turnOver_35 : decode cX3_turnOver 35 = .ok (.iadd, 1) := by decide +kernel
theorem dX3_turnOver_36 : decode cX3_turnOver 36 = .ok (.iaload, 1) := by decide +kernel
theorem dX3_turnOver_37 : decode cX3_turnOver 37 = .ok (.ireturn, 1) := by decide +kernel
set_option maxRecDepth 20000 in
theorem ggX3_remove_X3_holds : GoodIn wsX3_remove wsX3_holds := goodIn_r _ [12, 13, 14, 15, 11, 16, 3, 1, 17, 18, 19] (by decide +kernel) (by decide +kernel)
set_option maxRecDepth 20000 in
theorem gX3_remove_X3_holds : GoodIn wsX3_remove (wsV RX3 26 RX3 yX3_holds wsX3_holds) := goodIn_app (goodIn_of _ (by decide +kernel)) ggX3_remove_X3_holds
theorem dX3_remove_0 : decode cX3_remove 0 = .ok (.iload_n 2, 1) := by decide +kernel
theorem dX3_remove_1 : decode cX3_remove 1 = .ok (.iconst 1, 1) := by decide +kernel
theorem dX3_remove_2 : decode cX3_remove 2 = .ok (.if_icmp .lt 12, 3) := by decide +kernel
theorem dX3_remove_5 : decode cX3_remove 5 = .ok (.aload_n 0, 1) := by decide +kernel
theorem dX3_remove_6 : decode cX3_remove 6 = .ok (.iload_n 1, 1) := by decide +kernel
theorem dX3_remove_7 : decode cX3_remove 7 = .ok (.iload_n 2, 1) := by decide +kernel
theorem dX3_remove_8 : decode cX3_remove 8 = .ok (.invokevirtual 26, 3) := by decide +kernel
theorem dX3_remove_11 : decode cX3_remove 11 = .ok (.ifCond .ne 4, 3) := by decide +kernel
theorem dX3_remove_14 : decode cX3_remove 14 = .ok (.return_, 1) := by decide +kernel
theorem dX3_remove_15 : decode cX3_remove 15 = .ok (.aload_n 0, 1) := by decide +kernel
theorem dX3_remove_16 : decode cX3_remove 16 = .ok (.getfield 19, 3) := by decide +kernel
theorem dX3_remove_19 : decode cX3_remove 19 = .ok (.iload_n 1, 1) := by decide +kernel
theorem dX3_remove_20 : decode cX3_remove 20 = .ok (.iadd, 1) := by decide +kernel
theorem dX3_remove_21 : decode cX3_remove 21 = .ok (.iload_n 2, 1) := by decide +kernel
theorem dX3_remove_22 : decode cX3_remove 22 = .ok (.iadd, 1) := by decide +kernel
theorem dX3_remove_23 : decode cX3_remove 23 = .ok (.istore_n 3, 1) := by decide +kernel
theorem dX3_remove_24 : decode cX3_remove 24 = .ok (.aload_n 0, 1) := by decide +kernel
theorem dX3_remove_25 : decode cX3_remove 25 = .ok (.getfield 9, 3) := by decide +kernel
theorem dX3_remove_28 : decode cX3_remove 28 = .ok (.iload_n 3, 1) := by decide +kernel
theorem dX3_remove_29 : decode cX3_remove 29 = .ok (.aload_n 0, 1) := by decide +kernel
theorem dX3_remove_30 : decode cX3_remove 30 = .ok (.getfield 9, 3) := by decide +kernel
theorem dX3_remove_33 : decode cX3_remove 33 = .ok (.aload_n 0, 1) := by decide +kernel
theorem dX3_remove_34 : decode cX3_remove 34 = .ok (.getfield 19, 3) := by decide +kernel
theorem dX3_remove_37 : decode cX3_remove 37 = .ok (.iload_n 1, 1) := by decide +kernel
theorem dX3_remove_38 : decode cX3_remove 38 = .ok (.iadd, 1) := by decide +kernel
theorem dX3_remove_39 : decode cX3_remove 39 = .ok (.aload_n 0, 1) := by decide +kernel
theorem dX3_remove_40 : decode cX3_remove 40 = .ok (.getfield 15, 3) := by decide +kernel
theorem dX3_remove_43 : decode cX3_remove 43 = .ok (.iload_n 3, 1) := by decide +kernel
theorem dX3_remove_44 : decode cX3_remove 44 = .ok (.isub, 1) := by decide +kernel
theorem dX3_remove_45 : decode cX3_remove 45 = .ok (.invokestatic 30, 3) := by decide +kernel
theorem dX3_remove_48 : decode cX3_remove 48 = .ok (.aload_n 0, 1) := by decide +kernel
theorem dX3_remove_49 : decode cX3_remove 49 = .ok (.dup, 1) := by decide +kernel
theorem dX3_remove_50 : decode cX3_remove 50 = .ok (.getfield 15, 3) := by decide +kernel
theorem dX3_remove_53 : decode cX3_remove 53 = .ok (.iload_n 2, 1) := by decide +kernel
theorem dX3_remove_54 : decode cX3_remove 54 = .ok (.isub, 1) := by decide +kernel
theorem dX3_remove_55 : decode cX3_remove 55 = .ok (.putfield 15, 3) := by decide +kernel
theorem dX3_remove_58 : decode cX3_remove 58 = .ok (.return_, 1) := by decide +kernel
set_option maxRecDepth 20000 in
theorem ggX3_takeFirst_X3_holds : GoodIn wsX3_takeFirst wsX3_holds := goodIn_r _ [7, 8, 9, 10, 6, 11, 12, 2, 13, 14, 15] (by decide +kernel) (by decide +kernel)
set_option maxRecDepth 20000 in
theorem gX3_takeFirst_X3_holds : GoodIn wsX3_takeFirst (wsV RX3 26 RX3 yX3_holds wsX3_holds) := goodIn_app (goodIn_of _ (by decide +kernel)) ggX3_takeFirst_X3_holds
theorem dX3_takeFirst_0 : decode cX3_takeFirst 0 = .ok (.aload_n 0, 1) := by decide +kernel
theorem dX3_takeFirst_1 : decode cX3_takeFirst 1 = .ok (.iconst 0, 1) := by decide +kernel
theorem dX3_takeFirst_2 : decode cX3_takeFirst 2 = .ok (.iconst 1, 1) := by decide +kernel
theorem dX3_takeFirst_3 : decode cX3_takeFirst 3 = .ok (.invokevirtual 26, 3) := by decide +kernel
theorem dX3_takeFirst_6 : decode cX3_takeFirst 6 = .ok (.ifCond .ne 5, 3) := by decide +kernel
theorem dX3_takeFirst_9 : decode cX3_takeFirst 9 = .ok (.iconst 0, 1) := by decide +kernel
theorem dX3_takeFirst_10 : decode cX3_takeFirst 10 = .ok (.ireturn, 1) := by decide +kernel
theorem dX3_takeFirst_11 : decode cX3_takeFirst 11 = .ok (.aload_n 0, 1) := by decide +kernel
theorem dX3_takeFirst_12 : decode cX3_takeFirst 12 = .ok (.getfield 9, 3) := by decide +kernel
theorem dX3_takeFirst_15 : decode cX3_takeFirst 15 = .ok (.aload_n 0, 1) := by decide +kernel
theorem dX3_takeFirst_16 : decode cX3_takeFirst 16 = .ok (.getfield 19, 3) := by decide +kernel
theorem dX3_takeFirst_19 : decode cX3_takeFirst 19 = .ok (.iaload, 1) := by decide +kernel
theorem dX3_takeFirst_20 : decode cX3_takeFirst 20 = .ok (.istore_n 1, 1) := by decide +kernel
theorem dX3_takeFirst_21 : decode cX3_takeFirst 21 = .ok (.aload_n 0, 1) := by decide +kernel
theorem dX3_takeFirst_22 : decode cX3_takeFirst 22 = .ok (.dup, 1) := by decide +kernel
theorem dX3_takeFirst_23 : decode cX3_takeFirst 23 = .ok (.getfield 19, 3) := by decide +kernel
theorem dX3_takeFirst_26 : decode cX3_takeFirst 26 = .ok (.iconst 1, 1) := by decide +kernel
theorem dX3_takeFirst_27 : decode cX3_takeFirst 27 = .ok (.iadd, 1) := by decide +kernel
theorem dX3_takeFirst_28 : decode cX3_takeFirst 28 = .ok (.putfield 19, 3) := by decide +kernel
theorem dX3_takeFirst_31 : decode cX3_takeFirst 31 = .ok (.iload_n 1, 1) := by decide +kernel
theorem dX3_takeFirst_32 : decode cX3_takeFirst 32 = .ok (.ireturn, 1) := by decide +kernel
set_option maxRecDepth 20000 in
theorem ggX4_init_X6_init : GoodIn wsX4_init wsX6_init := goodIn_r _ [15, 16, 2, 3] (by decide +kernel) (by decide +kernel)
set_option maxRecDepth 20000 in
theorem gX4_init_X6_init_n33 : GoodIn wsX4_init (wsX6_init) := ggX4_init_X6_init
theorem dX4_init_0 : decode cX4_init 0 = .ok (.aload_n 0, 1) := by decide +kernel
theorem dX4_init_1 : decode cX4_init 1 = .ok (.invokespecial 3, 3) := by decide +kernel
theorem dX4_init_4 : decode cX4_init 4 = .ok (.aload_n 0, 1) := by decide +kernel
theorem dX4_init_5 : decode cX4_init 5 = .ok (.iload_n 1, 1) := by decide +kernel
theorem dX4_init_6 : decode cX4_init 6 = .ok (.putfield 9, 3) := by decide +kernel
theorem dX4_init_9 : decode cX4_init 9 = .ok (.aload_n 0, 1) := by decide +kernel
theorem dX4_init_10 : decode cX4_init 10 = .ok (.iload_n 2, 1) := by decide +kernel
theorem dX4_init_11 : decode cX4_init 11 = .ok (.putfield 15, 3) := by decide +kernel
theorem dX4_init_14 : decode cX4_init 14 = .ok (.aload_n 0, 1) := by decide +kernel
theorem dX4_init_15 : decode cX4_init 15 = .ok (.iload_n 3, 1) := by decide +kernel
theorem dX4_init_16 : decode cX4_init 16 = .ok (.putfield 18, 3) := by decide +kernel
theorem dX4_init_19 : decode cX4_init 19 = .ok (.aload_n 0, 1) := by decide +kernel
theorem dX4_init_20 : decode cX4_init 20 = .ok (.iload 4, 2) := by decide +kernel
theorem dX4_init_22 : decode cX4_init 22 = .ok (.putfield 21, 3) := by decide +kernel
theorem dX4_init_25 : decode cX4_init 25 = .ok (.aload_n 0, 1) := by decide +kernel
theorem dX4_init_26 : decode cX4_init 26 = .ok (.iload 5, 2) := by decide +kernel
theorem dX4_init_28 : decode cX4_init 28 = .ok (.putfield 25, 3) := by decide +kernel
theorem dX4_init_31 : decode cX4_init 31 = .ok (.aload_n 0, 1) := by decide +kernel
theorem dX4_init_32 : decode cX4_init 32 = .ok (.iload 6, 2) := by decide +kernel
theorem dX4_init_34 : decode cX4_init 34 = .ok (.putfield 28, 3) := by decide +kernel
theorem dX4_init_37 : decode cX4_init 37 = .ok (.aload_n 0, 1) := by decide +kernel
theorem dX4_init_38 : decode cX4_init 38 = .ok (.new 31, 3) := by decide +kernel
theorem dX4_init_41 : decode cX4_init 41 = .ok (.dup, 1) := by decide +kernel
theorem dX4_init_42 : decode cX4_init 42 = .ok (.invokespecial 33, 3) := by decide +kernel
theorem dX4_init_45 : decode cX4_init 45 = .ok (.putfield 34, 3) := by decide +kernel
theorem dX4_init_48 : decode cX4_init 48 = .ok (.return_, 1) := by decide +kernel
set_option maxRecDepth 20000 in
theorem ggX4_lowest_X4_signWeight : GoodIn wsX4_lowest wsX4_signWeight := goodIn_r _ [6, 7, 8, 9, 10, 11, 12, 13, 14, 15, 16, 17] (by decide +kernel) (by decide +kernel)
set_option maxRecDepth 20000 in
theorem gX4_lowest_X4_signWeight : GoodIn wsX4_lowest (wsV RX4 38 RX4 yX4_signWeight wsX4_signWeight) := goodIn_app (goodIn_of _ (by decide +kernel)) ggX4_lowest_X4_signWeight
theorem dX4_lowest_0 : decode cX4_lowest 0 = .ok (.aload_n 0, 1) := by decide +kernel
theorem dX4_lowest_1 : decode cX4_lowest 1 = .ok (.getfield 15, 3) := by decide +kernel
theorem dX4_lowest_4 : decode cX4_lowest 4 = .ok (.lookupswitch 37 #[(0, 28), (2, 30)], 28) := by decide +kernel
theorem dX4_lowest_32 : decode cX4_lowest 32 = .ok (.iconst 0, 1) := by decide +kernel
theorem dX4_lowest_33 : decode cX4_lowest 33 = .ok (.ireturn, 1) := by decide +kernel
theorem dX4_lowest_34 : decode cX4_lowest 34 = .ok (.iconst 1, 1) := by decide +kernel
theorem dX4_lowest_35 : decode cX4_lowest 35 = .ok (.aload_n 0, 1) := by decide +kernel
theorem dX4_lowest_36 : decode cX4_lowest 36 = .ok (.invokevirtual 38, 3) := by decide +kernel
theorem dX4_lowest_39 : decode cX4_lowest 39 = .ok (.isub, 1) := by decide +kernel
theorem dX4_lowest_40 : decode cX4_lowest 40 = .ok (.ireturn, 1) := by decide +kernel
theorem dX4_lowest_41 : decode cX4_lowest 41 = .ok (.aload_n 0, 1) := by decide +kernel
theorem dX4_lowest_42 : decode cX4_lowest 42 = .ok (.invokevirtual 38, 3) := by decide +kernel
theorem dX4_lowest_45 : decode cX4_lowest 45 = .ok (.ineg, 1) := by decide +kernel
theorem dX4_lowest_46 : decode cX4_lowest 46 = .ok (.ireturn, 1) := by decide +kernel
set_option maxRecDepth 20000 in
theorem ggX4_highest_X4_signWeight : GoodIn wsX4_highest wsX4_signWeight := goodIn_r _ [7, 2, 8, 9, 10, 11, 12, 13, 14, 15, 16, 17] (by decide +kernel) (by decide +kernel)
set_option maxRecDepth 20000 in
theorem gX4_highest_X4_signWeight : GoodIn wsX4_highest (wsV RX4 38 RX4 yX4_signWeight wsX4_signWeight) := goodIn_app (goodIn_of _ (by decide +kernel)) ggX4_highest_X4_signWeight
theorem dX4_highest_0 : decode cX4_highest 0 = .ok (.aload_n 0, 1) := by decide +kernel
theorem dX4_highest_1 : decode cX4_highest 1 = .ok (.getfield 15, 3) := by decide +kernel
theorem dX4_highest_4 : decode cX4_highest 4 = .ok (.ifCond .ne 14, 3) := by decide +kernel
theorem dX4_highest_7 : decode cX4_highest 7 = .ok (.iconst 1, 1) := by decide +kernel
theorem dX4_highest_8 : decode cX4_highest 8 = .ok (.aload_n 0, 1) := by decide +kernel
theorem dX4_highest_9 : decode cX4_highest 9 = .ok (.getfield 9, 3) := by decide +kernel
theorem dX4_highest_12 : decode cX4_highest 12 = .ok (.ishl, 1) := by decide +kernel
theorem dX4_highest_13 : decode cX4_highest 13 = .ok (.iconst 1, 1) := by decide +kernel
theorem dX4_highest_14 : decode cX4_highest 14 = .ok (.isub, 1) := by decide +kernel
theorem dX4_highest_15 : decode cX4_highest 15 = .ok (.goto 9, 3) := by decide +kernel
theorem dX4_highest_18 : decode cX4_highest 18 = .ok (.aload_n 0, 1) := by decide +kernel
theorem dX4_highest_19 : decode cX4_highest 19 = .ok (.invokevirtual 38, 3) := by decide +kernel
theorem dX4_highest_22 : decode cX4_highest 22 = .ok (.iconst 1, 1) := by decide +kernel
theorem dX4_highest_23 : decode cX4_highest 23 = .ok (.isub, 1) := by decide +kernel
theorem dX4_highest_24 : decode cX4_highest 24 = .ok (.ireturn, 1) := by decide +kernel
set_option maxRecDepth 20000 in
theorem ggX4_encode_X4_signWeight : GoodIn wsX4_encode wsX4_signWeight := goodIn_r _ [7, 2, 8, 9, 10, 11, 12, 13, 14, 15, 16, 17] (by decide +kernel) (by decide +kernel)
set_option maxRecDepth 20000 in
theorem gX4_encode_X4_signWeight : GoodIn wsX4_encode (wsV RX4 38 RX4 yX4_signWeight wsX4_signWeight) := goodIn_app (goodIn_of _ (by decide +kernel)) ggX4_encode_X4_signWeight
theorem dX4_encode_0 : decode cX4_encode 0 = .ok (.aload_n 0, 1) := by decide +kernel
theorem dX4_encode_1 : decode cX4_encode 1 = .ok (.getfield 15, 3) := by decide +kernel
theorem dX4_encode_4 : decode cX4_encode 4 = .ok (.tableswitch 67 1 3 #[28, 45, 60], 28) := by decide +kernel
theorem dX4_encode_32 : decode cX4_encode 32 = .ok (.iload_n 1, 1) := by decide +kernel
theorem dX4_encode_33 : decode cX4_encode 33 = .ok (.ifCond .ge 14, 3) := by decide +kernel
theorem dX4_encode_36 : decode cX4_encode 36 = .ok (.iload_n 1, 1) := by decide +kernel
theorem dX4_encode_37 : decode cX4_encode 37 = .ok (.iconst 1, 1) := by decide +kernel
theorem dX4_encode_38 : decode cX4_encode 38 = .ok (.aload_n 0, 1) := by decide +kernel
theorem dX4_encode_39 : decode cX4_encode 39 = .ok (.getfield 9, 3) := by decide +kernel
theorem dX4_encode_42 : decode cX4_encode 42 = .ok (.ishl, 1) := by decide +kernel
theorem dX4_encode_43 : decode cX4_encode 43 = .ok (.iadd, 1) := by decide +kernel
theorem dX4_encode_44 : decode cX4_encode 44 = .ok (.goto 4, 3) := by decide +kernel
theorem dX4_encode_47 : decode cX4_encode 47 = .ok (.iload_n 1, 1) := by decide +kernel
theorem dX4_encode_48 : decode cX4_encode 48 = .ok (.ireturn, 1) := by decide +kernel
theorem dX4_encode_49 : decode cX4_encode 49 = .ok (.iload_n 1, 1) := by decide +kernel
theorem dX4_encode_50 : decode cX4_encode 50 = .ok (.ifCond .ge 12, 3) := by decide +kernel
theorem dX4_encode_53 : decode cX4_encode 53 = .ok (.aload_n 0, 1) := by decide +kernel
theorem dX4_encode_54 : decode cX4_encode 54 = .ok (.invokevirtual 38, 3) := by decide +kernel
theorem dX4_encode_57 : decode cX4_encode 57 = .ok (.iload_n 1, 1) := by decide +kernel
theorem dX4_encode_58 : decode cX4_encode 58 = .ok (.isub, 1) := by decide +kernel
theorem dX4_encode_59 : decode cX4_encode 59 = .ok (.goto 4, 3) := by decide +kernel
theorem dX4_encode_62 : decode cX4_encode 62 = .ok (.iload_n 1, 1) := by decide +kernel
theorem dX4_encode_63 : decode cX4_encode 63 = .ok (.ireturn, 1) := by decide +kernel
theorem dX4_encode_64 : decode cX4_encode 64 = .ok (.iload_n 1, 1) := by decide +kernel
theorem dX4_encode_65 : decode cX4_encode 65 = .ok (.aload_n 0, 1) := by decide +kernel
theorem dX4_encode_66 : decode cX4_encode 66 = .ok (.invokevirtual 38, 3) := by decide +kernel
theorem dX4_encode_69 : decode cX4_encode 69 = .ok (.iadd, 1) := by decide +kernel
theorem dX4_encode_70 : decode cX4_encode 70 = .ok (.ireturn, 1) := by decide +kernel
theorem dX4_encode_71 : decode cX4_encode 71 = .ok (.iload_n 1, 1) := by decide +kernel
theorem dX4_encode_72 : decode cX4_encode 72 = .ok (.ireturn, 1) := by decide +kernel
set_option maxRecDepth 20000 in
theorem ggX4_decode_X4_signWeight : GoodIn wsX4_decode wsX4_signWeight := goodIn_r _ [7, 2, 8, 9, 10, 11, 12, 13, 14, 15, 16, 17] (by decide +kernel) (by decide +kernel)
set_option maxRecDepth 20000 in
theorem gX4_decode_X4_signWeight : GoodIn wsX4_decode (wsV RX4 38 RX4 yX4_signWeight wsX4_signWeight) := goodIn_app (goodIn_of _ (by decide +kernel)) ggX4_decode_X4_signWeight
theorem dX4_decode_0 : decode cX4_decode 0 = .ok (.iload_n 1, 1) := by decide +kernel
theorem dX4_decode_1 : decode cX4_decode 1 = .ok (.aload_n 0, 1) := by decide +kernel
theorem dX4_decode_2 : decode cX4_decode 2 = .ok (.invokevirtual 38, 3) := by decide +kernel
theorem dX4_decode_5 : decode cX4_decode 5 = .ok (.if_icmp .lt 7, 3) := by decide +kernel
theorem dX4_decode_8 : decode cX4_decode 8 = .ok (.iconst 1, 1) := by decide +kernel
theorem dX4_decode_9 : decode cX4_decode 9 = .ok (.goto 4, 3) := by decide +kernel
theorem dX4_decode_12 : decode cX4_decode 12 = .ok (.iconst 0, 1) := by decide +kernel
theorem dX4_decode_13 : decode cX4_decode 13 = .ok (.istore_n 2, 1) := by decide +kernel
theorem dX4_decode_14 : decode cX4_decode 14 = .ok (.aload_n 0, 1) := by decide +kernel
theorem dX4_decode_15 : decode cX4_decode 15 = .ok (.getfield 15, 3) := by decide +kernel
theorem dX4_decode_18 : decode cX4_decode 18 = .ok (.tableswitch 65 1 3 #[26, 43, 58], 26) := by decide +kernel
theorem dX4_decode_44 : decode cX4_decode 44 = .ok (.iload_n 2, 1) := by decide +kernel
theorem dX4_decode_45 : decode cX4_decode 45 = .ok (.ifCond .eq 14, 3) := by decide +kernel
theorem dX4_decode_48 : decode cX4_decode 48 = .ok (.iload_n 1, 1) := by decide +kernel
theorem dX4_decode_49 : decode cX4_decode 49 = .ok (.iconst 1, 1) := by decide +kernel
theorem dX4_decode_50 : decode cX4_decode 50 = .ok (.aload_n 0, 1) := by decide +kernel
theorem dX4_decode_51 : decode cX4_decode 51 = .ok (.getfield 9, 3) := by decide +kernel
theorem dX4_decode_54 : decode cX4_decode 54 = .ok (.ishl, 1) := by decide +kernel
theorem dX4_decode_55 : decode cX4_decode 55 = .ok (.isub, 1) := by decide +kernel
theorem dX4_decode_56 : decode cX4_decode 56 = .ok (.goto 4, 3) := by decide +kernel
theorem dX4_decode_59 : decode cX4_decode 59 = .ok (.iload_n 1, 1) := by decide +kernel
theorem dX4_decode_60 : decode cX4_decode 60 = .ok (.ireturn, 1) := by decide +kernel
theorem dX4_decode_61 : decode cX4_decode 61 = .ok (.iload_n 2, 1) := by decide +kernel
theorem dX4_decode_62 : decode cX4_decode 62 = .ok (.ifCond .eq 12, 3) := by decide +kernel
theorem dX4_decode_65 : decode cX4_decode 65 = .ok (.aload_n 0, 1) := by decide +kernel
theorem dX4_decode_66 : decode cX4_decode 66 = .ok (.invokevirtual 38, 3) := by decide +kernel
theorem dX4_decode_69 : decode cX4_decode 69 = .ok (.iload_n 1, 1) := by decide +kernel
theorem dX4_decode_70 : decode cX4_decode 70 = .ok (.isub, 1) := by decide +kernel
theorem dX4_decode_71 : decode cX4_decode 71 = .ok (.goto 4, 3) := by decide +kernel
theorem dX4_decode_74 : decode cX4_decode 74 = .ok (.iload_n 1, 1) := by decide +kernel
theorem dX4_decode_75 : decode cX4_decode 75 = .ok (.ireturn, 1) := by decide +kernel
theorem dX4_decode_76 : decode cX4_decode 76 = .ok (.iload_n 1, 1) := by decide +kernel
theorem dX4_decode_77 : decode cX4_decode 77 = .ok (.aload_n 0, 1) := by decide +kernel
theorem dX4_decode_78 : decode cX4_decode 78 = .ok (.invokevirtual 38, 3) := by decide +kernel
theorem dX4_decode_81 : decode cX4_decode 81 = .ok (.isub, 1) := by decide +kernel
theorem dX4_decode_82 : decode cX4_decode 82 = .ok (.ireturn, 1) := by decide +kernel
theorem dX4_decode_83 : decode cX4_decode 83 = .ok (.iload_n 1, 1) := by decide +kernel
theorem dX4_decode_84 : decode cX4_decode 84 = .ok (.ireturn, 1) := by decide +kernel
theorem dX4_signWeight_0 : decode cX4_signWeight 0 = .ok (.iconst 1, 1) := by decide +kernel
theorem dX4_signWeight_1 : decode cX4_signWeight 1 = .ok (.aload_n 0, 1) := by decide +kernel
theorem dX4_signWeight_2 : decode cX4_signWeight 2 = .ok (.getfield 9, 3) := by decide +kernel
theorem dX4_signWeight_5 : decode cX4_signWeight 5 = .ok (.iconst 1, 1) := by decide +kernel
theorem dX4_signWeight_6 : decode cX4_signWeight 6 = .ok (.isub, 1) := by decide +kernel
theorem dX4_signWeight_7 : decode cX4_signWeight 7 = .ok (.ishl, 1) := by decide +kernel
theorem dX4_signWeight_8 : decode cX4_signWeight 8 = .ok (.ireturn, 1) := by decide +kernel
theorem dX4_isSentIn_0 : decode cX4_isSentIn 0 = .ok (.iload_n 1, 1) := by decide +kernel
theorem dX4_isSentIn_1 : decode cX4_isSentIn 1 = .ok (.aload_n 0, 1) := by decide +kernel
theorem dX4_isSentIn_2 : decode cX4_isSentIn 2 = .ok (.getfield 18, 3) := by decide +kernel
theorem dX4_isSentIn_5 : decode cX4_isSentIn 5 = .ok (.iconst 1, 1) := by decide +kernel
theorem dX4_isSentIn_6 : decode cX4_isSentIn 6 = .ok (.isub, 1) := by decide +kernel
theorem dX4_isSentIn_7 : decode cX4_isSentIn 7 = .ok (.iand, 1) := by decide +kernel
theorem dX4_isSentIn_8 : decode cX4_isSentIn 8 = .ok (.aload_n 0, 1) := by decide +kernel
theorem dX4_isSentIn_9 : decode cX4_isSentIn 9 = .ok (.getfield 25, 3) := by decide +kernel
theorem dX4_isSentIn_12 : decode cX4_isSentIn 12 = .ok (.if_icmp .ne 7, 3) := by decide +kernel
theorem dX4_isSentIn_15 : decode cX4_isSentIn 15 = .ok (.iconst 1, 1) := by decide +kernel
theorem dX4_isSentIn_16 : decode cX4_isSentIn 16 = .ok (.goto 4, 3) := by decide +kernel
theorem dX4_isSentIn_19 : decode cX4_isSentIn 19 = .ok (.iconst 0, 1) := by decide +kernel
theorem dX4_isSentIn_20 : decode cX4_isSentIn 20 = .ok (.ireturn, 1) := by decide +kernel
theorem dX4_samplesInFrame_0 : decode cX4_samplesInFrame 0 = .ok (.aload_n 0, 1) := by decide +kernel
theorem dX4_samplesInFrame_1 : decode cX4_samplesInFrame 1 = .ok (.getfield 21, 3) := by decide +kernel
theorem dX4_samplesInFrame_4 : decode cX4_samplesInFrame 4 = .ok (.ifCond .eq 7, 3) := by decide +kernel
theorem dX4_samplesInFrame_7 : decode cX4_samplesInFrame 7 = .ok (.iconst 2, 1) := by decide +kernel
theorem dX4_samplesInFrame_8 : decode cX4_samplesInFrame 8 = .ok (.goto 4, 3) := by decide +kernel
theorem dX4_samplesInFrame_11 : decode cX4_samplesInFrame 11 = .ok (.iconst 1, 1) := by decide +kernel
theorem dX4_samplesInFrame_12 : decode cX4_samplesInFrame 12 = .ok (.ireturn, 1) := by decide +kernel
theorem dX4_firstBit_0 : decode cX4_firstBit 0 = .ok (.bipush 16, 2) := by decide +kernel
theorem dX4_firstBit_2 : decode cX4_firstBit 2 = .ok (.aload_n 0, 1) := by decide +kernel
theorem dX4_firstBit_3 : decode cX4_firstBit 3 = .ok (.getfield 28, 3) := by decide +kernel
theorem dX4_firstBit_6 : decode cX4_firstBit 6 = .ok (.iadd, 1) := by decide +kernel
theorem dX4_firstBit_7 : decode cX4_firstBit 7 = .ok (.iload_n 1, 1) := by decide +kernel
theorem dX4_firstBit_8 : decode cX4_firstBit 8 = .ok (.bipush 24, 2) := by decide +kernel
theorem dX4_firstBit_10 : decode cX4_firstBit 10 = .ok (.imul, 1) := by decide +kernel
theorem dX4_firstBit_11 : decode cX4_firstBit 11 = .ok (.iadd, 1) := by decide +kernel
theorem dX4_firstBit_12 : decode cX4_firstBit 12 = .ok (.ireturn, 1) := by decide +kernel
set_option maxRecDepth 20000 in
theorem ggX4_shift_X4_firstBit : GoodIn wsX4_shift wsX4_firstBit := goodIn_r _ [6, 7, 8, 9, 10, 11, 12, 13, 14, 15, 16, 17] (by decide +kernel) (by decide +kernel)
set_option maxRecDepth 20000 in
theorem gX4_shift_X4_firstBit : GoodIn wsX4_shift (wsV RX4 42 RX4 yX4_firstBit wsX4_firstBit) := goodIn_app (goodIn_of _ (by decide +kernel)) ggX4_shift_X4_firstBit
theorem dX4_shift_0 : decode cX4_shift 0 = .ok (.bipush 64, 2) := by decide +kernel
theorem dX4_shift_2 : decode cX4_shift 2 = .ok (.aload_n 0, 1) := by decide +kernel
theorem dX4_shift_3 : decode cX4_shift 3 = .ok (.iload_n 1, 1) := by decide +kernel
theorem dX4_shift_4 : decode cX4_shift 4 = .ok (.invokevirtual 42, 3) := by decide +kernel
theorem dX4_shift_7 : decode cX4_shift 7 = .ok (.isub, 1) := by decide +kernel
theorem dX4_shift_8 : decode cX4_shift 8 = .ok (.aload_n 0, 1) := by decide +kernel
theorem dX4_shift_9 : decode cX4_shift 9 = .ok (.getfield 9, 3) := by decide +kernel
theorem dX4_shift_12 : decode cX4_shift 12 = .ok (.isub, 1) := by decide +kernel
theorem dX4_shift_13 : decode cX4_shift 13 = .ok (.ireturn, 1) := by decide +kernel
set_option maxRecDepth 20000 in
theorem ggX4_readFrom_X4_samplesInFrame : GoodIn wsX4_readFrom wsX4_samplesInFrame := goodIn_r _ [8, 9, 36, 37, 38, 39, 40, 41, 42, 43, 44, 45] (by decide +kernel) (by decide +kernel)
set_option maxRecDepth 20000 in
theorem gX4_readFrom_X4_samplesInFrame : GoodIn wsX4_readFrom (wsV RX4 46 RX4 yX4_samplesInFrame wsX4_samplesInFrame) := goodIn_app (goodIn_of _ (by decide +kernel)) ggX4_readFrom_X4_samplesInFrame
set_option maxRecDepth 20000 in
theorem ggX4_readFrom_X4_shift : GoodIn wsX4_readFrom wsX4_shift := goodIn_r _ [13, 1, 14, 15, 16, 7, 17, 18, 36, 37, 38, 39, 40, 41, 42, 43, 44, 45] (by decide +kernel) (by decide +kernel)
set_option maxRecDepth 20000 in
theorem gX4_readFrom_X4_shift : GoodIn wsX4_readFrom (wsV RX4 49 RX4 yX4_shift wsX4_shift) := goodIn_app (goodIn_of _ (by decide +kernel)) ggX4_readFrom_X4_shift
set_option maxRecDepth 20000 in
theorem ggX4_readFrom_X4_decode : GoodIn wsX4_readFrom wsX4_decode := goodIn_r _ [22, 23, 1, 24, 25, 26, 7, 27, 36, 37, 38, 39, 40, 41, 42, 43, 44, 45] (by decide +kernel) (by decide +kernel)
set_option maxRecDepth 20000 in
theorem gX4_readFrom_X4_decode : GoodIn wsX4_readFrom (wsV RX4 52 RX4 yX4_decode wsX4_decode) := goodIn_app (goodIn_of _ (by decide +kernel)) ggX4_readFrom_X4_decode
set_option maxRecDepth 20000 in
theorem ggX4_readFrom_X4_firstBit : GoodIn wsX4_readFrom wsX4_firstBit := goodIn_r _ [17, 18, 36, 37, 38, 39, 40, 41, 42, 43, 44, 45] (by decide +kernel) (by decide +kernel)
set_option maxRecDepth 20000 in
theorem gX4_readFrom_X4_firstBit : GoodIn wsX4_readFrom (wsV RX4 42 RX4 yX4_firstBit wsX4_firstBit) := goodIn_app (goodIn_of _ (by decide +kernel)) ggX4_readFrom_X4_firstBit
set_option maxRecDepth 20000 in
theorem ggX4_readFrom_X6_set : GoodIn wsX4_readFrom wsX6_set := goodIn_r _ [32, 33, 34, 35, 46, 47, 48] (by decide +kernel) (by decide +kernel)
set_option maxRecDepth 20000 in
theorem gX4_readFrom_X6_set : GoodIn wsX4_readFrom (wsV RX4 55 RX6 yX6_set wsX6_set) := goodIn_app (goodIn_of _ (by decide +kernel)) ggX4_readFrom_X6_set
theorem dX4_readFrom_0 : decode cX4_readFrom 0 = .ok (.iconst 0, 1) := by decide +kernel
theorem dX4_readFrom_1 : decode cX4_readFrom 1 = .ok (.istore 4, 2) := by decide +kernel
theorem dX4_readFrom_3 : decode cX4_readFrom 3 = .ok (.iload 4, 2) := by decide +kernel
theorem dX4_readFrom_5 : decode cX4_readFrom 5 = .ok (.aload_n 0, 1) := by decide +kernel
theorem dX4_readFrom_6 : decode cX4_readFrom 6 = .ok (.invokevirtual 46, 3) := by decide +kernel
theorem dX4_readFrom_9 : decode cX4_readFrom 9 = .ok (.if_icmp .ge 63, 3) := by decide +kernel
theorem dX4_readFrom_12 : decode cX4_readFrom 12 = .ok (.lload_n 1, 1) := by decide +kernel
theorem dX4_readFrom_13 : decode cX4_readFrom 13 = .ok (.aload_n 0, 1) := by decide +kernel
theorem dX4_readFrom_14 : decode cX4_readFrom 14 = .ok (.iload 4, 2) := by decide +kernel
theorem dX4_readFrom_16 : decode cX4_readFrom 16 = .ok (.invokevirtual 49, 3) := by decide +kernel
theorem dX4_readFrom_19 : decode cX4_readFrom 19 = .ok (.lushr, 1) := by decide +kernel
theorem dX4_readFrom_20 : decode cX4_readFrom 20 = .ok (.l2i, 1) := by decide +kernel
theorem dX4_readFrom_21 : decode cX4_readFrom 21 = .ok (.iconst 1, 1) := by decide +kernel
theorem dX4_readFrom_22 : decode cX4_readFrom 22 = .ok (.aload_n 0, 1) := by decide +kernel
theorem dX4_readFrom_23 : decode cX4_readFrom 23 = .ok (.getfield 9, 3) := by decide +kernel
theorem dX4_readFrom_26 : decode cX4_readFrom 26 = .ok (.ishl, 1) := by decide +kernel
theorem dX4_readFrom_27 : decode cX4_readFrom 27 = .ok (.iconst 1, 1) := by decide +kernel
theorem dX4_readFrom_28 : decode cX4_readFrom 28 = .ok (.isub, 1) := by decide +kernel
theorem dX4_readFrom_29 : decode cX4_readFrom 29 = .ok (.iand, 1) := by decide +kernel
theorem dX4_readFrom_30 : decode cX4_readFrom 30 = .ok (.istore 5, 2) := by decide +kernel
theorem dX4_readFrom_32 : decode cX4_readFrom 32 = .ok (.aload_n 0, 1) := by decide +kernel
theorem dX4_readFrom_33 : decode cX4_readFrom 33 = .ok (.getfield 34, 3) := by decide +kernel
theorem dX4_readFrom_36 : decode cX4_readFrom 36 = .ok (.aload_n 0, 1) := by decide +kernel
theorem dX4_readFrom_37 : decode cX4_readFrom 37 = .ok (.iload 5, 2) := by decide +kernel
theorem dX4_readFrom_39 : decode cX4_readFrom 39 = .ok (.invokevirtual 52, 3) := by decide +kernel
theorem dX4_readFrom_42 : decode cX4_readFrom 42 = .ok (.bipush 64, 2) := by decide +kernel
theorem dX4_readFrom_44 : decode cX4_readFrom 44 = .ok (.iload_n 3, 1) := by decide +kernel
theorem dX4_readFrom_45 : decode cX4_readFrom 45 = .ok (.imul, 1) := by decide +kernel
theorem dX4_readFrom_46 : decode cX4_readFrom 46 = .ok (.aload_n 0, 1) := by decide +kernel
theorem dX4_readFrom_47 : decode cX4_readFrom 47 = .ok (.iload 4, 2) := by decide +kernel
theorem dX4_readFrom_49 : decode cX4_readFrom 49 = .ok (.invokevirtual 42, 3) := by decide +kernel
theorem dX4_readFrom_52 : decode cX4_readFrom 52 = .ok (.iadd, 1) := by decide +kernel
theorem dX4_readFrom_53 : decode cX4_readFrom 53 = .ok (.invokevirtual 55, 3) := by decide +kernel
theorem dX4_readFrom_56 : decode cX4_readFrom 56 = .ok (.aload_n 0, 1) := by decide +kernel
theorem dX4_readFrom_57 : decode cX4_readFrom 57 = .ok (.dup, 1) := by decide +kernel
theorem dX4_readFrom_58 : decode cX4_readFrom 58 = .ok (.getfield 59, 3) := by decide +kernel
theorem dX4_readFrom_61 : decode cX4_readFrom 61 = .ok (.iconst 1, 1) := by decide +kernel
theorem dX4_readFrom_62 : decode cX4_readFrom 62 = .ok (.iadd, 1) := by decide +kernel
theorem dX4_readFrom_63 : decode cX4_readFrom 63 = .ok (.putfield 59, 3) := by decide +kernel
theorem dX4_readFrom_66 : decode cX4_readFrom 66 = .ok (.iinc 4 1, 3) := by decide +kernel
theorem dX4_readFrom_69 : decode cX4_readFrom 69 = .ok (.goto (-66), 3) := by decide +kernel
theorem dX4_readFrom_72 : decode cX4_readFrom 72 = .ok (.return_, 1) := by decide +kernel
set_option maxRecDepth 20000 in
theorem ggX4_noteMissing_X4_samplesInFrame : GoodIn wsX4_noteMissing wsX4_samplesInFrame := goodIn_r _ [6, 7, 8, 9, 10, 11, 12, 13, 14, 15, 16, 17] (by decide +kernel) (by decide +kernel)
set_option maxRecDepth 20000 in
theorem gX4_noteMissing_X4_samplesInFrame : GoodIn wsX4_noteMissing (wsV RX4 46 RX4 yX4_samplesInFrame wsX4_samplesInFrame) := goodIn_app (goodIn_of _ (by decide +kernel)) ggX4_noteMissing_X4_samplesInFrame
theorem dX4_noteMissing_0 : decode cX4_noteMissing 0 = .ok (.aload_n 0, 1) := by decide +kernel
theorem dX4_noteMissing_1 : decode cX4_noteMissing 1 = .ok (.dup, 1) := by decide +kernel
theorem dX4_noteMissing_2 : decode cX4_noteMissing 2 = .ok (.getfield 62, 3) := by decide +kernel
theorem dX4_noteMissing_5 : decode cX4_noteMissing 5 = .ok (.aload_n 0, 1) := by decide +kernel
theorem dX4_noteMissing_6 : decode cX4_noteMissing 6 = .ok (.invokevirtual 46, 3) := by decide +kernel
theorem dX4_noteMissing_9 : decode cX4_noteMissing 9 = .ok (.iadd, 1) := by decide +kernel
theorem dX4_noteMissing_10 : decode cX4_noteMissing 10 = .ok (.putfield 62, 3) := by decide +kernel
theorem dX4_noteMissing_13 : decode cX4_noteMissing 13 = .ok (.return_, 1) := by decide +kernel
theorem dX5_init_0 : decode cX5_init 0 = .ok (.aload_n 0, 1) := by decide +kernel
theorem dX5_init_1 : decode cX5_init 1 = .ok (.invokespecial 3, 3) := by decide +kernel
theorem dX5_init_4 : decode cX5_init 4 = .ok (.aload_n 0, 1) := by decide +kernel
theorem dX5_init_5 : decode cX5_init 5 = .ok (.bipush 12, 2) := by decide +kernel
theorem dX5_init_7 : decode cX5_init 7 = .ok (.anewarray 9, 3) := by decide +kernel
theorem dX5_init_10 : decode cX5_init 10 = .ok (.putfield 11, 3) := by decide +kernel
theorem dX5_init_13 : decode cX5_init 13 = .ok (.aload_n 0, 1) := by decide +kernel
theorem dX5_init_14 : decode cX5_init 14 = .ok (.iconst 4, 1) := by decide +kernel
theorem dX5_init_15 : decode cX5_init 15 = .ok (.newarray .long, 2) := by decide +kernel
theorem dX5_init_17 : decode cX5_init 17 = .ok (.putfield 17, 3) := by decide +kernel
theorem dX5_init_20 : decode cX5_init 20 = .ok (.return_, 1) := by decide +kernel
theorem dX5_at_0 : decode cX5_at 0 = .ok (.iload_n 1, 1) := by decide +kernel
theorem dX5_at_1 : decode cX5_at 1 = .ok (.ifCond .lt 20, 3) := by decide +kernel
theorem dX5_at_4 : decode cX5_at 4 = .ok (.iload_n 1, 1) := by decide +kernel
theorem dX5_at_5 : decode cX5_at 5 = .ok (.aload_n 0, 1) := by decide +kernel
theorem dX5_at_6 : decode cX5_at 6 = .ok (.getfield 21, 3) := by decide +kernel
theorem dX5_at_9 : decode cX5_at 9 = .ok (.if_icmp .ge 12, 3) := by decide +kernel
theorem dX5_at_12 : decode cX5_at 12 = .ok (.aload_n 0, 1) := by decide +kernel
theorem dX5_at_13 : decode cX5_at 13 = .ok (.getfield 11, 3) := by decide +kernel
theorem dX5_at_16 : decode cX5_at 16 = .ok (.iload_n 1, 1) := by decide +kernel
theorem dX5_at_17 : decode cX5_at 17 = .ok (.aaload, 1) := by decide +kernel
theorem dX5_at_18 : decode cX5_at 18 = .ok (.goto 4, 3) := by decide +kernel
theorem dX5_at_21 : decode cX5_at 21 = .ok (.aconst_null, 1) := by decide +kernel
theorem dX5_at_22 : decode cX5_at 22 = .ok (.areturn, 1) := by decide +kernel
set_option maxRecDepth 20000 in
theorem ggX5_add_X5_bitsAt : GoodIn wsX5_add wsX5_bitsAt := goodIn_r _ [9] (by decide +kernel) (by decide +kernel)
set_option maxRecDepth 20000 in
theorem gX5_add_X5_bitsAt : GoodIn wsX5_add (va_wsS RX5 25 yX5_bitsAt wsX5_bitsAt) := goodIn_app (goodIn_of _ (by decide +kernel)) ggX5_add_X5_bitsAt
set_option maxRecDepth 20000 in
theorem ggX5_add_X5_isFree : GoodIn wsX5_add wsX5_isFree := goodIn_r _ [13, 14, 38, 39, 40] (by decide +kernel) (by decide +kernel)
set_option maxRecDepth 20000 in
theorem gX5_add_X5_isFree : GoodIn wsX5_add (wsV RX5 29 RX5 yX5_isFree wsX5_isFree) := goodIn_app (goodIn_of _ (by decide +kernel)) ggX5_add_X5_isFree
set_option maxRecDepth 20000 in
theorem ggX5_add_X5_use : GoodIn wsX5_add wsX5_use := goodIn_r _ [18, 14, 38, 39, 40] (by decide +kernel) (by decide +kernel)
set_option maxRecDepth 20000 in
theorem gX5_add_X5_use : GoodIn wsX5_add (wsV RX5 33 RX5 yX5_use wsX5_use) := goodIn_app (goodIn_of _ (by decide +kernel)) ggX5_add_X5_use
set_option maxRecDepth 20000 in
theorem ggX5_add_X4_init : GoodIn wsX5_add wsX4_init := goodIn_r _ [21, 22, 23, 24, 25, 26, 27, 28, 29, 30, 31, 32, 33, 34, 35, 36, 37, 41, 42, 43, 44, 45, 46, 47, 48, 49, 50, 51, 52, 53] (by decide +kernel) (by decide +kernel)
set_option maxRecDepth 20000 in
theorem gX5_add_X4_init : GoodIn wsX5_add (wsX4_init) := ggX5_add_X4_init
theorem dX5_add_0 : decode cX5_add 0 = .ok (.aload_n 0, 1) := by decide +kernel
theorem dX5_add_1 : decode cX5_add 1 = .ok (.getfield 21, 3) := by decide +kernel
theorem dX5_add_4 : decode cX5_add 4 = .ok (.bipush 12, 2) := by decide +kernel
theorem dX5_add_6 : decode cX5_add 6 = .ok (.if_icmp .lt 5, 3) := by decide +kernel
theorem dX5_add_9 : decode cX5_add 9 = .ok (.iconst 0, 1) := by decide +kernel
theorem dX5_add_10 : decode cX5_add 10 = .ok (.ireturn, 1) := by decide +kernel
theorem dX5_add_11 : decode cX5_add 11 = .ok (.iload 4, 2) := by decide +kernel
theorem dX5_add_13 : decode cX5_add 13 = .ok (.ifCond .eq 8, 3) := by decide +kernel
theorem dX5_add_16 : decode cX5_add 16 = .ok (.bipush 24, 2) := by decide +kernel
theorem dX5_add_18 : decode cX5_add 18 = .ok (.goto 5, 3) := by decide +kernel
theorem dX5_add_21 : decode cX5_add 21 = .ok (.bipush 48, 2) := by decide +kernel
theorem dX5_add_23 : decode cX5_add 23 = .ok (.iload_n 1, 1) := by decide +kernel
theorem dX5_add_24 : decode cX5_add 24 = .ok (.isub, 1) := by decide +kernel
theorem dX5_add_25 : decode cX5_add 25 = .ok (.istore 5, 2) := by decide +kernel
theorem dX5_add_27 : decode cX5_add 27 = .ok (.iconst 0, 1) := by decide +kernel
theorem dX5_add_28 : decode cX5_add 28 = .ok (.istore 6, 2) := by decide +kernel
theorem dX5_add_30 : decode cX5_add 30 = .ok (.iload 6, 2) := by decide +kernel
theorem dX5_add_32 : decode cX5_add 32 = .ok (.iload_n 3, 1) := by decide +kernel
theorem dX5_add_33 : decode cX5_add 33 = .ok (.if_icmp .ge 93, 3) := by decide +kernel
theorem dX5_add_36 : decode cX5_add 36 = .ok (.iconst 0, 1) := by decide +kernel
theorem dX5_add_37 : decode cX5_add 37 = .ok (.istore 7, 2) := by decide +kernel
theorem dX5_add_39 : decode cX5_add 39 = .ok (.iload 7, 2) := by decide +kernel
theorem dX5_add_41 : decode cX5_add 41 = .ok (.iload 5, 2) := by decide +kernel
theorem dX5_add_43 : decode cX5_add 43 = .ok (.if_icmp .gt 77, 3) := by decide +kernel
theorem dX5_add_46 : decode cX5_add 46 = .ok (.iload 7, 2) := by decide +kernel
theorem dX5_add_48 : decode cX5_add 48 = .ok (.iload_n 1, 1) := by decide +kernel
theorem dX5_add_49 : decode cX5_add 49 = .ok (.iload 4, 2) := by decide +kernel
theorem dX5_add_51 : decode cX5_add 51 = .ok (.invokestatic 25, 3) := by decide +kernel
theorem dX5_add_54 : decode cX5_add 54 = .ok (.lstore 8, 2) := by decide +kernel
theorem dX5_add_56 : decode cX5_add 56 = .ok (.aload_n 0, 1) := by decide +kernel
theorem dX5_add_57 : decode cX5_add 57 = .ok (.lload 8, 2) := by decide +kernel
theorem dX5_add_59 : decode cX5_add 59 = .ok (.iload_n 3, 1) := by decide +kernel
theorem dX5_add_60 : decode cX5_add 60 = .ok (.iload 6, 2) := by decide +kernel
theorem dX5_add_62 : decode cX5_add 62 = .ok (.invokevirtual 29, 3) := by decide +kernel
theorem dX5_add_65 : decode cX5_add 65 = .ok (.ifCond .eq 49, 3) := by decide +kernel
theorem dX5_add_68 : decode cX5_add 68 = .ok (.aload_n 0, 1) := by decide +kernel
theorem dX5_add_69 : decode cX5_add 69 = .ok (.lload 8, 2) := by decide +kernel
theorem dX5_add_71 : decode cX5_add 71 = .ok (.iload_n 3, 1) := by decide +kernel
theorem dX5_add_72 : decode cX5_add 72 = .ok (.iload 6, 2) := by decide +kernel
theorem dX5_add_74 : decode cX5_add 74 = .ok (.invokevirtual 33, 3) := by decide +kernel
theorem dX5_add_77 : decode cX5_add 77 = .ok (.aload_n 0, 1) := by decide +kernel
theorem dX5_add_78 : decode cX5_add 78 = .ok (.getfield 11, 3) := by decide +kernel
theorem dX5_add_81 : decode cX5_add 81 = .ok (.aload_n 0, 1) := by decide +kernel
theorem dX5_add_82 : decode cX5_add 82 = .ok (.getfield 21, 3) := by decide +kernel
theorem dX5_add_85 : decode cX5_add 85 = .ok (.new 9, 3) := by decide +kernel
theorem dX5_add_88 : decode cX5_add 88 = .ok (.dup, 1) := by decide +kernel
theorem dX5_add_89 : decode cX5_add 89 = .ok (.iload_n 1, 1) := by decide +kernel
theorem dX5_add_90 : decode cX5_add 90 = .ok (.iload_n 2, 1) := by decide +kernel
theorem dX5_add_91 : decode cX5_add 91 = .ok (.iload_n 3, 1) := by decide +kernel
theorem dX5_add_92 : decode cX5_add 92 = .ok (.iload 4, 2) := by decide +kernel
theorem dX5_add_94 : decode cX5_add 94 = .ok (.iload 6, 2) := by decide +kernel
theorem dX5_add_96 : decode cX5_add 96 = .ok (.iload 7, 2) := by decide +kernel
theorem dX5_add_98 : decode cX5_add 98 = .ok (.invokespecial 37, 3) := by decide +kernel
theorem dX5_add_101 : decode cX5_add 101 = .ok (.aastore, 1) := by decide +kernel
theorem dX5_add_102 : decode cX5_add 102 = .ok (.aload_n 0, 1) := by decide +kernel
theorem dX5_add_103 : decode cX5_add 103 = .ok (.dup, 1) := by decide +kernel
theorem dX5_add_104 : decode cX5_add 104 = .ok (.getfield 21, 3) := by decide +kernel
theorem dX5_add_107 : decode cX5_add 107 = .ok (.iconst 1, 1) := by decide +kernel
theorem dX5_add_108 : decode cX5_add 108 = .ok (.iadd, 1) := by decide +kernel
theorem dX5_add_109 : decode cX5_add 109 = .ok (.putfield 21, 3) := by decide +kernel
theorem dX5_add_112 : decode cX5_add 112 = .ok (.iconst 1, 1) := by decide +kernel
theorem dX5_add_113 : decode cX5_add 113 = .ok (.ireturn, 1) := by decide +kernel
theorem dX5_add_114 : decode cX5_add 114 = .ok (.iinc 7 1, 3) := by decide +kernel
theorem dX5_add_117 : decode cX5_add 117 = .ok (.goto (-78), 3) := by decide +kernel
theorem dX5_add_120 : decode cX5_add 120 = .ok (.iinc 6 1, 3) := by decide +kernel
theorem dX5_add_123 : decode cX5_add 123 = .ok (.goto (-93), 3) := by decide +kernel
theorem dX5_add_126 : decode cX5_add 126 = .ok (.iconst 0, 1) := by decide +kernel
theorem dX5_add_127 : decode cX5_add 127 = .ok (.ireturn, 1) := by decide +kernel
theorem dX5_bitsAt_0 : decode cX5_bitsAt 0 = .ok (.lconst 1, 1) := by decide +kernel
theorem dX5_bitsAt_1 : decode cX5_bitsAt 1 = .ok (.iload_n 1, 1) := by decide +kernel
theorem dX5_bitsAt_2 : decode cX5_bitsAt 2 = .ok (.lshl, 1) := by decide +kernel
theorem dX5_bitsAt_3 : decode cX5_bitsAt 3 = .ok (.lconst 1, 1) := by decide +kernel
theorem dX5_bitsAt_4 : decode cX5_bitsAt 4 = .ok (.lsub, 1) := by decide +kernel
theorem dX5_bitsAt_5 : decode cX5_bitsAt 5 = .ok (.iload_n 0, 1) := by decide +kernel
theorem dX5_bitsAt_6 : decode cX5_bitsAt 6 = .ok (.lshl, 1) := by decide +kernel
theorem dX5_bitsAt_7 : decode cX5_bitsAt 7 = .ok (.lstore_n 3, 1) := by decide +kernel
theorem dX5_bitsAt_8 : decode cX5_bitsAt 8 = .ok (.iload_n 2, 1) := by decide +kernel
theorem dX5_bitsAt_9 : decode cX5_bitsAt 9 = .ok (.ifCond .eq 12, 3) := by decide +kernel
theorem dX5_bitsAt_12 : decode cX5_bitsAt 12 = .ok (.lload_n 3, 1) := by decide +kernel
theorem dX5_bitsAt_13 : decode cX5_bitsAt 13 = .ok (.lload_n 3, 1) := by decide +kernel
theorem dX5_bitsAt_14 : decode cX5_bitsAt 14 = .ok (.bipush 24, 2) := by decide +kernel
theorem dX5_bitsAt_16 : decode cX5_bitsAt 16 = .ok (.lshl, 1) := by decide +kernel
theorem dX5_bitsAt_17 : decode cX5_bitsAt 17 = .ok (.lor, 1) := by decide +kernel
theorem dX5_bitsAt_18 : decode cX5_bitsAt 18 = .ok (.goto 4, 3) := by decide +kernel
theorem dX5_bitsAt_21 : decode cX5_bitsAt 21 = .ok (.lload_n 3, 1) := by decide +kernel
theorem dX5_bitsAt_22 : decode cX5_bitsAt 22 = .ok (.lreturn, 1) := by decide +kernel
theorem dX5_isFree_0 : decode cX5_isFree 0 = .ok (.iconst 0, 1) := by decide +kernel
theorem dX5_isFree_1 : decode cX5_isFree 1 = .ok (.istore 5, 2) := by decide +kernel
theorem dX5_isFree_3 : decode cX5_isFree 3 = .ok (.iload 5, 2) := by decide +kernel
theorem dX5_isFree_5 : decode cX5_isFree 5 = .ok (.iconst 4, 1) := by decide +kernel
theorem dX5_isFree_6 : decode cX5_isFree 6 = .ok (.if_icmp .ge 36, 3) := by decide +kernel
theorem dX5_isFree_9 : decode cX5_isFree 9 = .ok (.iload 5, 2) := by decide +kernel
theorem dX5_isFree_11 : decode cX5_isFree 11 = .ok (.iload_n 3, 1) := by decide +kernel
theorem dX5_isFree_12 : decode cX5_isFree 12 = .ok (.iconst 1, 1) := by decide +kernel
theorem dX5_isFree_13 : decode cX5_isFree 13 = .ok (.isub, 1) := by decide +kernel
theorem dX5_isFree_14 : decode cX5_isFree 14 = .ok (.iand, 1) := by decide +kernel
theorem dX5_isFree_15 : decode cX5_isFree 15 = .ok (.iload 4, 2) := by decide +kernel
theorem dX5_isFree_17 : decode cX5_isFree 17 = .ok (.if_icmp .ne 19, 3) := by decide +kernel
theorem dX5_isFree_20 : decode cX5_isFree 20 = .ok (.aload_n 0, 1) := by decide +kernel
theorem dX5_isFree_21 : decode cX5_isFree 21 = .ok (.getfield 17, 3) := by decide +kernel
theorem dX5_isFree_24 : decode cX5_isFree 24 = .ok (.iload 5, 2) := by decide +kernel
theorem dX5_isFree_26 : decode cX5_isFree 26 = .ok (.laload, 1) := by decide +kernel
theorem dX5_isFree_27 : decode cX5_isFree 27 = .ok (.lload_n 1, 1) := by decide +kernel
theorem dX5_isFree_28 : decode cX5_isFree 28 = .ok (.land, 1) := by decide +kernel
theorem dX5_isFree_29 : decode cX5_isFree 29 = .ok (.lconst 0, 1) := by decide +kernel
theorem dX5_isFree_30 : decode cX5_isFree 30 = .ok (.lcmp, 1) := by decide +kernel
theorem dX5_isFree_31 : decode cX5_isFree 31 = .ok (.ifCond .eq 5, 3) := by decide +kernel
theorem dX5_isFree_34 : decode cX5_isFree 34 = .ok (.iconst 0, 1) := by decide +kernel
theorem dX5_isFree_35 : decode cX5_isFree 35 = .ok (.ireturn, 1) := by decide +kernel
theorem dX5_isFree_36 : decode cX5_isFree 36 = .ok (.iinc 5 1, 3) := by decide +kernel
theorem dX5_isFree_39 : decode cX5_isFree 39 = .ok (.goto (-36), 3) := by decide +kernel
theorem dX5_isFree_42 : decode cX5_isFree 42 = .ok (.iconst 1, 1) := by decide +kernel
theorem dX5_isFree_43 : decode cX5_isFree 43 = .ok (.ireturn, 1) := by decide +kernel
theorem dX5_use_0 : decode cX5_use 0 = .ok (.iconst 0, 1) := by decide +kernel
theorem dX5_use_1 : decode cX5_use 1 = .ok (.istore 5, 2) := by decide +kernel
theorem dX5_use_3 : decode cX5_use 3 = .ok (.iload 5, 2) := by decide +kernel
theorem dX5_use_5 : decode cX5_use 5 = .ok (.iconst 4, 1) := by decide +kernel
theorem dX5_use_6 : decode cX5_use 6 = .ok (.if_icmp .ge 31, 3) := by decide +kernel
theorem dX5_use_9 : decode cX5_use 9 = .ok (.iload 5, 2) := by decide +kernel
theorem dX5_use_11 : decode cX5_use 11 = .ok (.iload_n 3, 1) := by decide +kernel
theorem dX5_use_12 : decode cX5_use 12 = .ok (.iconst 1, 1) := by decide +kernel
theorem dX5_use_13 : decode cX5_use 13 = .ok (.isub, 1) := by decide +kernel
theorem dX5_use_14 : decode cX5_use 14 = .ok (.iand, 1) := by decide +kernel
theorem dX5_use_15 : decode cX5_use 15 = .ok (.iload 4, 2) := by decide +kernel
theorem dX5_use_17 : decode cX5_use 17 = .ok (.if_icmp .ne 14, 3) := by decide +kernel
theorem dX5_use_20 : decode cX5_use 20 = .ok (.aload_n 0, 1) := by decide +kernel
theorem dX5_use_21 : decode cX5_use 21 = .ok (.getfield 17, 3) := by decide +kernel
