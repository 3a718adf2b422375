theorem dX9_send_20 : decode cX9_send 20 = .ok (.getfield 26, 3) := by decide +kernel
theorem dX9_send_23 : decode cX9_send 23 = .ok (.getfield 58, 3) := by decide +kernel
theorem dX9_send_26 : decode cX9_send 26 = .ok (.iload_n 1, 1) := by decide +kernel
theorem dX9_send_27 : decode cX9_send 27 = .ok (.iadd, 1) := by decide +kernel
theorem dX9_send_28 : decode cX9_send 28 = .ok (.sipush 1000, 3) := by decide +kernel
theorem dX9_send_31 : decode cX9_send 31 = .ok (.if_icmp .le 11, 3) := by decide +kernel
theorem dX9_send_34 : decode cX9_send 34 = .ok (.new 65, 3) := by decide +kernel
theorem dX9_send_37 : decode cX9_send 37 = .ok (.dup, 1) := by decide +kernel
theorem dX9_send_38 : decode cX9_send 38 = .ok (.invokespecial 67, 3) := by decide +kernel
theorem dX9_send_41 : decode cX9_send 41 = .ok (.athrow, 1) := by decide +kernel
theorem dX9_send_42 : decode cX9_send 42 = .ok (.iconst 0, 1) := by decide +kernel
theorem dX9_send_43 : decode cX9_send 43 = .ok (.istore_n 2, 1) := by decide +kernel
theorem dX9_send_44 : decode cX9_send 44 = .ok (.iload_n 2, 1) := by decide +kernel
theorem dX9_send_45 : decode cX9_send 45 = .ok (.iload_n 1, 1) := by decide +kernel
theorem dX9_send_46 : decode cX9_send 46 = .ok (.if_icmp .ge 24, 3) := by decide +kernel
theorem dX9_send_49 : decode cX9_send 49 = .ok (.aload_n 0, 1) := by decide +kernel
theorem dX9_send_50 : decode cX9_send 50 = .ok (.getfield 26, 3) := by decide +kernel
theorem dX9_send_53 : decode cX9_send 53 = .ok (.aload_n 0, 1) := by decide +kernel
theorem dX9_send_54 : decode cX9_send 54 = .ok (.getfield 10, 3) := by decide +kernel
theorem dX9_send_57 : decode cX9_send 57 = .ok (.aload_n 0, 1) := by decide +kernel
theorem dX9_send_58 : decode cX9_send 58 = .ok (.getfield 19, 3) := by decide +kernel
theorem dX9_send_61 : decode cX9_send 61 = .ok (.invokevirtual 96, 3) := by decide +kernel
theorem dX9_send_64 : decode cX9_send 64 = .ok (.iinc 2 1, 3) := by decide +kernel
theorem dX9_send_67 : decode cX9_send 67 = .ok (.goto (-23), 3) := by decide +kernel
theorem dX9_send_70 : decode cX9_send 70 = .ok (.aload_n 0, 1) := by decide +kernel
theorem dX9_send_71 : decode cX9_send 71 = .ok (.getfield 19, 3) := by decide +kernel
theorem dX9_send_74 : decode cX9_send 74 = .ok (.invokevirtual 100, 3) := by decide +kernel
theorem dX9_send_77 : decode cX9_send 77 = .ok (.ireturn, 1) := by decide +kernel
theorem dX9_sent_0 : decode cX9_sent 0 = .ok (.aload_n 0, 1) := by decide +kernel
theorem dX9_sent_1 : decode cX9_sent 1 = .ok (.getfield 26, 3) := by decide +kernel
theorem dX9_sent_4 : decode cX9_sent 4 = .ok (.getfield 58, 3) := by decide +kernel
theorem dX9_sent_7 : decode cX9_sent 7 = .ok (.ireturn, 1) := by decide +kernel
set_option maxRecDepth 20000 in
theorem ggX9_onLine_X3_length : GoodIn wsX9_onLine wsX3_length := goodIn_r _ [6, 7, 8, 15, 16, 17] (by decide +kernel) (by decide +kernel)
set_option maxRecDepth 20000 in
theorem gX9_onLine_X3_length : GoodIn wsX9_onLine (wsV RX9 100 RX3 yX3_length wsX3_length) := goodIn_app (goodIn_of _ (by decide +kernel)) ggX9_onLine_X3_length
theorem dX9_onLine_0 : decode cX9_onLine 0 = .ok (.aload_n 0, 1) := by decide +kernel
theorem dX9_onLine_1 : decode cX9_onLine 1 = .ok (.getfield 19, 3) := by decide +kernel
theorem dX9_onLine_4 : decode cX9_onLine 4 = .ok (.invokevirtual 100, 3) := by decide +kernel
theorem dX9_onLine_7 : decode cX9_onLine 7 = .ok (.ireturn, 1) := by decide +kernel
set_option maxRecDepth 20000 in
theorem ggX9_bit_X3_holds : GoodIn wsX9_bit wsX3_holds := goodIn_r _ [8, 9, 10, 11, 7, 12, 13, 14, 27, 28, 29] (by decide +kernel) (by decide +kernel)
set_option maxRecDepth 20000 in
theorem gX9_bit_X3_holds : GoodIn wsX9_bit (wsV RX9 103 RX3 yX3_holds wsX3_holds) := goodIn_app (goodIn_of _ (by decide +kernel)) ggX9_bit_X3_holds
set_option maxRecDepth 20000 in
theorem ggX9_bit_X3_look : GoodIn wsX9_bit wsX3_look := goodIn_r _ [18, 19, 14, 20, 5, 6, 7, 8, 9, 10, 11, 12, 13, 27, 28, 29] (by decide +kernel) (by decide +kernel)
set_option maxRecDepth 20000 in
theorem gX9_bit_X3_look : GoodIn wsX9_bit (wsV RX9 110 RX3 yX3_look wsX3_look) := goodIn_app (goodIn_of _ (by decide +kernel)) ggX9_bit_X3_look
theorem dX9_bit_0 : decode cX9_bit 0 = .ok (.aload_n 0, 1) := by decide +kernel
theorem dX9_bit_1 : decode cX9_bit 1 = .ok (.getfield 19, 3) := by decide +kernel
theorem dX9_bit_4 : decode cX9_bit 4 = .ok (.iload_n 1, 1) := by decide +kernel
theorem dX9_bit_5 : decode cX9_bit 5 = .ok (.iconst 1, 1) := by decide +kernel
theorem dX9_bit_6 : decode cX9_bit 6 = .ok (.invokevirtual 103, 3) := by decide +kernel
theorem dX9_bit_9 : decode cX9_bit 9 = .ok (.ifCond .ne 11, 3) := by decide +kernel
theorem dX9_bit_12 : decode cX9_bit 12 = .ok (.new 107, 3) := by decide +kernel
theorem dX9_bit_15 : decode cX9_bit 15 = .ok (.dup, 1) := by decide +kernel
theorem dX9_bit_16 : decode cX9_bit 16 = .ok (.invokespecial 109, 3) := by decide +kernel
theorem dX9_bit_19 : decode cX9_bit 19 = .ok (.athrow, 1) := by decide +kernel
theorem dX9_bit_20 : decode cX9_bit 20 = .ok (.aload_n 0, 1) := by decide +kernel
theorem dX9_bit_21 : decode cX9_bit 21 = .ok (.getfield 19, 3) := by decide +kernel
theorem dX9_bit_24 : decode cX9_bit 24 = .ok (.iload_n 1, 1) := by decide +kernel
theorem dX9_bit_25 : decode cX9_bit 25 = .ok (.invokevirtual 110, 3) := by decide +kernel
theorem dX9_bit_28 : decode cX9_bit 28 = .ok (.ireturn, 1) := by decide +kernel
set_option maxRecDepth 20000 in
theorem ggX9_flip_X3_holds : GoodIn wsX9_flip wsX3_holds := goodIn_r _ [8, 9, 10, 11, 7, 12, 13, 14, 27, 28, 29] (by decide +kernel) (by decide +kernel)
set_option maxRecDepth 20000 in
theorem gX9_flip_X3_holds : GoodIn wsX9_flip (wsV RX9 103 RX3 yX3_holds wsX3_holds) := goodIn_app (goodIn_of _ (by decide +kernel)) ggX9_flip_X3_holds
set_option maxRecDepth 20000 in
theorem ggX9_flip_X3_turnOver : GoodIn wsX9_flip wsX3_turnOver := goodIn_r _ [18, 19, 14, 20, 5, 6, 7, 8, 9, 10, 11, 12, 13, 27, 28, 29] (by decide +kernel) (by decide +kernel)
set_option maxRecDepth 20000 in
theorem gX9_flip_X3_turnOver : GoodIn wsX9_flip (wsV RX9 114 RX3 yX3_turnOver wsX3_turnOver) := goodIn_app (goodIn_of _ (by decide +kernel)) ggX9_flip_X3_turnOver
theorem dX9_flip_0 : decode cX9_flip 0 = .ok (.aload_n 0, 1) := by decide +kernel
theorem dX9_flip_1 : decode cX9_flip 1 = .ok (.getfield 19, 3) := by decide +kernel
theorem dX9_flip_4 : decode cX9_flip 4 = .ok (.iload_n 1, 1) := by decide +kernel
theorem dX9_flip_5 : decode cX9_flip 5 = .ok (.iconst 1, 1) := by decide +kernel
theorem dX9_flip_6 : decode cX9_flip 6 = .ok (.invokevirtual 103, 3) := by decide +kernel
theorem dX9_flip_9 : decode cX9_flip 9 = .ok (.ifCond .ne 11, 3) := by decide +kernel
theorem dX9_flip_12 : decode cX9_flip 12 = .ok (.new 107, 3) := by decide +kernel
theorem dX9_flip_15 : decode cX9_flip 15 = .ok (.dup, 1) := by decide +kernel
theorem dX9_flip_16 : decode cX9_flip 16 = .ok (.invokespecial 109, 3) := by decide +kernel
theorem dX9_flip_19 : decode cX9_flip 19 = .ok (.athrow, 1) := by decide +kernel
theorem dX9_flip_20 : decode cX9_flip 20 = .ok (.aload_n 0, 1) := by decide +kernel
theorem dX9_flip_21 : decode cX9_flip 21 = .ok (.getfield 19, 3) := by decide +kernel
theorem dX9_flip_24 : decode cX9_flip 24 = .ok (.iload_n 1, 1) := by decide +kernel
theorem dX9_flip_25 : decode cX9_flip 25 = .ok (.invokevirtual 114, 3) := by decide +kernel
theorem dX9_flip_28 : decode cX9_flip 28 = .ok (.ireturn, 1) := by decide +kernel
set_option maxRecDepth 20000 in
theorem ggX9_cut_X3_holds : GoodIn wsX9_cut wsX3_holds := goodIn_r _ [10, 11, 12, 13, 9, 14, 15, 16, 34, 35, 36] (by decide +kernel) (by decide +kernel)
set_option maxRecDepth 20000 in
theorem gX9_cut_X3_holds : GoodIn wsX9_cut (wsV RX9 103 RX3 yX3_holds wsX3_holds) := goodIn_app (goodIn_of _ (by decide +kernel)) ggX9_cut_X3_holds
set_option maxRecDepth 20000 in
theorem ggX9_cut_X3_remove : GoodIn wsX9_cut wsX3_remove := goodIn_r _ [20, 16, 21, 15, 22, 23, 24, 25, 26, 7, 8, 9, 10, 11, 12, 13, 14, 34, 35, 36] (by decide +kernel) (by decide +kernel)
set_option maxRecDepth 20000 in
theorem gX9_cut_X3_remove : GoodIn wsX9_cut (wsV RX9 117 RX3 yX3_remove wsX3_remove) := goodIn_app (goodIn_of _ (by decide +kernel)) ggX9_cut_X3_remove
set_option maxRecDepth 20000 in
theorem ggX9_cut_X3_length : GoodIn wsX9_cut wsX3_length := goodIn_r _ [14, 15, 16, 34, 35, 36] (by decide +kernel) (by decide +kernel)
set_option maxRecDepth 20000 in
theorem gX9_cut_X3_length : GoodIn wsX9_cut (wsV RX9 100 RX3 yX3_length wsX3_length) := goodIn_app (goodIn_of _ (by decide +kernel)) ggX9_cut_X3_length
theorem dX9_cut_0 : decode cX9_cut 0 = .ok (.iload_n 2, 1) := by decide +kernel
theorem dX9_cut_1 : decode cX9_cut 1 = .ok (.iconst 1, 1) := by decide +kernel
theorem dX9_cut_2 : decode cX9_cut 2 = .ok (.if_icmp .ge 11, 3) := by decide +kernel
theorem dX9_cut_5 : decode cX9_cut 5 = .ok (.new 55, 3) := by decide +kernel
theorem dX9_cut_8 : decode cX9_cut 8 = .ok (.dup, 1) := by decide +kernel
theorem dX9_cut_9 : decode cX9_cut 9 = .ok (.invokespecial 57, 3) := by decide +kernel
theorem dX9_cut_12 : decode cX9_cut 12 = .ok (.athrow, 1) := by decide +kernel
theorem dX9_cut_13 : decode cX9_cut 13 = .ok (.aload_n 0, 1) := by decide +kernel
theorem dX9_cut_14 : decode cX9_cut 14 = .ok (.getfield 19, 3) := by decide +kernel
theorem dX9_cut_17 : decode cX9_cut 17 = .ok (.iload_n 1, 1) := by decide +kernel
theorem dX9_cut_18 : decode cX9_cut 18 = .ok (.iload_n 2, 1) := by decide +kernel
theorem dX9_cut_19 : decode cX9_cut 19 = .ok (.invokevirtual 103, 3) := by decide +kernel
theorem dX9_cut_22 : decode cX9_cut 22 = .ok (.ifCond .ne 11, 3) := by decide +kernel
theorem dX9_cut_25 : decode cX9_cut 25 = .ok (.new 107, 3) := by decide +kernel
theorem dX9_cut_28 : decode cX9_cut 28 = .ok (.dup, 1) := by decide +kernel
theorem dX9_cut_29 : decode cX9_cut 29 = .ok (.invokespecial 109, 3) := by decide +kernel
theorem dX9_cut_32 : decode cX9_cut 32 = .ok (.athrow, 1) := by decide +kernel
theorem dX9_cut_33 : decode cX9_cut 33 = .ok (.aload_n 0, 1) := by decide +kernel
theorem dX9_cut_34 : decode cX9_cut 34 = .ok (.getfield 19, 3) := by decide +kernel
theorem dX9_cut_37 : decode cX9_cut 37 = .ok (.iload_n 1, 1) := by decide +kernel
theorem dX9_cut_38 : decode cX9_cut 38 = .ok (.iload_n 2, 1) := by decide +kernel
theorem dX9_cut_39 : decode cX9_cut 39 = .ok (.invokevirtual 117, 3) := by decide +kernel
theorem dX9_cut_42 : decode cX9_cut 42 = .ok (.aload_n 0, 1) := by decide +kernel
theorem dX9_cut_43 : decode cX9_cut 43 = .ok (.getfield 19, 3) := by decide +kernel
theorem dX9_cut_46 : decode cX9_cut 46 = .ok (.invokevirtual 100, 3) := by decide +kernel
theorem dX9_cut_49 : decode cX9_cut 49 = .ok (.ireturn, 1) := by decide +kernel
set_option maxRecDepth 20000 in
theorem ggX9_receive_X3_length : GoodIn wsX9_receive wsX3_length := goodIn_r _ [15, 16, 17, 164, 165, 166] (by decide +kernel) (by decide +kernel)
set_option maxRecDepth 20000 in
theorem gX9_receive_X3_length : GoodIn wsX9_receive (wsV RX9 100 RX3 yX3_length wsX3_length) := goodIn_app (goodIn_of _ (by decide +kernel)) ggX9_receive_X3_length
set_option maxRecDepth 20000 in
theorem ggX9_receive_X3_takeFirst : GoodIn wsX9_receive wsX3_takeFirst := goodIn_r _ [21, 22, 17, 23, 24, 25, 14, 26, 27, 12, 13, 15, 16, 164, 165, 166] (by decide +kernel) (by decide +kernel)
set_option maxRecDepth 20000 in
theorem gX9_receive_X3_takeFirst : GoodIn wsX9_receive (wsV RX9 130 RX3 yX3_takeFirst wsX3_takeFirst) := goodIn_app (goodIn_of _ (by decide +kernel)) ggX9_receive_X3_takeFirst
set_option maxRecDepth 20000 in
theorem ggX9_receive_X8_take : GoodIn wsX9_receive wsX8_take := goodIn_r _ [32, 33, 34, 35, 36, 37, 38, 39, 40, 31, 41, 42, 43, 44, 45, 46, 47, 48, 49, 50, 51, 52, 53, 54, 55, 56, 57, 58, 59, 60, 61, 62, 63, 64, 65, 66, 67, 68, 69, 70, 157, 158, 159, 160, 161, 162, 163] (by decide +kernel) (by decide +kernel)
set_option maxRecDepth 20000 in
theorem gX9_receive_X8_take : GoodIn wsX9_receive (wsV RX9 133 RX8 yX8_take wsX8_take) := goodIn_app (goodIn_of _ (by decide +kernel)) ggX9_receive_X8_take
set_option maxRecDepth 20000 in
theorem ggX9_receive_X0_decode : GoodIn wsX9_receive wsX0_decode := goodIn_r _ [75, 76, 77, 78, 79, 80, 81, 82, 74, 83, 84, 85, 86, 87, 88, 89, 90, 91, 92, 93, 94, 95, 96, 97, 98, 99, 100, 101, 102, 103, 104, 105, 106, 107, 108, 109, 110, 111, 112, 113, 114, 115, 116, 117, 118, 119, 120, 121, 122, 123, 124, 125, 126, 127, 128, 129, 130, 131, 132, 133, 134, 135, 136, 137, 138, 139, 140, 141, 142, 143, 144, 145, 152, 153, 154, 155, 156, 167, 168, 169, 170, 171, 172, 173, 174, 175, 176, 177, 178, 179, 180, 181, 182] (by decide +kernel) (by decide +kernel)
set_option maxRecDepth 20000 in
theorem gX9_receive_X0_decode : GoodIn wsX9_receive (wsV RX9 141 RX0 yX0_decode wsX0_decode) := goodIn_app (goodIn_of _ (by decide +kernel)) ggX9_receive_X0_decode
theorem dX9_receive_0 : decode cX9_receive 0 = .ok (.iload_n 1, 1) := by decide +kernel
theorem dX9_receive_1 : decode cX9_receive 1 = .ok (.iconst 1, 1) := by decide +kernel
theorem dX9_receive_2 : decode cX9_receive 2 = .ok (.if_icmp .lt 10, 3) := by decide +kernel
theorem dX9_receive_5 : decode cX9_receive 5 = .ok (.iload_n 1, 1) := by decide +kernel
theorem dX9_receive_6 : decode cX9_receive 6 = .ok (.sipush 4096, 3) := by decide +kernel
theorem dX9_receive_9 : decode cX9_receive 9 = .ok (.if_icmp .le 11, 3) := by decide +kernel
theorem dX9_receive_12 : decode cX9_receive 12 = .ok (.new 55, 3) := by decide +kernel
theorem dX9_receive_15 : decode cX9_receive 15 = .ok (.dup, 1) := by decide +kernel
theorem dX9_receive_16 : decode cX9_receive 16 = .ok (.invokespecial 57, 3) := by decide +kernel
theorem dX9_receive_19 : decode cX9_receive 19 = .ok (.athrow, 1) := by decide +kernel
theorem dX9_receive_20 : decode cX9_receive 20 = .ok (.aload_n 0, 1) := by decide +kernel
theorem dX9_receive_21 : decode cX9_receive 21 = .ok (.getfield 40, 3) := by decide +kernel
theorem dX9_receive_24 : decode cX9_receive 24 = .ok (.getfield 121, 3) := by decide +kernel
theorem dX9_receive_27 : decode cX9_receive 27 = .ok (.istore_n 2, 1) := by decide +kernel
theorem dX9_receive_28 : decode cX9_receive 28 = .ok (.iload_n 1, 1) := by decide +kernel
theorem dX9_receive_29 : decode cX9_receive 29 = .ok (.aload_n 0, 1) := by decide +kernel
theorem dX9_receive_30 : decode cX9_receive 30 = .ok (.getfield 19, 3) := by decide +kernel
theorem dX9_receive_33 : decode cX9_receive 33 = .ok (.invokevirtual 100, 3) := by decide +kernel
theorem dX9_receive_36 : decode cX9_receive 36 = .ok (.invokestatic 124, 3) := by decide +kernel
theorem dX9_receive_39 : decode cX9_receive 39 = .ok (.istore_n 3, 1) := by decide +kernel
theorem dX9_receive_40 : decode cX9_receive 40 = .ok (.iconst 0, 1) := by decide +kernel
theorem dX9_receive_41 : decode cX9_receive 41 = .ok (.istore 4, 2) := by decide +kernel
theorem dX9_receive_43 : decode cX9_receive 43 = .ok (.iload 4, 2) := by decide +kernel
theorem dX9_receive_45 : decode cX9_receive 45 = .ok (.iload_n 3, 1) := by decide +kernel
theorem dX9_receive_46 : decode cX9_receive 46 = .ok (.if_icmp .ge 44, 3) := by decide +kernel
theorem dX9_receive_49 : decode cX9_receive 49 = .ok (.aload_n 0, 1) := by decide +kernel
theorem dX9_receive_50 : decode cX9_receive 50 = .ok (.getfield 33, 3) := by decide +kernel
theorem dX9_receive_53 : decode cX9_receive 53 = .ok (.aload_n 0, 1) := by decide +kernel
theorem dX9_receive_54 : decode cX9_receive 54 = .ok (.getfield 19, 3) := by decide +kernel
theorem dX9_receive_57 : decode cX9_receive 57 = .ok (.invokevirtual 130, 3) := by decide +kernel
theorem dX9_receive_60 : decode cX9_receive 60 = .ok (.invokevirtual 133, 3) := by decide +kernel
theorem dX9_receive_63 : decode cX9_receive 63 = .ok (.ifCond .eq 21, 3) := by decide +kernel
theorem dX9_receive_66 : decode cX9_receive 66 = .ok (.aload_n 0, 1) := by decide +kernel
theorem dX9_receive_67 : decode cX9_receive 67 = .ok (.getfield 40, 3) := by decide +kernel
theorem dX9_receive_70 : decode cX9_receive 70 = .ok (.aload_n 0, 1) := by decide +kernel
theorem dX9_receive_71 : decode cX9_receive 71 = .ok (.getfield 33, 3) := by decide +kernel
theorem dX9_receive_74 : decode cX9_receive 74 = .ok (.getfield 137, 3) := by decide +kernel
theorem dX9_receive_77 : decode cX9_receive 77 = .ok (.aload_n 0, 1) := by decide +kernel
theorem dX9_receive_78 : decode cX9_receive 78 = .ok (.getfield 10, 3) := by decide +kernel
theorem dX9_receive_81 : decode cX9_receive 81 = .ok (.invokevirtual 141, 3) := by decide +kernel
theorem dX9_receive_84 : decode cX9_receive 84 = .ok (.iinc 4 1, 3) := by decide +kernel
theorem dX9_receive_87 : decode cX9_receive 87 = .ok (.goto (-44), 3) := by decide +kernel
theorem dX9_receive_90 : decode cX9_receive 90 = .ok (.aload_n 0, 1) := by decide +kernel
theorem dX9_receive_91 : decode cX9_receive 91 = .ok (.getfield 40, 3) := by decide +kernel
theorem dX9_receive_94 : decode cX9_receive 94 = .ok (.getfield 121, 3) := by decide +kernel
theorem dX9_receive_97 : decode cX9_receive 97 = .ok (.iload_n 2, 1) := by decide +kernel
theorem dX9_receive_98 : decode cX9_receive 98 = .ok (.isub, 1) := by decide +kernel
theorem dX9_receive_99 : decode cX9_receive 99 = .ok (.ireturn, 1) := by decide +kernel
theorem dX9_state_0 : decode cX9_state 0 = .ok (.aload_n 0, 1) := by decide +kernel
theorem dX9_state_1 : decode cX9_state 1 = .ok (.getfield 33, 3) := by decide +kernel
theorem dX9_state_4 : decode cX9_state 4 = .ok (.getfield 145, 3) := by decide +kernel
theorem dX9_state_7 : decode cX9_state 7 = .ok (.ireturn, 1) := by decide +kernel
theorem dX9_taken_0 : decode cX9_taken 0 = .ok (.aload_n 0, 1) := by decide +kernel
theorem dX9_taken_1 : decode cX9_taken 1 = .ok (.getfield 33, 3) := by decide +kernel
theorem dX9_taken_4 : decode cX9_taken 4 = .ok (.getfield 148, 3) := by decide +kernel
theorem dX9_taken_7 : decode cX9_taken 7 = .ok (.ireturn, 1) := by decide +kernel
theorem dX9_frames_0 : decode cX9_frames 0 = .ok (.aload_n 0, 1) := by decide +kernel
theorem dX9_frames_1 : decode cX9_frames 1 = .ok (.getfield 40, 3) := by decide +kernel
theorem dX9_frames_4 : decode cX9_frames 4 = .ok (.getfield 121, 3) := by decide +kernel
theorem dX9_frames_7 : decode cX9_frames 7 = .ok (.ireturn, 1) := by decide +kernel
theorem dX9_lost_0 : decode cX9_lost 0 = .ok (.aload_n 0, 1) := by decide +kernel
theorem dX9_lost_1 : decode cX9_lost 1 = .ok (.getfield 40, 3) := by decide +kernel
theorem dX9_lost_4 : decode cX9_lost 4 = .ok (.getfield 151, 3) := by decide +kernel
theorem dX9_lost_7 : decode cX9_lost 7 = .ok (.ireturn, 1) := by decide +kernel
theorem dX9_repeats_0 : decode cX9_repeats 0 = .ok (.aload_n 0, 1) := by decide +kernel
theorem dX9_repeats_1 : decode cX9_repeats 1 = .ok (.getfield 40, 3) := by decide +kernel
theorem dX9_repeats_4 : decode cX9_repeats 4 = .ok (.getfield 154, 3) := by decide +kernel
theorem dX9_repeats_7 : decode cX9_repeats 7 = .ok (.ireturn, 1) := by decide +kernel
theorem dX9_number_0 : decode cX9_number 0 = .ok (.aload_n 0, 1) := by decide +kernel
theorem dX9_number_1 : decode cX9_number 1 = .ok (.getfield 40, 3) := by decide +kernel
theorem dX9_number_4 : decode cX9_number 4 = .ok (.getfield 121, 3) := by decide +kernel
theorem dX9_number_7 : decode cX9_number 7 = .ok (.ifCond .ne 11, 3) := by decide +kernel
theorem dX9_number_10 : decode cX9_number 10 = .ok (.new 157, 3) := by decide +kernel
theorem dX9_number_13 : decode cX9_number 13 = .ok (.dup, 1) := by decide +kernel
theorem dX9_number_14 : decode cX9_number 14 = .ok (.invokespecial 159, 3) := by decide +kernel
theorem dX9_number_17 : decode cX9_number 17 = .ok (.athrow, 1) := by decide +kernel
theorem dX9_number_18 : decode cX9_number 18 = .ok (.aload_n 0, 1) := by decide +kernel
theorem dX9_number_19 : decode cX9_number 19 = .ok (.getfield 40, 3) := by decide +kernel
theorem dX9_number_22 : decode cX9_number 22 = .ok (.getfield 160, 3) := by decide +kernel
theorem dX9_number_25 : decode cX9_number 25 = .ok (.ireturn, 1) := by decide +kernel
set_option maxRecDepth 20000 in
theorem ggX9_value_X9_existingPoint : GoodIn wsX9_value wsX9_existingPoint := goodIn_ca (goodIn_r _ [5, 6, 7, 8, 9, 10, 11, 12, 13, 14, 15, 24, 25, 26, 27, 28, 29, 30, 31, 32] (by decide +kernel) (by decide +kernel)) (goodIn_sub (fun _ h => List.mem_cons_of_mem _ (List.mem_append_left _ (List.mem_append_right _ h))) (by decide +kernel))
set_option maxRecDepth 20000 in
theorem gX9_value_X9_existingPoint : GoodIn wsX9_value (wsV RX9 71 RX9 yX9_existingPoint wsX9_existingPoint) := goodIn_app (goodIn_of _ (by decide +kernel)) ggX9_value_X9_existingPoint
set_option maxRecDepth 20000 in
theorem ggX9_value_X9_latestOf : GoodIn wsX9_value wsX9_latestOf := goodIn_ca (goodIn_r _ [18, 19, 20, 33, 34, 35, 36, 37, 38, 39, 40, 41, 42, 21, 22, 23] (by decide +kernel) (by decide +kernel)) (goodIn_sub (fun _ h => List.mem_cons_of_mem _ (List.mem_append_right _ h)) (by decide +kernel))
set_option maxRecDepth 20000 in
theorem gX9_value_X9_latestOf : GoodIn wsX9_value (va_wsS RX9 163 yX9_latestOf wsX9_latestOf) := goodIn_app (goodIn_of _ (by decide +kernel)) ggX9_value_X9_latestOf
theorem dX9_value_0 : decode cX9_value 0 = .ok (.aload_n 0, 1) := by decide +kernel
theorem dX9_value_1 : decode cX9_value 1 = .ok (.iload_n 1, 1) := by decide +kernel
theorem dX9_value_2 : decode cX9_value 2 = .ok (.invokevirtual 71, 3) := by decide +kernel
theorem dX9_value_5 : decode cX9_value 5 = .ok (.invokestatic 163, 3) := by decide +kernel
theorem dX9_value_8 : decode cX9_value 8 = .ok (.getfield 167, 3) := by decide +kernel
theorem dX9_value_11 : decode cX9_value 11 = .ok (.ireturn, 1) := by decide +kernel
set_option maxRecDepth 20000 in
theorem ggX9_time_X9_existingPoint : GoodIn wsX9_time wsX9_existingPoint := goodIn_ca (goodIn_r _ [5, 6, 7, 8, 9, 10, 11, 12, 13, 14, 15, 24, 25, 26, 27, 28, 29, 30, 31, 32] (by decide +kernel) (by decide +kernel)) (goodIn_sub (fun _ h => List.mem_cons_of_mem _ (List.mem_append_left _ (List.mem_append_right _ h))) (by decide +kernel))
set_option maxRecDepth 20000 in
theorem gX9_time_X9_existingPoint : GoodIn wsX9_time (wsV RX9 71 RX9 yX9_existingPoint wsX9_existingPoint) := goodIn_app (goodIn_of _ (by decide +kernel)) ggX9_time_X9_existingPoint
set_option maxRecDepth 20000 in
theorem ggX9_time_X9_latestOf : GoodIn wsX9_time wsX9_latestOf := goodIn_ca (goodIn_r _ [18, 19, 20, 33, 34, 35, 36, 37, 38, 39, 40, 41, 42, 21, 22, 23] (by decide +kernel) (by decide +kernel)) (goodIn_sub (fun _ h => List.mem_cons_of_mem _ (List.mem_append_right _ h)) (by decide +kernel))
set_option maxRecDepth 20000 in
theorem gX9_time_X9_latestOf : GoodIn wsX9_time (va_wsS RX9 163 yX9_latestOf wsX9_latestOf) := goodIn_app (goodIn_of _ (by decide +kernel)) ggX9_time_X9_latestOf
theorem dX9_time_0 : decode cX9_time 0 = .ok (.aload_n 0, 1) := by decide +kernel
theorem dX9_time_1 : decode cX9_time 1 = .ok (.iload_n 1, 1) := by decide +kernel
theorem dX9_time_2 : decode cX9_time 2 = .ok (.invokevirtual 71, 3) := by decide +kernel
theorem dX9_time_5 : decode cX9_time 5 = .ok (.invokestatic 163, 3) := by decide +kernel
theorem dX9_time_8 : decode cX9_time 8 = .ok (.getfield 172, 3) := by decide +kernel
theorem dX9_time_11 : decode cX9_time 11 = .ok (.ireturn, 1) := by decide +kernel
set_option maxRecDepth 20000 in
theorem ggX9_samples_X9_existingPoint : GoodIn wsX9_samples wsX9_existingPoint := goodIn_ca (goodIn_r _ [5, 6, 7, 8, 9, 10, 11, 12, 13, 14, 15, 26, 27, 28, 29, 30, 31, 32, 33, 34] (by decide +kernel) (by decide +kernel)) (goodIn_sub (fun _ h => List.mem_cons_of_mem _ (List.mem_append_right _ h)) (by decide +kernel))
set_option maxRecDepth 20000 in
theorem gX9_samples_X9_existingPoint : GoodIn wsX9_samples (wsV RX9 71 RX9 yX9_existingPoint wsX9_existingPoint) := goodIn_app (goodIn_of _ (by decide +kernel)) ggX9_samples_X9_existingPoint
theorem dX9_samples_0 : decode cX9_samples 0 = .ok (.aload_n 0, 1) := by decide +kernel
theorem dX9_samples_1 : decode cX9_samples 1 = .ok (.iload_n 1, 1) := by decide +kernel
theorem dX9_samples_2 : decode cX9_samples 2 = .ok (.invokevirtual 71, 3) := by decide +kernel
theorem dX9_samples_5 : decode cX9_samples 5 = .ok (.getfield 175, 3) := by decide +kernel
theorem dX9_samples_8 : decode cX9_samples 8 = .ok (.ireturn, 1) := by decide +kernel
set_option maxRecDepth 20000 in
theorem ggX9_missing_X9_existingPoint : GoodIn wsX9_missing wsX9_existingPoint := goodIn_ca (goodIn_r _ [5, 6, 7, 8, 9, 10, 11, 12, 13, 14, 15, 26, 27, 28, 29, 30, 31, 32, 33, 34] (by decide +kernel) (by decide +kernel)) (goodIn_sub (fun _ h => List.mem_cons_of_mem _ (List.mem_append_right _ h)) (by decide +kernel))
set_option maxRecDepth 20000 in
theorem gX9_missing_X9_existingPoint : GoodIn wsX9_missing (wsV RX9 71 RX9 yX9_existingPoint wsX9_existingPoint) := goodIn_app (goodIn_of _ (by decide +kernel)) ggX9_missing_X9_existingPoint
theorem dX9_missing_0 : decode cX9_missing 0 = .ok (.aload_n 0, 1) := by decide +kernel
theorem dX9_missing_1 : decode cX9_missing 1 = .ok (.iload_n 1, 1) := by decide +kernel
theorem dX9_missing_2 : decode cX9_missing 2 = .ok (.invokevirtual 71, 3) := by decide +kernel
theorem dX9_missing_5 : decode cX9_missing 5 = .ok (.getfield 178, 3) := by decide +kernel
theorem dX9_missing_8 : decode cX9_missing 8 = .ok (.ireturn, 1) := by decide +kernel
set_option maxRecDepth 20000 in
theorem ggX9_derive_X9_isDerived : GoodIn wsX9_derive wsX9_isDerived := goodIn_r _ [9] (by decide +kernel) (by decide +kernel)
set_option maxRecDepth 20000 in
theorem gX9_derive_X9_isDerived : GoodIn wsX9_derive (va_wsS RX9 181 yX9_isDerived wsX9_isDerived) := goodIn_app (goodIn_of _ (by decide +kernel)) ggX9_derive_X9_isDerived
set_option maxRecDepth 20000 in
theorem ggX9_derive_X9_isOperand : GoodIn wsX9_derive wsX9_isOperand := goodIn_r _ [12, 6, 7, 8, 9] (by decide +kernel) (by decide +kernel)
set_option maxRecDepth 20000 in
theorem gX9_derive_X9_isOperand : GoodIn wsX9_derive (va_wsS RX9 184 yX9_isOperand wsX9_isOperand) := goodIn_app (goodIn_of _ (by decide +kernel)) ggX9_derive_X9_isOperand
set_option maxRecDepth 20000 in
theorem ggX9_derive_X2_wouldNeedItself : GoodIn wsX9_derive wsX2_wouldNeedItself := goodIn_r _ [17, 18, 19, 20, 16, 21, 22, 23, 24, 25, 40, 41, 42, 43, 44, 45] (by decide +kernel) (by decide +kernel)
set_option maxRecDepth 20000 in
theorem gX9_derive_X2_wouldNeedItself : GoodIn wsX9_derive (wsV RX9 187 RX2 yX2_wouldNeedItself wsX2_wouldNeedItself) := goodIn_app (goodIn_of _ (by decide +kernel)) ggX9_derive_X2_wouldNeedItself
set_option maxRecDepth 20000 in
theorem ggX9_derive_X2_define : GoodIn wsX9_derive wsX2_define := goodIn_r _ [29, 30, 31, 32, 16, 33, 18, 41, 42, 43, 44, 45, 40] (by decide +kernel) (by decide +kernel)
set_option maxRecDepth 20000 in
theorem gX9_derive_X2_define : GoodIn wsX9_derive (wsV RX9 191 RX2 yX2_define wsX2_define) := goodIn_app (goodIn_of _ (by decide +kernel)) ggX9_derive_X2_define
theorem dX9_derive_0 : decode cX9_derive 0 = .ok (.iload_n 1, 1) := by decide +kernel
theorem dX9_derive_1 : decode cX9_derive 1 = .ok (.invokestatic 181, 3) := by decide +kernel
theorem dX9_derive_4 : decode cX9_derive 4 = .ok (.ifCond .eq 27, 3) := by decide +kernel
theorem dX9_derive_7 : decode cX9_derive 7 = .ok (.iload_n 2, 1) := by decide +kernel
theorem dX9_derive_8 : decode cX9_derive 8 = .ok (.ifCond .lt 23, 3) := by decide +kernel
theorem dX9_derive_11 : decode cX9_derive 11 = .ok (.iload_n 2, 1) := by decide +kernel
theorem dX9_derive_12 : decode cX9_derive 12 = .ok (.iconst 4, 1) := by decide +kernel
theorem dX9_derive_13 : decode cX9_derive 13 = .ok (.if_icmp .gt 18, 3) := by decide +kernel
theorem dX9_derive_16 : decode cX9_derive 16 = .ok (.iload_n 3, 1) := by decide +kernel
theorem dX9_derive_17 : decode cX9_derive 17 = .ok (.invokestatic 184, 3) := by decide +kernel
theorem dX9_derive_20 : decode cX9_derive 20 = .ok (.ifCond .eq 11, 3) := by decide +kernel
theorem dX9_derive_23 : decode cX9_derive 23 = .ok (.iload 4, 2) := by decide +kernel
theorem dX9_derive_25 : decode cX9_derive 25 = .ok (.invokestatic 184, 3) := by decide +kernel
theorem dX9_derive_28 : decode cX9_derive 28 = .ok (.ifCond .ne 11, 3) := by decide +kernel
theorem dX9_derive_31 : decode cX9_derive 31 = .ok (.new 55, 3) := by decide +kernel
theorem dX9_derive_34 : decode cX9_derive 34 = .ok (.dup, 1) := by decide +kernel
theorem dX9_derive_35 : decode cX9_derive 35 = .ok (.invokespecial 57, 3) := by decide +kernel
theorem dX9_derive_38 : decode cX9_derive 38 = .ok (.athrow, 1) := by decide +kernel
theorem dX9_derive_39 : decode cX9_derive 39 = .ok (.aload_n 0, 1) := by decide +kernel
theorem dX9_derive_40 : decode cX9_derive 40 = .ok (.getfield 47, 3) := by decide +kernel
theorem dX9_derive_43 : decode cX9_derive 43 = .ok (.iload_n 1, 1) := by decide +kernel
theorem dX9_derive_44 : decode cX9_derive 44 = .ok (.iload_n 3, 1) := by decide +kernel
theorem dX9_derive_45 : decode cX9_derive 45 = .ok (.iload 4, 2) := by decide +kernel
theorem dX9_derive_47 : decode cX9_derive 47 = .ok (.invokevirtual 187, 3) := by decide +kernel
theorem dX9_derive_50 : decode cX9_derive 50 = .ok (.ifCond .eq 11, 3) := by decide +kernel
theorem dX9_derive_53 : decode cX9_derive 53 = .ok (.new 65, 3) := by decide +kernel
theorem dX9_derive_56 : decode cX9_derive 56 = .ok (.dup, 1) := by decide +kernel
theorem dX9_derive_57 : decode cX9_derive 57 = .ok (.invokespecial 67, 3) := by decide +kernel
theorem dX9_derive_60 : decode cX9_derive 60 = .ok (.athrow, 1) := by decide +kernel
theorem dX9_derive_61 : decode cX9_derive 61 = .ok (.aload_n 0, 1) := by decide +kernel
theorem dX9_derive_62 : decode cX9_derive 62 = .ok (.getfield 47, 3) := by decide +kernel
theorem dX9_derive_65 : decode cX9_derive 65 = .ok (.iload_n 1, 1) := by decide +kernel
theorem dX9_derive_66 : decode cX9_derive 66 = .ok (.iload_n 2, 1) := by decide +kernel
theorem dX9_derive_67 : decode cX9_derive 67 = .ok (.iload_n 3, 1) := by decide +kernel
theorem dX9_derive_68 : decode cX9_derive 68 = .ok (.iload 4, 2) := by decide +kernel
theorem dX9_derive_70 : decode cX9_derive 70 = .ok (.invokevirtual 191, 3) := by decide +kernel
theorem dX9_derive_73 : decode cX9_derive 73 = .ok (.return_, 1) := by decide +kernel
set_option maxRecDepth 20000 in
theorem ggX9_derivedValue_X9_resultOf : GoodIn wsX9_derivedValue wsX9_resultOf := goodIn_ca (goodIn_ca (goodIn_r _ [5, 6, 7, 8, 9, 10, 11, 12, 13, 4, 14, 15, 16, 17, 18, 19, 20, 21, 22, 23, 24, 25, 26, 27, 28, 29, 30, 31, 32, 33, 34, 35, 36, 37, 38, 39, 40, 41, 42, 43, 44, 45, 46, 47, 48, 49, 50, 51, 52, 53, 54, 55, 56, 57, 58, 59, 60, 61, 62, 63, 64, 65, 66, 67, 68, 69, 70, 71, 72, 73, 74, 78, 79, 80, 81, 82, 83, 75, 76, 77, 84, 85, 86, 87, 88, 89, 90, 91, 92, 93, 94, 95, 96, 97, 98, 99, 100, 101, 102] (by decide +kernel) (by decide +kernel)) (goodIn_sub (fun _ h => List.mem_cons_of_mem _ (List.mem_append_left _ (List.mem_append_right _ h))) (by decide +kernel))) (goodIn_sub (fun _ h => List.mem_cons_of_mem _ (List.mem_append_right _ h)) (by decide +kernel))
set_option maxRecDepth 20000 in
theorem gX9_derivedValue_X9_resultOf : GoodIn wsX9_derivedValue (wsV RX9 195 RX9 yX9_resultOf wsX9_resultOf) := goodIn_app (goodIn_of _ (by decide +kernel)) ggX9_derivedValue_X9_resultOf
theorem dX9_derivedValue_0 : decode cX9_derivedValue 0 = .ok (.aload_n 0, 1) := by decide +kernel
theorem dX9_derivedValue_1 : decode cX9_derivedValue 1 = .ok (.iload_n 1, 1) := by decide +kernel
theorem dX9_derivedValue_2 : decode cX9_derivedValue 2 = .ok (.invokevirtual 195, 3) := by decide +kernel
theorem dX9_derivedValue_5 : decode cX9_derivedValue 5 = .ok (.getfield 167, 3) := by decide +kernel
theorem dX9_derivedValue_8 : decode cX9_derivedValue 8 = .ok (.ireturn, 1) := by decide +kernel
set_option maxRecDepth 20000 in
theorem ggX9_derivedTime_X9_resultOf : GoodIn wsX9_derivedTime wsX9_resultOf := goodIn_ca (goodIn_ca (goodIn_r _ [5, 6, 7, 8, 9, 10, 11, 12, 13, 4, 14, 15, 16, 17, 18, 19, 20, 21, 22, 23, 24, 25, 26, 27, 28, 29, 30, 31, 32, 33, 34, 35, 36, 37, 38, 39, 40, 41, 42, 43, 44, 45, 46, 47, 48, 49, 50, 51, 52, 53, 54, 55, 56, 57, 58, 59, 60, 61, 62, 63, 64, 65, 66, 67, 68, 69, 70, 71, 72, 73, 74, 78, 79, 80, 81, 82, 83, 75, 76, 77, 84, 85, 86, 87, 88, 89, 90, 91, 92, 93, 94, 95, 96, 97, 98, 99, 100, 101, 102] (by decide +kernel) (by decide +kernel)) (goodIn_sub (fun _ h => List.mem_cons_of_mem _ (List.mem_append_left _ (List.mem_append_right _ h))) (by decide +kernel))) (goodIn_sub (fun _ h => List.mem_cons_of_mem _ (List.mem_append_right _ h)) (by decide +kernel))
set_option maxRecDepth 20000 in
theorem gX9_derivedTime_X9_resultOf : GoodIn wsX9_derivedTime (wsV RX9 195 RX9 yX9_resultOf wsX9_resultOf) := goodIn_app (goodIn_of _ (by decide +kernel)) ggX9_derivedTime_X9_resultOf
theorem dX9_derivedTime_0 : decode cX9_derivedTime 0 = .ok (.aload_n 0, 1) := by decide +kernel
theorem dX9_derivedTime_1 : decode cX9_derivedTime 1 = .ok (.iload_n 1, 1) := by decide +kernel
theorem dX9_derivedTime_2 : decode cX9_derivedTime 2 = .ok (.invokevirtual 195, 3) := by decide +kernel
theorem dX9_derivedTime_5 : decode cX9_derivedTime 5 = .ok (.getfield 172, 3) := by decide +kernel
theorem dX9_derivedTime_8 : decode cX9_derivedTime 8 = .ok (.ireturn, 1) := by decide +kernel
set_option maxRecDepth 20000 in
theorem ggX9_matches_X8_syncWordsAt : GoodIn wsX9_matches wsX8_syncWordsAt := goodIn_r _ [8, 9, 16, 17, 18, 19, 20, 21, 22] (by decide +kernel) (by decide +kernel)
set_option maxRecDepth 20000 in
theorem gX9_matches_X8_syncWordsAt : GoodIn wsX9_matches (wsV RX9 199 RX8 yX8_syncWordsAt wsX8_syncWordsAt) := goodIn_app (goodIn_of _ (by decide +kernel)) ggX9_matches_X8_syncWordsAt
theorem dX9_matches_0 : decode cX9_matches 0 = .ok (.iload_n 1, 1) := by decide +kernel
theorem dX9_matches_1 : decode cX9_matches 1 = .ok (.ifCond .lt 9, 3) := by decide +kernel
theorem dX9_matches_4 : decode cX9_matches 4 = .ok (.iload_n 1, 1) := by decide +kernel
theorem dX9_matches_5 : decode cX9_matches 5 = .ok (.bipush 64, 2) := by decide +kernel
theorem dX9_matches_7 : decode cX9_matches 7 = .ok (.if_icmp .lt 11, 3) := by decide +kernel
theorem dX9_matches_10 : decode cX9_matches 10 = .ok (.new 55, 3) := by decide +kernel
theorem dX9_matches_13 : decode cX9_matches 13 = .ok (.dup, 1) := by decide +kernel
theorem dX9_matches_14 : decode cX9_matches 14 = .ok (.invokespecial 57, 3) := by decide +kernel
theorem dX9_matches_17 : decode cX9_matches 17 = .ok (.athrow, 1) := by decide +kernel
theorem dX9_matches_18 : decode cX9_matches 18 = .ok (.aload_n 0, 1) := by decide +kernel
theorem dX9_matches_19 : decode cX9_matches 19 = .ok (.getfield 33, 3) := by decide +kernel
theorem dX9_matches_22 : decode cX9_matches 22 = .ok (.iload_n 1, 1) := by decide +kernel
theorem dX9_matches_23 : decode cX9_matches 23 = .ok (.invokevirtual 199, 3) := by decide +kernel
theorem dX9_matches_26 : decode cX9_matches 26 = .ok (.ireturn, 1) := by decide +kernel
set_option maxRecDepth 20000 in
theorem ggX9_bestOffset_X8_syncWordsAt : GoodIn wsX9_bestOffset wsX8_syncWordsAt := goodIn_r _ [6, 7, 14, 15, 16, 17, 18, 19, 20] (by decide +kernel) (by decide +kernel)
set_option maxRecDepth 20000 in
theorem gX9_bestOffset_X8_syncWordsAt : GoodIn wsX9_bestOffset (wsV RX9 199 RX8 yX8_syncWordsAt wsX8_syncWordsAt) := goodIn_app (goodIn_of _ (by decide +kernel)) ggX9_bestOffset_X8_syncWordsAt
theorem dX9_bestOffset_0 : decode cX9_bestOffset 0 = .ok (.iconst 0, 1) := by decide +kernel
theorem dX9_bestOffset_1 : decode cX9_bestOffset 1 = .ok (.istore_n 1, 1) := by decide +kernel
theorem dX9_bestOffset_2 : decode cX9_bestOffset 2 = .ok (.iconst 1, 1) := by decide +kernel
theorem dX9_bestOffset_3 : decode cX9_bestOffset 3 = .ok (.istore_n 2, 1) := by decide +kernel
theorem dX9_bestOffset_4 : decode cX9_bestOffset 4 = .ok (.iload_n 2, 1) := by decide +kernel
theorem dX9_bestOffset_5 : decode cX9_bestOffset 5 = .ok (.bipush 64, 2) := by decide +kernel
theorem dX9_bestOffset_7 : decode cX9_bestOffset 7 = .ok (.if_icmp .ge 30, 3) := by decide +kernel
theorem dX9_bestOffset_10 : decode cX9_bestOffset 10 = .ok (.aload_n 0, 1) := by decide +kernel
theorem dX9_bestOffset_11 : decode cX9_bestOffset 11 = .ok (.getfield 33, 3) := by decide +kernel
theorem dX9_bestOffset_14 : decode cX9_bestOffset 14 = .ok (.iload_n 2, 1) := by decide +kernel
theorem dX9_bestOffset_15 : decode cX9_bestOffset 15 = .ok (.invokevirtual 199, 3) := by decide +kernel
theorem dX9_bestOffset_18 : decode cX9_bestOffset 18 = .ok (.aload_n 0, 1) := by decide +kernel
theorem dX9_bestOffset_19 : decode cX9_bestOffset 19 = .ok (.getfield 33, 3) := by decide +kernel
theorem dX9_bestOffset_22 : decode cX9_bestOffset 22 = .ok (.iload_n 1, 1) := by decide +kernel
theorem dX9_bestOffset_23 : decode cX9_bestOffset 23 = .ok (.invokevirtual 199, 3) := by decide +kernel
theorem dX9_bestOffset_26 : decode cX9_bestOffset 26 = .ok (.if_icmp .le 5, 3) := by decide +kernel
theorem dX9_bestOffset_29 : decode cX9_bestOffset 29 = .ok (.iload_n 2, 1) := by decide +kernel
theorem dX9_bestOffset_30 : decode cX9_bestOffset 30 = .ok (.istore_n 1, 1) := by decide +kernel
theorem dX9_bestOffset_31 : decode cX9_bestOffset 31 = .ok (.iinc 2 1, 3) := by decide +kernel
theorem dX9_bestOffset_34 : decode cX9_bestOffset 34 = .ok (.goto (-30), 3) := by decide +kernel
theorem dX9_bestOffset_37 : decode cX9_bestOffset 37 = .ok (.iload_n 1, 1) := by decide +kernel
theorem dX9_bestOffset_38 : decode cX9_bestOffset 38 = .ok (.ireturn, 1) := by decide +kernel
theorem dX9_isPointAllowed_0 : decode cX9_isPointAllowed 0 = .ok (.iload_n 1, 1) := by decide +kernel
theorem dX9_isPointAllowed_1 : decode cX9_isPointAllowed 1 = .ok (.ifCond .lt 8, 3) := by decide +kernel
theorem dX9_isPointAllowed_4 : decode cX9_isPointAllowed 4 = .ok (.iload_n 1, 1) := by decide +kernel
theorem dX9_isPointAllowed_5 : decode cX9_isPointAllowed 5 = .ok (.iconst 3, 1) := by decide +kernel
theorem dX9_isPointAllowed_6 : decode cX9_isPointAllowed 6 = .ok (.if_icmp .le 5, 3) := by decide +kernel
theorem dX9_isPointAllowed_9 : decode cX9_isPointAllowed 9 = .ok (.iconst 0, 1) := by decide +kernel
theorem dX9_isPointAllowed_10 : decode cX9_isPointAllowed 10 = .ok (.ireturn, 1) := by decide +kernel
theorem dX9_isPointAllowed_11 : decode cX9_isPointAllowed 11 = .ok (.iload_n 1, 1) := by decide +kernel
theorem dX9_isPointAllowed_12 : decode cX9_isPointAllowed 12 = .ok (.ifCond .ne 7, 3) := by decide +kernel
theorem dX9_isPointAllowed_15 : decode cX9_isPointAllowed 15 = .ok (.iconst 1, 1) := by decide +kernel
theorem dX9_isPointAllowed_16 : decode cX9_isPointAllowed 16 = .ok (.goto 4, 3) := by decide +kernel
theorem dX9_isPointAllowed_19 : decode cX9_isPointAllowed 19 = .ok (.iconst 2, 1) := by decide +kernel
theorem dX9_isPointAllowed_20 : decode cX9_isPointAllowed 20 = .ok (.istore 4, 2) := by decide +kernel
theorem dX9_isPointAllowed_22 : decode cX9_isPointAllowed 22 = .ok (.iload_n 0, 1) := by decide +kernel
theorem dX9_isPointAllowed_23 : decode cX9_isPointAllowed 23 = .ok (.iload 4, 2) := by decide +kernel
theorem dX9_isPointAllowed_25 : decode cX9_isPointAllowed 25 = .ok (.if_icmp .lt 9, 3) := by decide +kernel
theorem dX9_isPointAllowed_28 : decode cX9_isPointAllowed 28 = .ok (.iload_n 0, 1) := by decide +kernel
theorem dX9_isPointAllowed_29 : decode cX9_isPointAllowed 29 = .ok (.bipush 12, 2) := by decide +kernel
theorem dX9_isPointAllowed_31 : decode cX9_isPointAllowed 31 = .ok (.if_icmp .le 5, 3) := by decide +kernel
theorem dX9_isPointAllowed_34 : decode cX9_isPointAllowed 34 = .ok (.iconst 0, 1) := by decide +kernel
theorem dX9_isPointAllowed_35 : decode cX9_isPointAllowed 35 = .ok (.ireturn, 1) := by decide +kernel
theorem dX9_isPointAllowed_36 : decode cX9_isPointAllowed 36 = .ok (.iload_n 2, 1) := by decide +kernel
theorem dX9_isPointAllowed_37 : decode cX9_isPointAllowed 37 = .ok (.iconst 1, 1) := by decide +kernel
theorem dX9_isPointAllowed_38 : decode cX9_isPointAllowed 38 = .ok (.if_icmp .eq 17, 3) := by decide +kernel
theorem dX9_isPointAllowed_41 : decode cX9_isPointAllowed 41 = .ok (.iload_n 3, 1) := by decide +kernel
theorem dX9_isPointAllowed_42 : decode cX9_isPointAllowed 42 = .ok (.ifCond .ne 17, 3) := by decide +kernel
theorem dX9_isPointAllowed_45 : decode cX9_isPointAllowed 45 = .ok (.iload_n 2, 1) := by decide +kernel
theorem dX9_isPointAllowed_46 : decode cX9_isPointAllowed 46 = .ok (.iconst 2, 1) := by decide +kernel
theorem dX9_isPointAllowed_47 : decode cX9_isPointAllowed 47 = .ok (.if_icmp .eq 8, 3) := by decide +kernel
theorem dX9_isPointAllowed_50 : decode cX9_isPointAllowed 50 = .ok (.iload_n 2, 1) := by decide +kernel
theorem dX9_isPointAllowed_51 : decode cX9_isPointAllowed 51 = .ok (.iconst 4, 1) := by decide +kernel
theorem dX9_isPointAllowed_52 : decode cX9_isPointAllowed 52 = .ok (.if_icmp .ne 7, 3) := by decide +kernel
theorem dX9_isPointAllowed_55 : decode cX9_isPointAllowed 55 = .ok (.iconst 1, 1) := by decide +kernel
theorem dX9_isPointAllowed_56 : decode cX9_isPointAllowed 56 = .ok (.goto 4, 3) := by decide +kernel
theorem dX9_isPointAllowed_59 : decode cX9_isPointAllowed 59 = .ok (.iconst 0, 1) := by decide +kernel
theorem dX9_isPointAllowed_60 : decode cX9_isPointAllowed 60 = .ok (.ireturn, 1) := by decide +kernel
theorem dX9_isDerived_0 : decode cX9_isDerived 0 = .ok (.iload_n 0, 1) := by decide +kernel
theorem dX9_isDerived_1 : decode cX9_isDerived 1 = .ok (.ifCond .lt 13, 3) := by decide +kernel
theorem dX9_isDerived_4 : decode cX9_isDerived 4 = .ok (.iload_n 0, 1) := by decide +kernel
theorem dX9_isDerived_5 : decode cX9_isDerived 5 = .ok (.bipush 8, 2) := by decide +kernel
theorem dX9_isDerived_7 : decode cX9_isDerived 7 = .ok (.if_icmp .ge 7, 3) := by decide +kernel
theorem dX9_isDerived_10 : decode cX9_isDerived 10 = .ok (.iconst 1, 1) := by decide +kernel
theorem dX9_isDerived_11 : decode cX9_isDerived 11 = .ok (.goto 4, 3) := by decide +kernel
theorem dX9_isDerived_14 : decode cX9_isDerived 14 = .ok (.iconst 0, 1) := by decide +kernel
theorem dX9_isDerived_15 : decode cX9_isDerived 15 = .ok (.ireturn, 1) := by decide +kernel
set_option maxRecDepth 20000 in
theorem ggX9_isOperand_X9_isDerived : GoodIn wsX9_isOperand wsX9_isDerived := goodIn_r _ [4] (by decide +kernel) (by decide +kernel)
set_option maxRecDepth 20000 in
theorem gX9_isOperand_X9_isDerived : GoodIn wsX9_isOperand (va_wsS RX9 181 yX9_isDerived wsX9_isDerived) := goodIn_app (goodIn_of _ (by decide +kernel)) ggX9_isOperand_X9_isDerived
theorem dX9_isOperand_0 : decode cX9_isOperand 0 = .ok (.iload_n 0, 1) := by decide +kernel
theorem dX9_isOperand_1 : decode cX9_isOperand 1 = .ok (.ifCond .lt 9, 3) := by decide +kernel
theorem dX9_isOperand_4 : decode cX9_isOperand 4 = .ok (.iload_n 0, 1) := by decide +kernel
theorem dX9_isOperand_5 : decode cX9_isOperand 5 = .ok (.bipush 12, 2) := by decide +kernel
theorem dX9_isOperand_7 : decode cX9_isOperand 7 = .ok (.if_icmp .lt 13, 3) := by decide +kernel
theorem dX9_isOperand_10 : decode cX9_isOperand 10 = .ok (.iload_n 0, 1) := by decide +kernel
theorem dX9_isOperand_11 : decode cX9_isOperand 11 = .ok (.bipush 100, 2) := by decide +kernel
theorem dX9_isOperand_13 : decode cX9_isOperand 13 = .ok (.isub, 1) := by decide +kernel
theorem dX9_isOperand_14 : decode cX9_isOperand 14 = .ok (.invokestatic 181, 3) := by decide +kernel
theorem dX9_isOperand_17 : decode cX9_isOperand 17 = .ok (.ifCond .eq 7, 3) := by decide +kernel
theorem dX9_isOperand_20 : decode cX9_isOperand 20 = .ok (.iconst 1, 1) := by decide +kernel
theorem dX9_isOperand_21 : decode cX9_isOperand 21 = .ok (.goto 4, 3) := by decide +kernel
theorem dX9_isOperand_24 : decode cX9_isOperand 24 = .ok (.iconst 0, 1) := by decide +kernel
theorem dX9_isOperand_25 : decode cX9_isOperand 25 = .ok (.ireturn, 1) := by decide +kernel
set_option maxRecDepth 20000 in
theorem ggX9_existingPoint_X5_at : GoodIn wsX9_existingPoint wsX5_at := goodIn_r _ [8, 9, 10, 17, 18, 19] (by decide +kernel) (by decide +kernel)
set_option maxRecDepth 20000 in
theorem gX9_existingPoint_X5_at : GoodIn wsX9_existingPoint (wsV RX9 202 RX5 yX5_at wsX5_at) := goodIn_app (goodIn_of _ (by decide +kernel)) ggX9_existingPoint_X5_at
theorem dX9_existingPoint_0 : decode cX9_existingPoint 0 = .ok (.aload_n 0, 1) := by decide +kernel
theorem dX9_existingPoint_1 : decode cX9_existingPoint 1 = .ok (.getfield 10, 3) := by decide +kernel
theorem dX9_existingPoint_4 : decode cX9_existingPoint 4 = .ok (.iload_n 1, 1) := by decide +kernel
theorem dX9_existingPoint_5 : decode cX9_existingPoint 5 = .ok (.invokevirtual 202, 3) := by decide +kernel
theorem dX9_existingPoint_8 : decode cX9_existingPoint 8 = .ok (.astore_n 2, 1) := by decide +kernel
theorem dX9_existingPoint_9 : decode cX9_existingPoint 9 = .ok (.aload_n 2, 1) := by decide +kernel
theorem dX9_existingPoint_10 : decode cX9_existingPoint 10 = .ok (.ifnonnull 11, 3) := by decide +kernel
theorem dX9_existingPoint_13 : decode cX9_existingPoint 13 = .ok (.new 107, 3) := by decide +kernel
theorem dX9_existingPoint_16 : decode cX9_existingPoint 16 = .ok (.dup, 1) := by decide +kernel
theorem dX9_existingPoint_17 : decode cX9_existingPoint 17 = .ok (.invokespecial 109, 3) := by decide +kernel
theorem dX9_existingPoint_20 : decode cX9_existingPoint 20 = .ok (.athrow, 1) := by decide +kernel
theorem dX9_existingPoint_21 : decode cX9_existingPoint 21 = .ok (.aload_n 2, 1) := by decide +kernel
theorem dX9_existingPoint_22 : decode cX9_existingPoint 22 = .ok (.areturn, 1) := by decide +kernel
theorem dX9_latestOf_0 : decode cX9_latestOf 0 = .ok (.aload_n 0, 1) := by decide +kernel
theorem dX9_latestOf_1 : decode cX9_latestOf 1 = .ok (.getfield 205, 3) := by decide +kernel
theorem dX9_latestOf_4 : decode cX9_latestOf 4 = .ok (.getfield 208, 3) := by decide +kernel
theorem dX9_latestOf_7 : decode cX9_latestOf 7 = .ok (.ifCond .ne 11, 3) := by decide +kernel
theorem dX9_latestOf_10 : decode cX9_latestOf 10 = .ok (.new 157, 3) := by decide +kernel
theorem dX9_latestOf_13 : decode cX9_latestOf 13 = .ok (.dup, 1) := by decide +kernel
theorem dX9_latestOf_14 : decode cX9_latestOf 14 = .ok (.invokespecial 159, 3) := by decide +kernel
theorem dX9_latestOf_17 : decode cX9_latestOf 17 = .ok (.athrow, 1) := by decide +kernel
theorem dX9_latestOf_18 : decode cX9_latestOf 18 = .ok (.aload_n 0, 1) := by decide +kernel
theorem dX9_latestOf_19 : decode cX9_latestOf 19 = .ok (.getfield 205, 3) := by decide +kernel
theorem dX9_latestOf_22 : decode cX9_latestOf 22 = .ok (.areturn, 1) := by decide +kernel
set_option maxRecDepth 20000 in
theorem ggX9_resultOf_X9_isDerived : GoodIn wsX9_resultOf wsX9_isDerived := goodIn_r _ [10] (by decide +kernel) (by decide +kernel)
set_option maxRecDepth 20000 in
theorem gX9_resultOf_X9_isDerived : GoodIn wsX9_resultOf (va_wsS RX9 181 yX9_isDerived wsX9_isDerived) := goodIn_app (goodIn_of _ (by decide +kernel)) ggX9_resultOf_X9_isDerived
set_option maxRecDepth 20000 in
theorem ggX9_resultOf_X2_compute : GoodIn wsX9_resultOf wsX2_compute := goodIn_r _ [15, 16, 17, 18, 19, 20, 21, 22, 23, 24, 25, 14, 26, 27, 28, 29, 30, 31, 32, 33, 34, 35, 36, 37, 38, 39, 40, 41, 42, 43, 44, 45, 46, 47, 48, 49, 50, 51, 52, 53, 54, 55, 56, 57, 58, 59, 60, 61, 62, 63, 64, 65, 66, 67, 68, 69, 70, 80, 81, 82, 83, 84, 85, 77, 78, 79, 86, 87, 88, 89, 90, 91, 92, 93, 94, 95, 96, 97, 98] (by decide +kernel) (by decide +kernel)
set_option maxRecDepth 20000 in
theorem gX9_resultOf_X2_compute : GoodIn wsX9_resultOf (wsV RX9 212 RX2 yX2_compute wsX2_compute) := goodIn_app (goodIn_of _ (by decide +kernel)) ggX9_resultOf_X2_compute
theorem dX9_resultOf_0 : decode cX9_resultOf 0 = .ok (.iload_n 1, 1) := by decide +kernel
theorem dX9_resultOf_1 : decode cX9_resultOf 1 = .ok (.invokestatic 181, 3) := by decide +kernel
theorem dX9_resultOf_4 : decode cX9_resultOf 4 = .ok (.ifCond .ne 11, 3) := by decide +kernel
theorem dX9_resultOf_7 : decode cX9_resultOf 7 = .ok (.new 55, 3) := by decide +kernel
theorem dX9_resultOf_10 : decode cX9_resultOf 10 = .ok (.dup, 1) := by decide +kernel
theorem dX9_resultOf_11 : decode cX9_resultOf 11 = .ok (.invokespecial 57, 3) := by decide +kernel
theorem dX9_resultOf_14 : decode cX9_resultOf 14 = .ok (.athrow, 1) := by decide +kernel
theorem dX9_resultOf_15 : decode cX9_resultOf 15 = .ok (.aload_n 0, 1) := by decide +kernel
theorem dX9_resultOf_16 : decode cX9_resultOf 16 = .ok (.getfield 47, 3) := by decide +kernel
theorem dX9_resultOf_19 : decode cX9_resultOf 19 = .ok (.iload_n 1, 1) := by decide +kernel
theorem dX9_resultOf_20 : decode cX9_resultOf 20 = .ok (.aload_n 0, 1) := by decide +kernel
theorem dX9_resultOf_21 : decode cX9_resultOf 21 = .ok (.getfield 10, 3) := by decide +kernel
theorem dX9_resultOf_24 : decode cX9_resultOf 24 = .ok (.invokevirtual 212, 3) := by decide +kernel
theorem dX9_resultOf_27 : decode cX9_resultOf 27 = .ok (.astore_n 2, 1) := by decide +kernel
theorem dX9_resultOf_28 : decode cX9_resultOf 28 = .ok (.aload_n 2, 1) := by decide +kernel
theorem dX9_resultOf_29 : decode cX9_resultOf 29 = .ok (.ifnull 10, 3) := by decide +kernel
theorem dX9_resultOf_32 : decode cX9_resultOf 32 = .ok (.aload_n 2, 1) := by decide +kernel
theorem dX9_resultOf_33 : decode cX9_resultOf 33 = .ok (.getfield 208, 3) := by decide +kernel
theorem dX9_resultOf_36 : decode cX9_resultOf 36 = .ok (.ifCond .ne 11, 3) := by decide +kernel
theorem dX9_resultOf_39 : decode cX9_resultOf 39 = .ok (.new 157, 3) := by decide +kernel
theorem dX9_resultOf_42 : decode cX9_resultOf 42 = .ok (.dup, 1) := by decide +kernel
theorem dX9_resultOf_43 : decode cX9_resultOf 43 = .ok (.invokespecial 159, 3) := by decide +kernel
theorem dX9_resultOf_46 : decode cX9_resultOf 46 = .ok (.athrow, 1) := by decide +kernel
theorem dX9_resultOf_47 : decode cX9_resultOf 47 = .ok (.aload_n 2, 1) := by decide +kernel
theorem dX9_resultOf_48 : decode cX9_resultOf 48 = .ok (.areturn, 1) := by decide +kernel
theorem dJ6_bitCount_0f7a4_0 : decode cJ6_bitCount_0f7a4 0 = .ok (.iload_n 0, 1) := by decide +kernel
theorem dJ6_bitCount_0f7a4_1 : decode cJ6_bitCount_0f7a4 1 = .ok (.iload_n 0, 1) := by decide +kernel
theorem dJ6_bitCount_0f7a4_2 : decode cJ6_bitCount_0f7a4 2 = .ok (.iconst 1, 1) := by decide +kernel
theorem dJ6_bitCount_0f7a4_3 : decode cJ6_bitCount_0f7a4 3 = .ok (.iushr, 1) := by decide +kernel
theorem dJ6_bitCount_0f7a4_4 : decode cJ6_bitCount_0f7a4 4 = .ok (.ldc_w 265, 3) := by decide +kernel
theorem dJ6_bitCount_0f7a4_7 : decode cJ6_bitCount_0f7a4 7 = .ok (.iand, 1) := by decide +kernel
theorem dJ6_bitCount_0f7a4_8 : decode cJ6_bitCount_0f7a4 8 = .ok (.isub, 1) := by decide +kernel
theorem dJ6_bitCount_0f7a4_9 : decode cJ6_bitCount_0f7a4 9 = .ok (.istore_n 0, 1) := by decide +kernel
theorem dJ6_bitCount_0f7a4_10 : decode cJ6_bitCount_0f7a4 10 = .ok (.iload_n 0, 1) := by decide +kernel
theorem dJ6_bitCount_0f7a4_11 : decode cJ6_bitCount_0f7a4 11 = .ok (.ldc_w 266, 3) := by decide +kernel
theorem dJ6_bitCount_0f7a4_14 : decode cJ6_bitCount_0f7a4 14 = .ok (.iand, 1) := by decide +kernel
theorem dJ6_bitCount_0f7a4_15 : decode cJ6_bitCount_0f7a4 15 = .ok (.iload_n 0, 1) := by decide +kernel
theorem dJ6_bitCount_0f7a4_16 : decode cJ6_bitCount_0f7a4 16 = .ok (.iconst 2, 1) := by decide +kernel
theorem dJ6_bitCount_0f7a4_17 : decode cJ6_bitCount_0f7a4 17 = .ok (.iushr, 1) := by decide +kernel
theorem dJ6_bitCount_0f7a4_18 : decode cJ6_bitCount_0f7a4 18 = .ok (.ldc_w 266, 3) := by decide +kernel
theorem dJ6_bitCount_0f7a4_21 : decode cJ6_bitCount_0f7a4 21 = .ok (.iand, 1) := by decide +kernel
theorem dJ6_bitCount_0f7a4_22 : decode cJ6_bitCount_0f7a4 22 = .ok (.iadd, 1) := by decide +kernel
theorem dJ6_bitCount_0f7a4_23 : decode cJ6_bitCount_0f7a4 23 = .ok (.istore_n 0, 1) := by decide +kernel
theorem dJ6_bitCount_0f7a4_24 : decode cJ6_bitCount_0f7a4 24 = .ok (.iload_n 0, 1) := by decide +kernel
theorem dJ6_bitCount_0f7a4_25 : decode cJ6_bitCount_0f7a4 25 = .ok (.iload_n 0, 1) := by decide +kernel
theorem dJ6_bitCount_0f7a4_26 : decode cJ6_bitCount_0f7a4 26 = .ok (.iconst 4, 1) := by decide +kernel
theorem dJ6_bitCount_0f7a4_27 : decode cJ6_bitCount_0f7a4 27 = .ok (.iushr, 1) := by decide +kernel
theorem dJ6_bitCount_0f7a4_28 : decode cJ6_bitCount_0f7a4 28 = .ok (.iadd, 1) := by decide +kernel
theorem dJ6_bitCount_0f7a4_29 : decode cJ6_bitCount_0f7a4 29 = .ok (.ldc_w 267, 3) := by decide +kernel
theorem dJ6_bitCount_0f7a4_32 : decode cJ6_bitCount_0f7a4 32 = .ok (.iand, 1) := by decide +kernel
theorem dJ6_bitCount_0f7a4_33 : decode cJ6_bitCount_0f7a4 33 = .ok (.istore_n 0, 1) := by decide +kernel
theorem dJ6_bitCount_0f7a4_34 : decode cJ6_bitCount_0f7a4 34 = .ok (.iload_n 0, 1) := by decide +kernel
theorem dJ6_bitCount_0f7a4_35 : decode cJ6_bitCount_0f7a4 35 = .ok (.iload_n 0, 1) := by decide +kernel
theorem dJ6_bitCount_0f7a4_36 : decode cJ6_bitCount_0f7a4 36 = .ok (.bipush 8, 2) := by decide +kernel
theorem dJ6_bitCount_0f7a4_38 : decode cJ6_bitCount_0f7a4 38 = .ok (.iushr, 1) := by decide +kernel
theorem dJ6_bitCount_0f7a4_39 : decode cJ6_bitCount_0f7a4 39 = .ok (.iadd, 1) := by decide +kernel
theorem dJ6_bitCount_0f7a4_40 : decode cJ6_bitCount_0f7a4 40 = .ok (.istore_n 0, 1) := by decide +kernel
theorem dJ6_bitCount_0f7a4_41 : decode cJ6_bitCount_0f7a4 41 = .ok (.iload_n 0, 1) := by decide +kernel
theorem dJ6_bitCount_0f7a4_42 : decode cJ6_bitCount_0f7a4 42 = .ok (.iload_n 0, 1) := by decide +kernel
theorem dJ6_bitCount_0f7a4_43 : decode cJ6_bitCount_0f7a4 43 = .ok (.bipush 16, 2) := by decide +kernel
theorem dJ6_bitCount_0f7a4_45 : decode cJ6_bitCount_0f7a4 45 = .ok (.iushr, 1) := by decide +kernel
theorem dJ6_bitCount_0f7a4_46 : decode cJ6_bitCount_0f7a4 46 = .ok (.iadd, 1) := by decide +kernel
theorem dJ6_bitCount_0f7a4_47 : decode cJ6_bitCount_0f7a4 47 = .ok (.istore_n 0, 1) := by decide +kernel
theorem dJ6_bitCount_0f7a4_48 : decode cJ6_bitCount_0f7a4 48 = .ok (.iload_n 0, 1) := by decide +kernel
theorem dJ6_bitCount_0f7a4_49 : decode cJ6_bitCount_0f7a4 49 = .ok (.bipush 63, 2) := by decide +kernel
theorem dJ6_bitCount_0f7a4_51 : decode cJ6_bitCount_0f7a4 51 = .ok (.iand, 1) := by decide +kernel
theorem dJ6_bitCount_0f7a4_52 : decode cJ6_bitCount_0f7a4 52 = .ok (.ireturn, 1) := by decide +kernel
theorem dJ13_bitCount_95d88_0 : decode cJ13_bitCount_95d88 0 = .ok (.lload_n 0, 1) := by decide +kernel
theorem dJ13_bitCount_95d88_1 : decode cJ13_bitCount_95d88 1 = .ok (.lload_n 0, 1) := by decide +kernel
theorem dJ13_bitCount_95d88_2 : decode cJ13_bitCount_95d88 2 = .ok (.iconst 1, 1) := by decide +kernel
theorem dJ13_bitCount_95d88_3 : decode cJ13_bitCount_95d88 3 = .ok (.lushr, 1) := by decide +kernel
theorem dJ13_bitCount_95d88_4 : decode cJ13_bitCount_95d88 4 = .ok (.ldc2_w 314, 3) := by decide +kernel
theorem dJ13_bitCount_95d88_7 : decode cJ13_bitCount_95d88 7 = .ok (.land, 1) := by decide +kernel
theorem dJ13_bitCount_95d88_8 : decode cJ13_bitCount_95d88 8 = .ok (.lsub, 1) := by decide +kernel
theorem dJ13_bitCount_95d88_9 : decode cJ13_bitCount_95d88 9 = .ok (.lstore_n 0, 1) := by decide +kernel
theorem dJ13_bitCount_95d88_10 : decode cJ13_bitCount_95d88 10 = .ok (.lload_n 0, 1) := by decide +kernel
theorem dJ13_bitCount_95d88_11 : decode cJ13_bitCount_95d88 11 = .ok (.ldc2_w 316, 3) := by decide +kernel
theorem dJ13_bitCount_95d88_14 : decode cJ13_bitCount_95d88 14 = .ok (.land, 1) := by decide +kernel
theorem dJ13_bitCount_95d88_15 : decode cJ13_bitCount_95d88 15 = .ok (.lload_n 0, 1) := by decide +kernel
theorem dJ13_bitCount_95d88_16 : decode cJ13_bitCount_95d88 16 = .ok (.iconst 2, 1) := by decide +kernel
theorem dJ13_bitCount_95d88_17 : decode cJ13_bitCount_95d88 17 = .ok (.lushr, 1) := by decide +kernel
theorem dJ13_bitCount_95d88_18 : decode cJ13_bitCount_95d88 18 = .ok (.ldc2_w 316, 3) := by decide +kernel
theorem dJ13_bitCount_95d88_21 : decode cJ13_bitCount_95d88 21 = .ok (.land, 1) := by decide +kernel
theorem dJ13_bitCount_95d88_22 : decode cJ13_bitCount_95d88 22 = .ok (.ladd, 1) := by decide +kernel
theorem dJ13_bitCount_95d88_23 : decode cJ13_bitCount_95d88 23 = .ok (.lstore_n 0, 1) := by decide +kernel
theorem dJ13_bitCount_95d88_24 : decode cJ13_bitCount_95d88 24 = .ok (.lload_n 0, 1) := by decide +kernel
theorem dJ13_bitCount_95d88_25 : decode cJ13_bitCount_95d88 25 = .ok (.lload_n 0, 1) := by decide +kernel
theorem dJ13_bitCount_95d88_26 : decode cJ13_bitCount_95d88 26 = .ok (.iconst 4, 1) := by decide +kernel
theorem dJ13_bitCount_95d88_27 : decode cJ13_bitCount_95d88 27 = .ok (.lushr, 1) := by decide +kernel
theorem dJ13_bitCount_95d88_28 : decode cJ13_bitCount_95d88 28 = .ok (.ladd, 1) := by decide +kernel
theorem dJ13_bitCount_95d88_29 : decode cJ13_bitCount_95d88 29 = .ok (.ldc2_w 318, 3) := by decide +kernel
theorem dJ13_bitCount_95d88_32 : decode cJ13_bitCount_95d88 32 = .ok (.land, 1) := by decide +kernel
theorem dJ13_bitCount_95d88_33 : decode cJ13_bitCount_95d88 33 = .ok (.lstore_n 0, 1) := by decide +kernel
theorem dJ13_bitCount_95d88_34 : decode cJ13_bitCount_95d88 34 = .ok (.lload_n 0, 1) := by decide +kernel
theorem dJ13_bitCount_95d88_35 : decode cJ13_bitCount_95d88 35 = .ok (.lload_n 0, 1) := by decide +kernel
theorem dJ13_bitCount_95d88_36 : decode cJ13_bitCount_95d88 36 = .ok (.bipush 8, 2) := by decide +kernel
theorem dJ13_bitCount_95d88_38 : decode cJ13_bitCount_95d88 38 = .ok (.lushr, 1) := by decide +kernel
theorem dJ13_bitCount_95d88_39 : decode cJ13_bitCount_95d88 39 = .ok (.ladd, 1) := by decide +kernel
theorem dJ13_bitCount_95d88_40 : decode cJ13_bitCount_95d88 40 = .ok (.lstore_n 0, 1) := by decide +kernel
theorem dJ13_bitCount_95d88_41 : decode cJ13_bitCount_95d88 41 = .ok (.lload_n 0, 1) := by decide +kernel
