theorem dX10_takes_142 : decode cX10_takes 142 = .ok (.iconst 0, 1) := by decide +kernel
theorem dX10_takes_143 : decode cX10_takes 143 = .ok (.ireturn, 1) := by decide +kernel
set_option maxRecDepth 20000 in
theorem ggX10_receive_X10_isIn : GoodIn wsX10_receive wsX10_isIn := goodIn_r _ [6] (by decide +kernel) (by decide +kernel)
set_option maxRecDepth 20000 in
theorem gX10_receive_X10_isIn : GoodIn wsX10_receive (va_wsS RX10 84 yX10_isIn wsX10_isIn) := goodIn_app (goodIn_of _ (by decide +kernel)) ggX10_receive_X10_isIn
set_option maxRecDepth 20000 in
theorem ggX10_receive_X10_can : GoodIn wsX10_receive wsX10_can := goodIn_r _ [10, 11, 67, 68, 69, 70, 71, 72, 73, 74, 75, 76, 77, 78, 79, 80, 81, 82, 83, 84, 85, 86, 87, 88, 89, 90, 91, 92, 93, 94, 95, 96, 97, 98, 99, 100, 101] (by decide +kernel) (by decide +kernel)
set_option maxRecDepth 20000 in
theorem gX10_receive_X10_can : GoodIn wsX10_receive (wsV RX10 107 RX10 yX10_can wsX10_can) := goodIn_app (goodIn_of _ (by decide +kernel)) ggX10_receive_X10_can
set_option maxRecDepth 20000 in
theorem ggX10_receive_X10_takes : GoodIn wsX10_receive wsX10_takes := goodIn_r _ [15, 16, 17, 18, 19, 20, 21, 22, 23, 24, 5, 25, 26, 27, 28, 29, 30, 31, 32, 33, 34, 35, 36, 37, 38, 39, 40, 41, 42, 43, 44, 45, 46, 47, 48, 49, 50, 51, 52, 53, 54, 55, 56, 57, 58, 59, 60, 61, 62, 67, 68, 69, 70, 71, 72, 73, 74, 75, 76, 77, 78, 79, 80, 81, 82, 83, 84, 85, 86, 87, 88, 89, 90, 91, 92, 93, 94, 95, 96, 97, 98, 99, 100, 101] (by decide +kernel) (by decide +kernel)
set_option maxRecDepth 20000 in
theorem gX10_receive_X10_takes : GoodIn wsX10_receive (wsV RX10 174 RX10 yX10_takes wsX10_takes) := goodIn_app (goodIn_of _ (by decide +kernel)) ggX10_receive_X10_takes
set_option maxRecDepth 20000 in
theorem ggX10_receive_X10_drop : GoodIn wsX10_receive wsX10_drop := goodIn_r _ [66, 1, 2, 67, 68, 69, 70, 71, 72, 73, 74, 75, 76, 77, 78, 79, 80, 81, 82, 83, 84, 85, 86, 87, 88, 89, 90, 91, 92, 93, 94, 95, 96, 97, 98, 99, 100, 101] (by decide +kernel) (by decide +kernel)
set_option maxRecDepth 20000 in
theorem gX10_receive_X10_drop : GoodIn wsX10_receive (wsV RX10 126 RX10 yX10_drop wsX10_drop) := goodIn_app (goodIn_of _ (by decide +kernel)) ggX10_receive_X10_drop
theorem dX10_receive_0 : decode cX10_receive 0 = .ok (.aload_n 0, 1) := by decide +kernel
theorem dX10_receive_1 : decode cX10_receive 1 = .ok (.iload_n 1, 1) := by decide +kernel
theorem dX10_receive_2 : decode cX10_receive 2 = .ok (.iconst 1, 1) := by decide +kernel
theorem dX10_receive_3 : decode cX10_receive 3 = .ok (.sipush 4096, 3) := by decide +kernel
theorem dX10_receive_6 : decode cX10_receive 6 = .ok (.invokestatic 84, 3) := by decide +kernel
theorem dX10_receive_9 : decode cX10_receive 9 = .ok (.ifCond .eq 7, 3) := by decide +kernel
theorem dX10_receive_12 : decode cX10_receive 12 = .ok (.iconst 0, 1) := by decide +kernel
theorem dX10_receive_13 : decode cX10_receive 13 = .ok (.goto 4, 3) := by decide +kernel
theorem dX10_receive_16 : decode cX10_receive 16 = .ok (.iconst 1, 1) := by decide +kernel
theorem dX10_receive_17 : decode cX10_receive 17 = .ok (.invokevirtual 107, 3) := by decide +kernel
theorem dX10_receive_20 : decode cX10_receive 20 = .ok (.ifCond .ne 5, 3) := by decide +kernel
theorem dX10_receive_23 : decode cX10_receive 23 = .ok (.iconst 0, 1) := by decide +kernel
theorem dX10_receive_24 : decode cX10_receive 24 = .ok (.ireturn, 1) := by decide +kernel
theorem dX10_receive_25 : decode cX10_receive 25 = .ok (.iload_n 1, 1) := by decide +kernel
theorem dX10_receive_26 : decode cX10_receive 26 = .ok (.aload_n 0, 1) := by decide +kernel
theorem dX10_receive_27 : decode cX10_receive 27 = .ok (.getfield 117, 3) := by decide +kernel
theorem dX10_receive_30 : decode cX10_receive 30 = .ok (.if_icmp .ge 7, 3) := by decide +kernel
theorem dX10_receive_33 : decode cX10_receive 33 = .ok (.iload_n 1, 1) := by decide +kernel
theorem dX10_receive_34 : decode cX10_receive 34 = .ok (.goto 7, 3) := by decide +kernel
theorem dX10_receive_37 : decode cX10_receive 37 = .ok (.aload_n 0, 1) := by decide +kernel
theorem dX10_receive_38 : decode cX10_receive 38 = .ok (.getfield 117, 3) := by decide +kernel
theorem dX10_receive_41 : decode cX10_receive 41 = .ok (.istore_n 2, 1) := by decide +kernel
theorem dX10_receive_42 : decode cX10_receive 42 = .ok (.iconst 0, 1) := by decide +kernel
theorem dX10_receive_43 : decode cX10_receive 43 = .ok (.istore_n 3, 1) := by decide +kernel
theorem dX10_receive_44 : decode cX10_receive 44 = .ok (.iconst 0, 1) := by decide +kernel
theorem dX10_receive_45 : decode cX10_receive 45 = .ok (.istore 4, 2) := by decide +kernel
theorem dX10_receive_47 : decode cX10_receive 47 = .ok (.iload 4, 2) := by decide +kernel
theorem dX10_receive_49 : decode cX10_receive 49 = .ok (.iload_n 2, 1) := by decide +kernel
theorem dX10_receive_50 : decode cX10_receive 50 = .ok (.if_icmp .ge 23, 3) := by decide +kernel
theorem dX10_receive_53 : decode cX10_receive 53 = .ok (.iload_n 3, 1) := by decide +kernel
theorem dX10_receive_54 : decode cX10_receive 54 = .ok (.aload_n 0, 1) := by decide +kernel
theorem dX10_receive_55 : decode cX10_receive 55 = .ok (.aload_n 0, 1) := by decide +kernel
theorem dX10_receive_56 : decode cX10_receive 56 = .ok (.getfield 34, 3) := by decide +kernel
theorem dX10_receive_59 : decode cX10_receive 59 = .ok (.iload 4, 2) := by decide +kernel
theorem dX10_receive_61 : decode cX10_receive 61 = .ok (.iaload, 1) := by decide +kernel
theorem dX10_receive_62 : decode cX10_receive 62 = .ok (.invokevirtual 174, 3) := by decide +kernel
theorem dX10_receive_65 : decode cX10_receive 65 = .ok (.iadd, 1) := by decide +kernel
theorem dX10_receive_66 : decode cX10_receive 66 = .ok (.istore_n 3, 1) := by decide +kernel
theorem dX10_receive_67 : decode cX10_receive 67 = .ok (.iinc 4 1, 3) := by decide +kernel
theorem dX10_receive_70 : decode cX10_receive 70 = .ok (.goto (-23), 3) := by decide +kernel
theorem dX10_receive_73 : decode cX10_receive 73 = .ok (.aload_n 0, 1) := by decide +kernel
theorem dX10_receive_74 : decode cX10_receive 74 = .ok (.iconst 0, 1) := by decide +kernel
theorem dX10_receive_75 : decode cX10_receive 75 = .ok (.iload_n 2, 1) := by decide +kernel
theorem dX10_receive_76 : decode cX10_receive 76 = .ok (.invokevirtual 126, 3) := by decide +kernel
theorem dX10_receive_79 : decode cX10_receive 79 = .ok (.iload_n 3, 1) := by decide +kernel
theorem dX10_receive_80 : decode cX10_receive 80 = .ok (.ireturn, 1) := by decide +kernel
theorem dX10_state_0 : decode cX10_state 0 = .ok (.aload_n 0, 1) := by decide +kernel
theorem dX10_state_1 : decode cX10_state 1 = .ok (.iconst 0, 1) := by decide +kernel
theorem dX10_state_2 : decode cX10_state 2 = .ok (.putfield 78, 3) := by decide +kernel
theorem dX10_state_5 : decode cX10_state 5 = .ok (.aload_n 0, 1) := by decide +kernel
theorem dX10_state_6 : decode cX10_state 6 = .ok (.getfield 151, 3) := by decide +kernel
theorem dX10_state_9 : decode cX10_state 9 = .ok (.ireturn, 1) := by decide +kernel
theorem dX10_taken_0 : decode cX10_taken 0 = .ok (.aload_n 0, 1) := by decide +kernel
theorem dX10_taken_1 : decode cX10_taken 1 = .ok (.iconst 0, 1) := by decide +kernel
theorem dX10_taken_2 : decode cX10_taken 2 = .ok (.putfield 78, 3) := by decide +kernel
theorem dX10_taken_5 : decode cX10_taken 5 = .ok (.aload_n 0, 1) := by decide +kernel
theorem dX10_taken_6 : decode cX10_taken 6 = .ok (.getfield 164, 3) := by decide +kernel
theorem dX10_taken_9 : decode cX10_taken 9 = .ok (.ireturn, 1) := by decide +kernel
theorem dX10_frames_0 : decode cX10_frames 0 = .ok (.aload_n 0, 1) := by decide +kernel
theorem dX10_frames_1 : decode cX10_frames 1 = .ok (.iconst 0, 1) := by decide +kernel
theorem dX10_frames_2 : decode cX10_frames 2 = .ok (.putfield 78, 3) := by decide +kernel
theorem dX10_frames_5 : decode cX10_frames 5 = .ok (.aload_n 0, 1) := by decide +kernel
theorem dX10_frames_6 : decode cX10_frames 6 = .ok (.getfield 145, 3) := by decide +kernel
theorem dX10_frames_9 : decode cX10_frames 9 = .ok (.ireturn, 1) := by decide +kernel
theorem dX10_lost_0 : decode cX10_lost 0 = .ok (.aload_n 0, 1) := by decide +kernel
theorem dX10_lost_1 : decode cX10_lost 1 = .ok (.iconst 0, 1) := by decide +kernel
theorem dX10_lost_2 : decode cX10_lost 2 = .ok (.putfield 78, 3) := by decide +kernel
theorem dX10_lost_5 : decode cX10_lost 5 = .ok (.aload_n 0, 1) := by decide +kernel
theorem dX10_lost_6 : decode cX10_lost 6 = .ok (.getfield 142, 3) := by decide +kernel
theorem dX10_lost_9 : decode cX10_lost 9 = .ok (.ireturn, 1) := by decide +kernel
theorem dX10_repeats_0 : decode cX10_repeats 0 = .ok (.aload_n 0, 1) := by decide +kernel
theorem dX10_repeats_1 : decode cX10_repeats 1 = .ok (.iconst 0, 1) := by decide +kernel
theorem dX10_repeats_2 : decode cX10_repeats 2 = .ok (.putfield 78, 3) := by decide +kernel
theorem dX10_repeats_5 : decode cX10_repeats 5 = .ok (.aload_n 0, 1) := by decide +kernel
theorem dX10_repeats_6 : decode cX10_repeats 6 = .ok (.getfield 139, 3) := by decide +kernel
theorem dX10_repeats_9 : decode cX10_repeats 9 = .ok (.ireturn, 1) := by decide +kernel
set_option maxRecDepth 20000 in
theorem ggX10_number_X10_can : GoodIn wsX10_number wsX10_can := goodIn_r _ [7, 8, 9, 10, 11, 12, 13, 14, 15, 16, 17, 18, 19, 20, 21, 22, 23, 24, 25, 26, 27, 28, 29, 30, 31, 32, 33, 34, 35, 36, 37, 38, 39, 40, 41, 42, 43] (by decide +kernel) (by decide +kernel)
set_option maxRecDepth 20000 in
theorem gX10_number_X10_can : GoodIn wsX10_number (wsV RX10 107 RX10 yX10_can wsX10_can) := goodIn_app (goodIn_of _ (by decide +kernel)) ggX10_number_X10_can
theorem dX10_number_0 : decode cX10_number 0 = .ok (.aload_n 0, 1) := by decide +kernel
theorem dX10_number_1 : decode cX10_number 1 = .ok (.aload_n 0, 1) := by decide +kernel
theorem dX10_number_2 : decode cX10_number 2 = .ok (.getfield 145, 3) := by decide +kernel
theorem dX10_number_5 : decode cX10_number 5 = .ok (.ifCond .ne 7, 3) := by decide +kernel
theorem dX10_number_8 : decode cX10_number 8 = .ok (.iconst 1, 1) := by decide +kernel
theorem dX10_number_9 : decode cX10_number 9 = .ok (.goto 4, 3) := by decide +kernel
theorem dX10_number_12 : decode cX10_number 12 = .ok (.iconst 0, 1) := by decide +kernel
theorem dX10_number_13 : decode cX10_number 13 = .ok (.invokevirtual 107, 3) := by decide +kernel
theorem dX10_number_16 : decode cX10_number 16 = .ok (.ifCond .eq 10, 3) := by decide +kernel
theorem dX10_number_19 : decode cX10_number 19 = .ok (.aload_n 0, 1) := by decide +kernel
theorem dX10_number_20 : decode cX10_number 20 = .ok (.getfield 136, 3) := by decide +kernel
theorem dX10_number_23 : decode cX10_number 23 = .ok (.goto 4, 3) := by decide +kernel
theorem dX10_number_26 : decode cX10_number 26 = .ok (.iconst 0, 1) := by decide +kernel
theorem dX10_number_27 : decode cX10_number 27 = .ok (.ireturn, 1) := by decide +kernel
set_option maxRecDepth 20000 in
theorem ggX10_hasSample_X10_isPoint : GoodIn wsX10_hasSample wsX10_isPoint := goodIn_r _ [6, 7, 8, 9, 5, 10, 16, 17, 18, 19, 20, 21, 22, 23, 24, 25, 26, 27, 28, 29, 30, 31, 32, 33, 34, 35, 36, 37, 38, 39, 40, 41, 42, 43, 44, 45, 46, 47, 48, 49, 50] (by decide +kernel) (by decide +kernel)
set_option maxRecDepth 20000 in
theorem gX10_hasSample_X10_isPoint : GoodIn wsX10_hasSample (wsV RX10 111 RX10 yX10_isPoint wsX10_isPoint) := goodIn_app (goodIn_of _ (by decide +kernel)) ggX10_hasSample_X10_isPoint
set_option maxRecDepth 20000 in
theorem ggX10_hasSample_X10_can : GoodIn wsX10_hasSample wsX10_can := goodIn_r _ [14, 15, 16, 17, 18, 19, 20, 21, 22, 23, 24, 25, 26, 27, 28, 29, 30, 31, 32, 33, 34, 35, 36, 37, 38, 39, 40, 41, 42, 43, 44, 45, 46, 47, 48, 49, 50] (by decide +kernel) (by decide +kernel)
set_option maxRecDepth 20000 in
theorem gX10_hasSample_X10_can : GoodIn wsX10_hasSample (wsV RX10 107 RX10 yX10_can wsX10_can) := goodIn_app (goodIn_of _ (by decide +kernel)) ggX10_hasSample_X10_can
theorem dX10_hasSample_0 : decode cX10_hasSample 0 = .ok (.aload_n 0, 1) := by decide +kernel
theorem dX10_hasSample_1 : decode cX10_hasSample 1 = .ok (.aload_n 0, 1) := by decide +kernel
theorem dX10_hasSample_2 : decode cX10_hasSample 2 = .ok (.iload_n 1, 1) := by decide +kernel
theorem dX10_hasSample_3 : decode cX10_hasSample 3 = .ok (.invokevirtual 111, 3) := by decide +kernel
theorem dX10_hasSample_6 : decode cX10_hasSample 6 = .ok (.ifCond .ne 7, 3) := by decide +kernel
theorem dX10_hasSample_9 : decode cX10_hasSample 9 = .ok (.iconst 1, 1) := by decide +kernel
theorem dX10_hasSample_10 : decode cX10_hasSample 10 = .ok (.goto 17, 3) := by decide +kernel
theorem dX10_hasSample_13 : decode cX10_hasSample 13 = .ok (.aload_n 0, 1) := by decide +kernel
theorem dX10_hasSample_14 : decode cX10_hasSample 14 = .ok (.getfield 46, 3) := by decide +kernel
theorem dX10_hasSample_17 : decode cX10_hasSample 17 = .ok (.iload_n 1, 1) := by decide +kernel
theorem dX10_hasSample_18 : decode cX10_hasSample 18 = .ok (.iaload, 1) := by decide +kernel
theorem dX10_hasSample_19 : decode cX10_hasSample 19 = .ok (.ifCond .ne 7, 3) := by decide +kernel
theorem dX10_hasSample_22 : decode cX10_hasSample 22 = .ok (.iconst 2, 1) := by decide +kernel
theorem dX10_hasSample_23 : decode cX10_hasSample 23 = .ok (.goto 4, 3) := by decide +kernel
theorem dX10_hasSample_26 : decode cX10_hasSample 26 = .ok (.iconst 0, 1) := by decide +kernel
theorem dX10_hasSample_27 : decode cX10_hasSample 27 = .ok (.invokevirtual 107, 3) := by decide +kernel
theorem dX10_hasSample_30 : decode cX10_hasSample 30 = .ok (.ireturn, 1) := by decide +kernel
set_option maxRecDepth 20000 in
theorem ggX10_value_X10_hasSample : GoodIn wsX10_value wsX10_hasSample := goodIn_r _ [6, 7, 8, 9, 10, 5, 11, 12, 13, 14, 15, 16, 17, 18, 19, 20, 21, 22, 23, 24, 25, 26, 27, 28, 29, 30, 31, 32, 33, 34, 35, 36, 37, 38, 39, 40, 41, 42, 43, 44, 45, 46, 47, 48, 49, 50, 51, 52, 53, 54, 55] (by decide +kernel) (by decide +kernel)
set_option maxRecDepth 20000 in
theorem gX10_value_X10_hasSample : GoodIn wsX10_value (wsV RX10 178 RX10 yX10_hasSample wsX10_hasSample) := goodIn_app (goodIn_of _ (by decide +kernel)) ggX10_value_X10_hasSample
theorem dX10_value_0 : decode cX10_value 0 = .ok (.aload_n 0, 1) := by decide +kernel
theorem dX10_value_1 : decode cX10_value 1 = .ok (.iload_n 1, 1) := by decide +kernel
theorem dX10_value_2 : decode cX10_value 2 = .ok (.invokevirtual 178, 3) := by decide +kernel
theorem dX10_value_5 : decode cX10_value 5 = .ok (.ifCond .eq 12, 3) := by decide +kernel
theorem dX10_value_8 : decode cX10_value 8 = .ok (.aload_n 0, 1) := by decide +kernel
theorem dX10_value_9 : decode cX10_value 9 = .ok (.getfield 40, 3) := by decide +kernel
theorem dX10_value_12 : decode cX10_value 12 = .ok (.iload_n 1, 1) := by decide +kernel
theorem dX10_value_13 : decode cX10_value 13 = .ok (.iaload, 1) := by decide +kernel
theorem dX10_value_14 : decode cX10_value 14 = .ok (.goto 4, 3) := by decide +kernel
theorem dX10_value_17 : decode cX10_value 17 = .ok (.iconst 0, 1) := by decide +kernel
theorem dX10_value_18 : decode cX10_value 18 = .ok (.ireturn, 1) := by decide +kernel
set_option maxRecDepth 20000 in
theorem ggX10_time_X10_hasSample : GoodIn wsX10_time wsX10_hasSample := goodIn_r _ [6, 7, 8, 9, 10, 5, 11, 12, 13, 14, 15, 16, 17, 18, 19, 20, 21, 22, 23, 24, 25, 26, 27, 28, 29, 30, 31, 32, 33, 34, 35, 36, 37, 38, 39, 40, 41, 42, 43, 44, 45, 46, 47, 48, 49, 50, 51, 52, 53, 54, 55] (by decide +kernel) (by decide +kernel)
set_option maxRecDepth 20000 in
theorem gX10_time_X10_hasSample : GoodIn wsX10_time (wsV RX10 178 RX10 yX10_hasSample wsX10_hasSample) := goodIn_app (goodIn_of _ (by decide +kernel)) ggX10_time_X10_hasSample
theorem dX10_time_0 : decode cX10_time 0 = .ok (.aload_n 0, 1) := by decide +kernel
theorem dX10_time_1 : decode cX10_time 1 = .ok (.iload_n 1, 1) := by decide +kernel
theorem dX10_time_2 : decode cX10_time 2 = .ok (.invokevirtual 178, 3) := by decide +kernel
theorem dX10_time_5 : decode cX10_time 5 = .ok (.ifCond .eq 12, 3) := by decide +kernel
theorem dX10_time_8 : decode cX10_time 8 = .ok (.aload_n 0, 1) := by decide +kernel
theorem dX10_time_9 : decode cX10_time 9 = .ok (.getfield 43, 3) := by decide +kernel
theorem dX10_time_12 : decode cX10_time 12 = .ok (.iload_n 1, 1) := by decide +kernel
theorem dX10_time_13 : decode cX10_time 13 = .ok (.iaload, 1) := by decide +kernel
theorem dX10_time_14 : decode cX10_time 14 = .ok (.goto 4, 3) := by decide +kernel
theorem dX10_time_17 : decode cX10_time 17 = .ok (.iconst 0, 1) := by decide +kernel
theorem dX10_time_18 : decode cX10_time 18 = .ok (.ireturn, 1) := by decide +kernel
set_option maxRecDepth 20000 in
theorem ggX10_samples_X10_isPoint : GoodIn wsX10_samples wsX10_isPoint := goodIn_r _ [6, 7, 8, 9, 5, 10, 16, 17, 18, 19, 20, 21, 22, 23, 24, 25, 26, 27, 28, 29, 30, 31, 32, 33, 34, 35, 36, 37, 38, 39, 40, 41, 42, 43, 44, 45, 46, 47, 48, 49, 50] (by decide +kernel) (by decide +kernel)
set_option maxRecDepth 20000 in
theorem gX10_samples_X10_isPoint : GoodIn wsX10_samples (wsV RX10 111 RX10 yX10_isPoint wsX10_isPoint) := goodIn_app (goodIn_of _ (by decide +kernel)) ggX10_samples_X10_isPoint
set_option maxRecDepth 20000 in
theorem ggX10_samples_X10_can : GoodIn wsX10_samples wsX10_can := goodIn_r _ [14, 15, 16, 17, 18, 19, 20, 21, 22, 23, 24, 25, 26, 27, 28, 29, 30, 31, 32, 33, 34, 35, 36, 37, 38, 39, 40, 41, 42, 43, 44, 45, 46, 47, 48, 49, 50] (by decide +kernel) (by decide +kernel)
set_option maxRecDepth 20000 in
theorem gX10_samples_X10_can : GoodIn wsX10_samples (wsV RX10 107 RX10 yX10_can wsX10_can) := goodIn_app (goodIn_of _ (by decide +kernel)) ggX10_samples_X10_can
theorem dX10_samples_0 : decode cX10_samples 0 = .ok (.aload_n 0, 1) := by decide +kernel
theorem dX10_samples_1 : decode cX10_samples 1 = .ok (.aload_n 0, 1) := by decide +kernel
theorem dX10_samples_2 : decode cX10_samples 2 = .ok (.iload_n 1, 1) := by decide +kernel
theorem dX10_samples_3 : decode cX10_samples 3 = .ok (.invokevirtual 111, 3) := by decide +kernel
theorem dX10_samples_6 : decode cX10_samples 6 = .ok (.ifCond .eq 7, 3) := by decide +kernel
theorem dX10_samples_9 : decode cX10_samples 9 = .ok (.iconst 0, 1) := by decide +kernel
theorem dX10_samples_10 : decode cX10_samples 10 = .ok (.goto 4, 3) := by decide +kernel
theorem dX10_samples_13 : decode cX10_samples 13 = .ok (.iconst 1, 1) := by decide +kernel
theorem dX10_samples_14 : decode cX10_samples 14 = .ok (.invokevirtual 107, 3) := by decide +kernel
theorem dX10_samples_17 : decode cX10_samples 17 = .ok (.ifCond .eq 12, 3) := by decide +kernel
theorem dX10_samples_20 : decode cX10_samples 20 = .ok (.aload_n 0, 1) := by decide +kernel
theorem dX10_samples_21 : decode cX10_samples 21 = .ok (.getfield 46, 3) := by decide +kernel
theorem dX10_samples_24 : decode cX10_samples 24 = .ok (.iload_n 1, 1) := by decide +kernel
theorem dX10_samples_25 : decode cX10_samples 25 = .ok (.iaload, 1) := by decide +kernel
theorem dX10_samples_26 : decode cX10_samples 26 = .ok (.goto 4, 3) := by decide +kernel
theorem dX10_samples_29 : decode cX10_samples 29 = .ok (.iconst 0, 1) := by decide +kernel
theorem dX10_samples_30 : decode cX10_samples 30 = .ok (.ireturn, 1) := by decide +kernel
set_option maxRecDepth 20000 in
theorem ggX10_missing_X10_isPoint : GoodIn wsX10_missing wsX10_isPoint := goodIn_r _ [6, 7, 8, 9, 5, 10, 16, 17, 18, 19, 20, 21, 22, 23, 24, 25, 26, 27, 28, 29, 30, 31, 32, 33, 34, 35, 36, 37, 38, 39, 40, 41, 42, 43, 44, 45, 46, 47, 48, 49, 50] (by decide +kernel) (by decide +kernel)
set_option maxRecDepth 20000 in
theorem gX10_missing_X10_isPoint : GoodIn wsX10_missing (wsV RX10 111 RX10 yX10_isPoint wsX10_isPoint) := goodIn_app (goodIn_of _ (by decide +kernel)) ggX10_missing_X10_isPoint
set_option maxRecDepth 20000 in
theorem ggX10_missing_X10_can : GoodIn wsX10_missing wsX10_can := goodIn_r _ [14, 15, 16, 17, 18, 19, 20, 21, 22, 23, 24, 25, 26, 27, 28, 29, 30, 31, 32, 33, 34, 35, 36, 37, 38, 39, 40, 41, 42, 43, 44, 45, 46, 47, 48, 49, 50] (by decide +kernel) (by decide +kernel)
set_option maxRecDepth 20000 in
theorem gX10_missing_X10_can : GoodIn wsX10_missing (wsV RX10 107 RX10 yX10_can wsX10_can) := goodIn_app (goodIn_of _ (by decide +kernel)) ggX10_missing_X10_can
theorem dX10_missing_0 : decode cX10_missing 0 = .ok (.aload_n 0, 1) := by decide +kernel
theorem dX10_missing_1 : decode cX10_missing 1 = .ok (.aload_n 0, 1) := by decide +kernel
theorem dX10_missing_2 : decode cX10_missing 2 = .ok (.iload_n 1, 1) := by decide +kernel
theorem dX10_missing_3 : decode cX10_missing 3 = .ok (.invokevirtual 111, 3) := by decide +kernel
theorem dX10_missing_6 : decode cX10_missing 6 = .ok (.ifCond .eq 7, 3) := by decide +kernel
theorem dX10_missing_9 : decode cX10_missing 9 = .ok (.iconst 0, 1) := by decide +kernel
theorem dX10_missing_10 : decode cX10_missing 10 = .ok (.goto 4, 3) := by decide +kernel
theorem dX10_missing_13 : decode cX10_missing 13 = .ok (.iconst 1, 1) := by decide +kernel
theorem dX10_missing_14 : decode cX10_missing 14 = .ok (.invokevirtual 107, 3) := by decide +kernel
theorem dX10_missing_17 : decode cX10_missing 17 = .ok (.ifCond .eq 12, 3) := by decide +kernel
theorem dX10_missing_20 : decode cX10_missing 20 = .ok (.aload_n 0, 1) := by decide +kernel
theorem dX10_missing_21 : decode cX10_missing 21 = .ok (.getfield 49, 3) := by decide +kernel
theorem dX10_missing_24 : decode cX10_missing 24 = .ok (.iload_n 1, 1) := by decide +kernel
theorem dX10_missing_25 : decode cX10_missing 25 = .ok (.iaload, 1) := by decide +kernel
theorem dX10_missing_26 : decode cX10_missing 26 = .ok (.goto 4, 3) := by decide +kernel
theorem dX10_missing_29 : decode cX10_missing 29 = .ok (.iconst 0, 1) := by decide +kernel
theorem dX10_missing_30 : decode cX10_missing 30 = .ok (.ireturn, 1) := by decide +kernel
set_option maxRecDepth 20000 in
theorem ggX10_isOperand_X10_isIn : GoodIn wsX10_isOperand wsX10_isIn := goodIn_r _ [4] (by decide +kernel) (by decide +kernel)
set_option maxRecDepth 20000 in
theorem gX10_isOperand_X10_isIn : GoodIn wsX10_isOperand (va_wsS RX10 84 yX10_isIn wsX10_isIn) := goodIn_app (goodIn_of _ (by decide +kernel)) ggX10_isOperand_X10_isIn
theorem dX10_isOperand_0 : decode cX10_isOperand 0 = .ok (.iload_n 0, 1) := by decide +kernel
theorem dX10_isOperand_1 : decode cX10_isOperand 1 = .ok (.iconst 0, 1) := by decide +kernel
theorem dX10_isOperand_2 : decode cX10_isOperand 2 = .ok (.bipush 11, 2) := by decide +kernel
theorem dX10_isOperand_4 : decode cX10_isOperand 4 = .ok (.invokestatic 84, 3) := by decide +kernel
theorem dX10_isOperand_7 : decode cX10_isOperand 7 = .ok (.ifCond .ne 14, 3) := by decide +kernel
theorem dX10_isOperand_10 : decode cX10_isOperand 10 = .ok (.iload_n 0, 1) := by decide +kernel
theorem dX10_isOperand_11 : decode cX10_isOperand 11 = .ok (.bipush 100, 2) := by decide +kernel
theorem dX10_isOperand_13 : decode cX10_isOperand 13 = .ok (.bipush 107, 2) := by decide +kernel
theorem dX10_isOperand_15 : decode cX10_isOperand 15 = .ok (.invokestatic 84, 3) := by decide +kernel
theorem dX10_isOperand_18 : decode cX10_isOperand 18 = .ok (.ifCond .eq 7, 3) := by decide +kernel
theorem dX10_isOperand_21 : decode cX10_isOperand 21 = .ok (.iconst 1, 1) := by decide +kernel
theorem dX10_isOperand_22 : decode cX10_isOperand 22 = .ok (.goto 4, 3) := by decide +kernel
theorem dX10_isOperand_25 : decode cX10_isOperand 25 = .ok (.iconst 0, 1) := by decide +kernel
theorem dX10_isOperand_26 : decode cX10_isOperand 26 = .ok (.ireturn, 1) := by decide +kernel
theorem dX10_comesTo_0 : decode cX10_comesTo 0 = .ok (.iload_n 1, 1) := by decide +kernel
theorem dX10_comesTo_1 : decode cX10_comesTo 1 = .ok (.bipush 100, 2) := by decide +kernel
theorem dX10_comesTo_3 : decode cX10_comesTo 3 = .ok (.if_icmp .lt 12, 3) := by decide +kernel
theorem dX10_comesTo_6 : decode cX10_comesTo 6 = .ok (.iconst 1, 1) := by decide +kernel
theorem dX10_comesTo_7 : decode cX10_comesTo 7 = .ok (.iload_n 1, 1) := by decide +kernel
theorem dX10_comesTo_8 : decode cX10_comesTo 8 = .ok (.bipush 100, 2) := by decide +kernel
theorem dX10_comesTo_10 : decode cX10_comesTo 10 = .ok (.isub, 1) := by decide +kernel
theorem dX10_comesTo_11 : decode cX10_comesTo 11 = .ok (.ishl, 1) := by decide +kernel
theorem dX10_comesTo_12 : decode cX10_comesTo 12 = .ok (.goto 4, 3) := by decide +kernel
theorem dX10_comesTo_15 : decode cX10_comesTo 15 = .ok (.iconst 0, 1) := by decide +kernel
theorem dX10_comesTo_16 : decode cX10_comesTo 16 = .ok (.iload_n 2, 1) := by decide +kernel
theorem dX10_comesTo_17 : decode cX10_comesTo 17 = .ok (.bipush 100, 2) := by decide +kernel
theorem dX10_comesTo_19 : decode cX10_comesTo 19 = .ok (.if_icmp .lt 12, 3) := by decide +kernel
theorem dX10_comesTo_22 : decode cX10_comesTo 22 = .ok (.iconst 1, 1) := by decide +kernel
theorem dX10_comesTo_23 : decode cX10_comesTo 23 = .ok (.iload_n 2, 1) := by decide +kernel
theorem dX10_comesTo_24 : decode cX10_comesTo 24 = .ok (.bipush 100, 2) := by decide +kernel
theorem dX10_comesTo_26 : decode cX10_comesTo 26 = .ok (.isub, 1) := by decide +kernel
theorem dX10_comesTo_27 : decode cX10_comesTo 27 = .ok (.ishl, 1) := by decide +kernel
theorem dX10_comesTo_28 : decode cX10_comesTo 28 = .ok (.goto 4, 3) := by decide +kernel
theorem dX10_comesTo_31 : decode cX10_comesTo 31 = .ok (.iconst 0, 1) := by decide +kernel
theorem dX10_comesTo_32 : decode cX10_comesTo 32 = .ok (.ior, 1) := by decide +kernel
theorem dX10_comesTo_33 : decode cX10_comesTo 33 = .ok (.istore 4, 2) := by decide +kernel
theorem dX10_comesTo_35 : decode cX10_comesTo 35 = .ok (.iconst 0, 1) := by decide +kernel
theorem dX10_comesTo_36 : decode cX10_comesTo 36 = .ok (.istore 5, 2) := by decide +kernel
theorem dX10_comesTo_38 : decode cX10_comesTo 38 = .ok (.iload 5, 2) := by decide +kernel
theorem dX10_comesTo_40 : decode cX10_comesTo 40 = .ok (.bipush 8, 2) := by decide +kernel
theorem dX10_comesTo_42 : decode cX10_comesTo 42 = .ok (.if_icmp .ge 113, 3) := by decide +kernel
theorem dX10_comesTo_45 : decode cX10_comesTo 45 = .ok (.iconst 0, 1) := by decide +kernel
theorem dX10_comesTo_46 : decode cX10_comesTo 46 = .ok (.istore 6, 2) := by decide +kernel
theorem dX10_comesTo_48 : decode cX10_comesTo 48 = .ok (.iload 6, 2) := by decide +kernel
theorem dX10_comesTo_50 : decode cX10_comesTo 50 = .ok (.bipush 8, 2) := by decide +kernel
theorem dX10_comesTo_52 : decode cX10_comesTo 52 = .ok (.if_icmp .ge 97, 3) := by decide +kernel
theorem dX10_comesTo_55 : decode cX10_comesTo 55 = .ok (.iload 4, 2) := by decide +kernel
theorem dX10_comesTo_57 : decode cX10_comesTo 57 = .ok (.iload 6, 2) := by decide +kernel
theorem dX10_comesTo_59 : decode cX10_comesTo 59 = .ok (.ishr, 1) := by decide +kernel
theorem dX10_comesTo_60 : decode cX10_comesTo 60 = .ok (.iconst 1, 1) := by decide +kernel
theorem dX10_comesTo_61 : decode cX10_comesTo 61 = .ok (.iand, 1) := by decide +kernel
theorem dX10_comesTo_62 : decode cX10_comesTo 62 = .ok (.iconst 1, 1) := by decide +kernel
theorem dX10_comesTo_63 : decode cX10_comesTo 63 = .ok (.if_icmp .ne 80, 3) := by decide +kernel
theorem dX10_comesTo_66 : decode cX10_comesTo 66 = .ok (.aload_n 0, 1) := by decide +kernel
theorem dX10_comesTo_67 : decode cX10_comesTo 67 = .ok (.getfield 52, 3) := by decide +kernel
theorem dX10_comesTo_70 : decode cX10_comesTo 70 = .ok (.iload 6, 2) := by decide +kernel
theorem dX10_comesTo_72 : decode cX10_comesTo 72 = .ok (.iaload, 1) := by decide +kernel
theorem dX10_comesTo_73 : decode cX10_comesTo 73 = .ok (.iconst (-1), 1) := by decide +kernel
theorem dX10_comesTo_74 : decode cX10_comesTo 74 = .ok (.if_icmp .eq 69, 3) := by decide +kernel
theorem dX10_comesTo_77 : decode cX10_comesTo 77 = .ok (.iload 4, 2) := by decide +kernel
theorem dX10_comesTo_79 : decode cX10_comesTo 79 = .ok (.aload_n 0, 1) := by decide +kernel
theorem dX10_comesTo_80 : decode cX10_comesTo 80 = .ok (.getfield 55, 3) := by decide +kernel
theorem dX10_comesTo_83 : decode cX10_comesTo 83 = .ok (.iload 6, 2) := by decide +kernel
theorem dX10_comesTo_85 : decode cX10_comesTo 85 = .ok (.iaload, 1) := by decide +kernel
theorem dX10_comesTo_86 : decode cX10_comesTo 86 = .ok (.bipush 100, 2) := by decide +kernel
theorem dX10_comesTo_88 : decode cX10_comesTo 88 = .ok (.if_icmp .lt 18, 3) := by decide +kernel
theorem dX10_comesTo_91 : decode cX10_comesTo 91 = .ok (.iconst 1, 1) := by decide +kernel
theorem dX10_comesTo_92 : decode cX10_comesTo 92 = .ok (.aload_n 0, 1) := by decide +kernel
theorem dX10_comesTo_93 : decode cX10_comesTo 93 = .ok (.getfield 55, 3) := by decide +kernel
theorem dX10_comesTo_96 : decode cX10_comesTo 96 = .ok (.iload 6, 2) := by decide +kernel
theorem dX10_comesTo_98 : decode cX10_comesTo 98 = .ok (.iaload, 1) := by decide +kernel
theorem dX10_comesTo_99 : decode cX10_comesTo 99 = .ok (.bipush 100, 2) := by decide +kernel
theorem dX10_comesTo_101 : decode cX10_comesTo 101 = .ok (.isub, 1) := by decide +kernel
theorem dX10_comesTo_102 : decode cX10_comesTo 102 = .ok (.ishl, 1) := by decide +kernel
theorem dX10_comesTo_103 : decode cX10_comesTo 103 = .ok (.goto 4, 3) := by decide +kernel
theorem dX10_comesTo_106 : decode cX10_comesTo 106 = .ok (.iconst 0, 1) := by decide +kernel
theorem dX10_comesTo_107 : decode cX10_comesTo 107 = .ok (.ior, 1) := by decide +kernel
theorem dX10_comesTo_108 : decode cX10_comesTo 108 = .ok (.istore 4, 2) := by decide +kernel
theorem dX10_comesTo_110 : decode cX10_comesTo 110 = .ok (.iload 4, 2) := by decide +kernel
theorem dX10_comesTo_112 : decode cX10_comesTo 112 = .ok (.aload_n 0, 1) := by decide +kernel
theorem dX10_comesTo_113 : decode cX10_comesTo 113 = .ok (.getfield 58, 3) := by decide +kernel
theorem dX10_comesTo_116 : decode cX10_comesTo 116 = .ok (.iload 6, 2) := by decide +kernel
theorem dX10_comesTo_118 : decode cX10_comesTo 118 = .ok (.iaload, 1) := by decide +kernel
theorem dX10_comesTo_119 : decode cX10_comesTo 119 = .ok (.bipush 100, 2) := by decide +kernel
theorem dX10_comesTo_121 : decode cX10_comesTo 121 = .ok (.if_icmp .lt 18, 3) := by decide +kernel
theorem dX10_comesTo_124 : decode cX10_comesTo 124 = .ok (.iconst 1, 1) := by decide +kernel
theorem dX10_comesTo_125 : decode cX10_comesTo 125 = .ok (.aload_n 0, 1) := by decide +kernel
theorem dX10_comesTo_126 : decode cX10_comesTo 126 = .ok (.getfield 58, 3) := by decide +kernel
theorem dX10_comesTo_129 : decode cX10_comesTo 129 = .ok (.iload 6, 2) := by decide +kernel
theorem dX10_comesTo_131 : decode cX10_comesTo 131 = .ok (.iaload, 1) := by decide +kernel
theorem dX10_comesTo_132 : decode cX10_comesTo 132 = .ok (.bipush 100, 2) := by decide +kernel
theorem dX10_comesTo_134 : decode cX10_comesTo 134 = .ok (.isub, 1) := by decide +kernel
theorem dX10_comesTo_135 : decode cX10_comesTo 135 = .ok (.ishl, 1) := by decide +kernel
theorem dX10_comesTo_136 : decode cX10_comesTo 136 = .ok (.goto 4, 3) := by decide +kernel
theorem dX10_comesTo_139 : decode cX10_comesTo 139 = .ok (.iconst 0, 1) := by decide +kernel
theorem dX10_comesTo_140 : decode cX10_comesTo 140 = .ok (.ior, 1) := by decide +kernel
theorem dX10_comesTo_141 : decode cX10_comesTo 141 = .ok (.istore 4, 2) := by decide +kernel
theorem dX10_comesTo_143 : decode cX10_comesTo 143 = .ok (.iinc 6 1, 3) := by decide +kernel
theorem dX10_comesTo_146 : decode cX10_comesTo 146 = .ok (.goto (-98), 3) := by decide +kernel
theorem dX10_comesTo_149 : decode cX10_comesTo 149 = .ok (.iinc 5 1, 3) := by decide +kernel
theorem dX10_comesTo_152 : decode cX10_comesTo 152 = .ok (.goto (-114), 3) := by decide +kernel
theorem dX10_comesTo_155 : decode cX10_comesTo 155 = .ok (.iload 4, 2) := by decide +kernel
theorem dX10_comesTo_157 : decode cX10_comesTo 157 = .ok (.iload_n 3, 1) := by decide +kernel
theorem dX10_comesTo_158 : decode cX10_comesTo 158 = .ok (.ishr, 1) := by decide +kernel
theorem dX10_comesTo_159 : decode cX10_comesTo 159 = .ok (.iconst 1, 1) := by decide +kernel
theorem dX10_comesTo_160 : decode cX10_comesTo 160 = .ok (.iand, 1) := by decide +kernel
theorem dX10_comesTo_161 : decode cX10_comesTo 161 = .ok (.iconst 1, 1) := by decide +kernel
theorem dX10_comesTo_162 : decode cX10_comesTo 162 = .ok (.if_icmp .ne 7, 3) := by decide +kernel
theorem dX10_comesTo_165 : decode cX10_comesTo 165 = .ok (.iconst 1, 1) := by decide +kernel
theorem dX10_comesTo_166 : decode cX10_comesTo 166 = .ok (.goto 4, 3) := by decide +kernel
theorem dX10_comesTo_169 : decode cX10_comesTo 169 = .ok (.iconst 0, 1) := by decide +kernel
theorem dX10_comesTo_170 : decode cX10_comesTo 170 = .ok (.ireturn, 1) := by decide +kernel
set_option maxRecDepth 20000 in
theorem ggX10_derive_X10_isIn : GoodIn wsX10_derive wsX10_isIn := goodIn_r _ [7] (by decide +kernel) (by decide +kernel)
set_option maxRecDepth 20000 in
theorem gX10_derive_X10_isIn : GoodIn wsX10_derive (va_wsS RX10 84 yX10_isIn wsX10_isIn) := goodIn_app (goodIn_of _ (by decide +kernel)) ggX10_derive_X10_isIn
set_option maxRecDepth 20000 in
theorem ggX10_derive_X10_isOperand : GoodIn wsX10_derive wsX10_isOperand := goodIn_r _ [10, 4, 5, 6, 7] (by decide +kernel) (by decide +kernel)
set_option maxRecDepth 20000 in
theorem gX10_derive_X10_isOperand : GoodIn wsX10_derive (va_wsS RX10 181 yX10_isOperand wsX10_isOperand) := goodIn_app (goodIn_of _ (by decide +kernel)) ggX10_derive_X10_isOperand
set_option maxRecDepth 20000 in
theorem ggX10_derive_X10_comesTo : GoodIn wsX10_derive wsX10_comesTo := goodIn_r _ [14, 1, 2, 3, 20, 21, 22, 23, 24, 25, 26, 27, 28, 29, 30, 31, 32, 33, 34, 35, 36, 37, 38, 39, 40, 41, 42, 43, 44, 45, 46, 47, 48, 49, 50, 51, 52, 53, 54] (by decide +kernel) (by decide +kernel)
set_option maxRecDepth 20000 in
theorem gX10_derive_X10_comesTo : GoodIn wsX10_derive (wsV RX10 184 RX10 yX10_comesTo wsX10_comesTo) := goodIn_app (goodIn_of _ (by decide +kernel)) ggX10_derive_X10_comesTo
set_option maxRecDepth 20000 in
theorem ggX10_derive_X10_can : GoodIn wsX10_derive wsX10_can := goodIn_r _ [18, 19, 20, 21, 22, 23, 24, 25, 26, 27, 28, 29, 30, 31, 32, 33, 34, 35, 36, 37, 38, 39, 40, 41, 42, 43, 44, 45, 46, 47, 48, 49, 50, 51, 52, 53, 54] (by decide +kernel) (by decide +kernel)
set_option maxRecDepth 20000 in
theorem gX10_derive_X10_can : GoodIn wsX10_derive (wsV RX10 107 RX10 yX10_can wsX10_can) := goodIn_app (goodIn_of _ (by decide +kernel)) ggX10_derive_X10_can
theorem dX10_derive_0 : decode cX10_derive 0 = .ok (.iload_n 1, 1) := by decide +kernel
theorem dX10_derive_1 : decode cX10_derive 1 = .ok (.iconst 0, 1) := by decide +kernel
theorem dX10_derive_2 : decode cX10_derive 2 = .ok (.bipush 7, 2) := by decide +kernel
theorem dX10_derive_4 : decode cX10_derive 4 = .ok (.invokestatic 84, 3) := by decide +kernel
theorem dX10_derive_7 : decode cX10_derive 7 = .ok (.ifCond .eq 31, 3) := by decide +kernel
theorem dX10_derive_10 : decode cX10_derive 10 = .ok (.iload_n 2, 1) := by decide +kernel
theorem dX10_derive_11 : decode cX10_derive 11 = .ok (.iconst 0, 1) := by decide +kernel
theorem dX10_derive_12 : decode cX10_derive 12 = .ok (.iconst 4, 1) := by decide +kernel
theorem dX10_derive_13 : decode cX10_derive 13 = .ok (.invokestatic 84, 3) := by decide +kernel
theorem dX10_derive_16 : decode cX10_derive 16 = .ok (.ifCond .eq 22, 3) := by decide +kernel
theorem dX10_derive_19 : decode cX10_derive 19 = .ok (.iload_n 3, 1) := by decide +kernel
theorem dX10_derive_20 : decode cX10_derive 20 = .ok (.invokestatic 181, 3) := by decide +kernel
theorem dX10_derive_23 : decode cX10_derive 23 = .ok (.ifCond .eq 15, 3) := by decide +kernel
theorem dX10_derive_26 : decode cX10_derive 26 = .ok (.iload 4, 2) := by decide +kernel
theorem dX10_derive_28 : decode cX10_derive 28 = .ok (.invokestatic 181, 3) := by decide +kernel
theorem dX10_derive_31 : decode cX10_derive 31 = .ok (.ifCond .eq 7, 3) := by decide +kernel
theorem dX10_derive_34 : decode cX10_derive 34 = .ok (.iconst 1, 1) := by decide +kernel
theorem dX10_derive_35 : decode cX10_derive 35 = .ok (.goto 4, 3) := by decide +kernel
theorem dX10_derive_38 : decode cX10_derive 38 = .ok (.iconst 0, 1) := by decide +kernel
theorem dX10_derive_39 : decode cX10_derive 39 = .ok (.istore 5, 2) := by decide +kernel
theorem dX10_derive_41 : decode cX10_derive 41 = .ok (.aload_n 0, 1) := by decide +kernel
theorem dX10_derive_42 : decode cX10_derive 42 = .ok (.iload 5, 2) := by decide +kernel
theorem dX10_derive_44 : decode cX10_derive 44 = .ok (.ifCond .ne 7, 3) := by decide +kernel
theorem dX10_derive_47 : decode cX10_derive 47 = .ok (.iconst 1, 1) := by decide +kernel
theorem dX10_derive_48 : decode cX10_derive 48 = .ok (.goto 19, 3) := by decide +kernel
theorem dX10_derive_51 : decode cX10_derive 51 = .ok (.aload_n 0, 1) := by decide +kernel
theorem dX10_derive_52 : decode cX10_derive 52 = .ok (.iload_n 3, 1) := by decide +kernel
theorem dX10_derive_53 : decode cX10_derive 53 = .ok (.iload 4, 2) := by decide +kernel
theorem dX10_derive_55 : decode cX10_derive 55 = .ok (.iload_n 1, 1) := by decide +kernel
theorem dX10_derive_56 : decode cX10_derive 56 = .ok (.invokevirtual 184, 3) := by decide +kernel
theorem dX10_derive_59 : decode cX10_derive 59 = .ok (.ifCond .eq 7, 3) := by decide +kernel
theorem dX10_derive_62 : decode cX10_derive 62 = .ok (.iconst 2, 1) := by decide +kernel
theorem dX10_derive_63 : decode cX10_derive 63 = .ok (.goto 4, 3) := by decide +kernel
theorem dX10_derive_66 : decode cX10_derive 66 = .ok (.iconst 0, 1) := by decide +kernel
theorem dX10_derive_67 : decode cX10_derive 67 = .ok (.invokevirtual 107, 3) := by decide +kernel
theorem dX10_derive_70 : decode cX10_derive 70 = .ok (.ifCond .eq 25, 3) := by decide +kernel
theorem dX10_derive_73 : decode cX10_derive 73 = .ok (.aload_n 0, 1) := by decide +kernel
theorem dX10_derive_74 : decode cX10_derive 74 = .ok (.getfield 52, 3) := by decide +kernel
theorem dX10_derive_77 : decode cX10_derive 77 = .ok (.iload_n 1, 1) := by decide +kernel
theorem dX10_derive_78 : decode cX10_derive 78 = .ok (.iload_n 2, 1) := by decide +kernel
theorem dX10_derive_79 : decode cX10_derive 79 = .ok (.iastore, 1) := by decide +kernel
theorem dX10_derive_80 : decode cX10_derive 80 = .ok (.aload_n 0, 1) := by decide +kernel
theorem dX10_derive_81 : decode cX10_derive 81 = .ok (.getfield 55, 3) := by decide +kernel
theorem dX10_derive_84 : decode cX10_derive 84 = .ok (.iload_n 1, 1) := by decide +kernel
theorem dX10_derive_85 : decode cX10_derive 85 = .ok (.iload_n 3, 1) := by decide +kernel
theorem dX10_derive_86 : decode cX10_derive 86 = .ok (.iastore, 1) := by decide +kernel
theorem dX10_derive_87 : decode cX10_derive 87 = .ok (.aload_n 0, 1) := by decide +kernel
theorem dX10_derive_88 : decode cX10_derive 88 = .ok (.getfield 58, 3) := by decide +kernel
theorem dX10_derive_91 : decode cX10_derive 91 = .ok (.iload_n 1, 1) := by decide +kernel
theorem dX10_derive_92 : decode cX10_derive 92 = .ok (.iload 4, 2) := by decide +kernel
theorem dX10_derive_94 : decode cX10_derive 94 = .ok (.iastore, 1) := by decide +kernel
theorem dX10_derive_95 : decode cX10_derive 95 = .ok (.return_, 1) := by decide +kernel
theorem dX10_hasValue_0 : decode cX10_hasValue 0 = .ok (.iload_n 1, 1) := by decide +kernel
theorem dX10_hasValue_1 : decode cX10_hasValue 1 = .ok (.bipush 100, 2) := by decide +kernel
theorem dX10_hasValue_3 : decode cX10_hasValue 3 = .ok (.if_icmp .lt 15, 3) := by decide +kernel
theorem dX10_hasValue_6 : decode cX10_hasValue 6 = .ok (.aload_n 0, 1) := by decide +kernel
theorem dX10_hasValue_7 : decode cX10_hasValue 7 = .ok (.getfield 61, 3) := by decide +kernel
theorem dX10_hasValue_10 : decode cX10_hasValue 10 = .ok (.iload_n 1, 1) := by decide +kernel
theorem dX10_hasValue_11 : decode cX10_hasValue 11 = .ok (.bipush 100, 2) := by decide +kernel
theorem dX10_hasValue_13 : decode cX10_hasValue 13 = .ok (.isub, 1) := by decide +kernel
theorem dX10_hasValue_14 : decode cX10_hasValue 14 = .ok (.baload, 1) := by decide +kernel
theorem dX10_hasValue_15 : decode cX10_hasValue 15 = .ok (.goto 25, 3) := by decide +kernel
theorem dX10_hasValue_18 : decode cX10_hasValue 18 = .ok (.iload_n 1, 1) := by decide +kernel
theorem dX10_hasValue_19 : decode cX10_hasValue 19 = .ok (.aload_n 0, 1) := by decide +kernel
theorem dX10_hasValue_20 : decode cX10_hasValue 20 = .ok (.getfield 81, 3) := by decide +kernel
theorem dX10_hasValue_23 : decode cX10_hasValue 23 = .ok (.if_icmp .ge 16, 3) := by decide +kernel
theorem dX10_hasValue_26 : decode cX10_hasValue 26 = .ok (.aload_n 0, 1) := by decide +kernel
theorem dX10_hasValue_27 : decode cX10_hasValue 27 = .ok (.getfield 46, 3) := by decide +kernel
theorem dX10_hasValue_30 : decode cX10_hasValue 30 = .ok (.iload_n 1, 1) := by decide +kernel
theorem dX10_hasValue_31 : decode cX10_hasValue 31 = .ok (.iaload, 1) := by decide +kernel
theorem dX10_hasValue_32 : decode cX10_hasValue 32 = .ok (.ifCond .le 7, 3) := by decide +kernel
theorem dX10_hasValue_35 : decode cX10_hasValue 35 = .ok (.iconst 1, 1) := by decide +kernel
theorem dX10_hasValue_36 : decode cX10_hasValue 36 = .ok (.goto 4, 3) := by decide +kernel
theorem dX10_hasValue_39 : decode cX10_hasValue 39 = .ok (.iconst 0, 1) := by decide +kernel
theorem dX10_hasValue_40 : decode cX10_hasValue 40 = .ok (.ireturn, 1) := by decide +kernel
theorem dX10_valueOf_0 : decode cX10_valueOf 0 = .ok (.iload_n 1, 1) := by decide +kernel
theorem dX10_valueOf_1 : decode cX10_valueOf 1 = .ok (.bipush 100, 2) := by decide +kernel
theorem dX10_valueOf_3 : decode cX10_valueOf 3 = .ok (.if_icmp .lt 15, 3) := by decide +kernel
theorem dX10_valueOf_6 : decode cX10_valueOf 6 = .ok (.aload_n 0, 1) := by decide +kernel
theorem dX10_valueOf_7 : decode cX10_valueOf 7 = .ok (.getfield 65, 3) := by decide +kernel
theorem dX10_valueOf_10 : decode cX10_valueOf 10 = .ok (.iload_n 1, 1) := by decide +kernel
theorem dX10_valueOf_11 : decode cX10_valueOf 11 = .ok (.bipush 100, 2) := by decide +kernel
theorem dX10_valueOf_13 : decode cX10_valueOf 13 = .ok (.isub, 1) := by decide +kernel
theorem dX10_valueOf_14 : decode cX10_valueOf 14 = .ok (.iaload, 1) := by decide +kernel
theorem dX10_valueOf_15 : decode cX10_valueOf 15 = .ok (.goto 9, 3) := by decide +kernel
theorem dX10_valueOf_18 : decode cX10_valueOf 18 = .ok (.aload_n 0, 1) := by decide +kernel
theorem dX10_valueOf_19 : decode cX10_valueOf 19 = .ok (.getfield 40, 3) := by decide +kernel
theorem dX10_valueOf_22 : decode cX10_valueOf 22 = .ok (.iload_n 1, 1) := by decide +kernel
theorem dX10_valueOf_23 : decode cX10_valueOf 23 = .ok (.iaload, 1) := by decide +kernel
theorem dX10_valueOf_24 : decode cX10_valueOf 24 = .ok (.ireturn, 1) := by decide +kernel
theorem dX10_timeOf_0 : decode cX10_timeOf 0 = .ok (.iload_n 1, 1) := by decide +kernel
theorem dX10_timeOf_1 : decode cX10_timeOf 1 = .ok (.bipush 100, 2) := by decide +kernel
theorem dX10_timeOf_3 : decode cX10_timeOf 3 = .ok (.if_icmp .lt 15, 3) := by decide +kernel
theorem dX10_timeOf_6 : decode cX10_timeOf 6 = .ok (.aload_n 0, 1) := by decide +kernel
theorem dX10_timeOf_7 : decode cX10_timeOf 7 = .ok (.getfield 68, 3) := by decide +kernel
theorem dX10_timeOf_10 : decode cX10_timeOf 10 = .ok (.iload_n 1, 1) := by decide +kernel
theorem dX10_timeOf_11 : decode cX10_timeOf 11 = .ok (.bipush 100, 2) := by decide +kernel
theorem dX10_timeOf_13 : decode cX10_timeOf 13 = .ok (.isub, 1) := by decide +kernel
theorem dX10_timeOf_14 : decode cX10_timeOf 14 = .ok (.iaload, 1) := by decide +kernel
theorem dX10_timeOf_15 : decode cX10_timeOf 15 = .ok (.goto 9, 3) := by decide +kernel
theorem dX10_timeOf_18 : decode cX10_timeOf 18 = .ok (.aload_n 0, 1) := by decide +kernel
theorem dX10_timeOf_19 : decode cX10_timeOf 19 = .ok (.getfield 43, 3) := by decide +kernel
theorem dX10_timeOf_22 : decode cX10_timeOf 22 = .ok (.iload_n 1, 1) := by decide +kernel
theorem dX10_timeOf_23 : decode cX10_timeOf 23 = .ok (.iaload, 1) := by decide +kernel
theorem dX10_timeOf_24 : decode cX10_timeOf 24 = .ok (.ireturn, 1) := by decide +kernel
theorem dX10_made_0 : decode cX10_made 0 = .ok (.iload_n 0, 1) := by decide +kernel
theorem dX10_made_1 : decode cX10_made 1 = .ok (.ifCond .ne 9, 3) := by decide +kernel
theorem dX10_made_4 : decode cX10_made 4 = .ok (.lload_n 1, 1) := by decide +kernel
theorem dX10_made_5 : decode cX10_made 5 = .ok (.lload_n 3, 1) := by decide +kernel
theorem dX10_made_6 : decode cX10_made 6 = .ok (.ladd, 1) := by decide +kernel
theorem dX10_made_7 : decode cX10_made 7 = .ok (.goto 54, 3) := by decide +kernel
theorem dX10_made_10 : decode cX10_made 10 = .ok (.iload_n 0, 1) := by decide +kernel
theorem dX10_made_11 : decode cX10_made 11 = .ok (.iconst 1, 1) := by decide +kernel
theorem dX10_made_12 : decode cX10_made 12 = .ok (.if_icmp .ne 9, 3) := by decide +kernel
theorem dX10_made_15 : decode cX10_made 15 = .ok (.lload_n 1, 1) := by decide +kernel
theorem dX10_made_16 : decode cX10_made 16 = .ok (.lload_n 3, 1) := by decide +kernel
theorem dX10_made_17 : decode cX10_made 17 = .ok (.lsub, 1) := by decide +kernel
theorem dX10_made_18 : decode cX10_made 18 = .ok (.goto 43, 3) := by decide +kernel
theorem dX10_made_21 : decode cX10_made 21 = .ok (.iload_n 0, 1) := by decide +kernel
theorem dX10_made_22 : decode cX10_made 22 = .ok (.iconst 2, 1) := by decide +kernel
theorem dX10_made_23 : decode cX10_made 23 = .ok (.if_icmp .ne 9, 3) := by decide +kernel
theorem dX10_made_26 : decode cX10_made 26 = .ok (.lload_n 1, 1) := by decide +kernel
theorem dX10_made_27 : decode cX10_made 27 = .ok (.lload_n 3, 1) := by decide +kernel
theorem dX10_made_28 : decode cX10_made 28 = .ok (.lmul, 1) := by decide +kernel
theorem dX10_made_29 : decode cX10_made 29 = .ok (.goto 32, 3) := by decide +kernel
theorem dX10_made_32 : decode cX10_made 32 = .ok (.iload_n 0, 1) := by decide +kernel
theorem dX10_made_33 : decode cX10_made 33 = .ok (.iconst 3, 1) := by decide +kernel
theorem dX10_made_34 : decode cX10_made 34 = .ok (.if_icmp .ne 7, 3) := by decide +kernel
theorem dX10_made_37 : decode cX10_made 37 = .ok (.iconst 1, 1) := by decide +kernel
theorem dX10_made_38 : decode cX10_made 38 = .ok (.goto 4, 3) := by decide +kernel
theorem dX10_made_41 : decode cX10_made 41 = .ok (.iconst 0, 1) := by decide +kernel
theorem dX10_made_42 : decode cX10_made 42 = .ok (.lload_n 1, 1) := by decide +kernel
theorem dX10_made_43 : decode cX10_made 43 = .ok (.lload_n 3, 1) := by decide +kernel
theorem dX10_made_44 : decode cX10_made 44 = .ok (.lcmp, 1) := by decide +kernel
theorem dX10_made_45 : decode cX10_made 45 = .ok (.ifCond .le 7, 3) := by decide +kernel
theorem dX10_made_48 : decode cX10_made 48 = .ok (.iconst 1, 1) := by decide +kernel
theorem dX10_made_49 : decode cX10_made 49 = .ok (.goto 4, 3) := by decide +kernel
theorem dX10_made_52 : decode cX10_made 52 = .ok (.iconst 0, 1) := by decide +kernel
theorem dX10_made_53 : decode cX10_made 53 = .ok (.if_icmp .ne 7, 3) := by decide +kernel
theorem dX10_made_56 : decode cX10_made 56 = .ok (.lload_n 1, 1) := by decide +kernel
theorem dX10_made_57 : decode cX10_made 57 = .ok (.goto 4, 3) := by decide +kernel
theorem dX10_made_60 : decode cX10_made 60 = .ok (.lload_n 3, 1) := by decide +kernel
theorem dX10_made_61 : decode cX10_made 61 = .ok (.lstore 5, 2) := by decide +kernel
theorem dX10_made_63 : decode cX10_made 63 = .ok (.lload 5, 2) := by decide +kernel
theorem dX10_made_65 : decode cX10_made 65 = .ok (.ldc2_w 187, 3) := by decide +kernel
theorem dX10_made_68 : decode cX10_made 68 = .ok (.lcmp, 1) := by decide +kernel
theorem dX10_made_69 : decode cX10_made 69 = .ok (.ifCond .le 9, 3) := by decide +kernel
theorem dX10_made_72 : decode cX10_made 72 = .ok (.ldc2_w 187, 3) := by decide +kernel
theorem dX10_made_75 : decode cX10_made 75 = .ok (.goto 20, 3) := by decide +kernel
theorem dX10_made_78 : decode cX10_made 78 = .ok (.lload 5, 2) := by decide +kernel
theorem dX10_made_80 : decode cX10_made 80 = .ok (.ldc2_w 189, 3) := by decide +kernel
theorem dX10_made_83 : decode cX10_made 83 = .ok (.lcmp, 1) := by decide +kernel
theorem dX10_made_84 : decode cX10_made 84 = .ok (.ifCond .ge 9, 3) := by decide +kernel
theorem dX10_made_87 : decode cX10_made 87 = .ok (.ldc2_w 189, 3) := by decide +kernel
theorem dX10_made_90 : decode cX10_made 90 = .ok (.goto 5, 3) := by decide +kernel
theorem dX10_made_93 : decode cX10_made 93 = .ok (.lload 5, 2) := by decide +kernel
theorem dX10_made_95 : decode cX10_made 95 = .ok (.l2i, 1) := by decide +kernel
theorem dX10_made_96 : decode cX10_made 96 = .ok (.ireturn, 1) := by decide +kernel
set_option maxRecDepth 20000 in
theorem ggX10_derives_X10_hasValue : GoodIn wsX10_derives wsX10_hasValue := goodIn_r _ [11, 1, 12, 13, 29, 30, 31, 32, 33, 34, 35, 36, 37, 38, 39, 40, 41, 42, 43, 44, 45, 46, 47, 48, 49, 50, 51, 52, 53, 54, 55, 56, 57, 58, 59, 60, 61, 62, 63] (by decide +kernel) (by decide +kernel)
set_option maxRecDepth 20000 in
theorem gX10_derives_X10_hasValue : GoodIn wsX10_derives (wsV RX10 191 RX10 yX10_hasValue wsX10_hasValue) := goodIn_app (goodIn_of _ (by decide +kernel)) ggX10_derives_X10_hasValue
set_option maxRecDepth 20000 in
theorem ggX10_derives_X10_valueOf : GoodIn wsX10_derives wsX10_valueOf := goodIn_r _ [17, 5, 18, 29, 30, 31, 32, 33, 34, 35, 36, 37, 38, 39, 40, 41, 42, 43, 44, 45, 46, 47, 48, 49, 50, 51, 52, 53, 54, 55, 56, 57, 58, 59, 60, 61, 62, 63] (by decide +kernel) (by decide +kernel)
set_option maxRecDepth 20000 in
theorem gX10_derives_X10_valueOf : GoodIn wsX10_derives (wsV RX10 194 RX10 yX10_valueOf wsX10_valueOf) := goodIn_app (goodIn_of _ (by decide +kernel)) ggX10_derives_X10_valueOf
set_option maxRecDepth 20000 in
theorem ggX10_derives_X10_made : GoodIn wsX10_derives wsX10_made := goodIn_r _ [21, 22, 23] (by decide +kernel) (by decide +kernel)
set_option maxRecDepth 20000 in
theorem gX10_derives_X10_made : GoodIn wsX10_derives (va_wsS RX10 197 yX10_made wsX10_made) := goodIn_app (goodIn_of _ (by decide +kernel)) ggX10_derives_X10_made
set_option maxRecDepth 20000 in
theorem ggX10_derives_X10_timeOf : GoodIn wsX10_derives wsX10_timeOf := goodIn_r _ [27, 6, 28, 29, 30, 31, 32, 33, 34, 35, 36, 37, 38, 39, 40, 41, 42, 43, 44, 45, 46, 47, 48, 49, 50, 51, 52, 53, 54, 55, 56, 57, 58, 59, 60, 61, 62, 63] (by decide +kernel) (by decide +kernel)
set_option maxRecDepth 20000 in
theorem gX10_derives_X10_timeOf : GoodIn wsX10_derives (wsV RX10 201 RX10 yX10_timeOf wsX10_timeOf) := goodIn_app (goodIn_of _ (by decide +kernel)) ggX10_derives_X10_timeOf
theorem dX10_derives_0 : decode cX10_derives 0 = .ok (.iconst 0, 1) := by decide +kernel
theorem dX10_derives_1 : decode cX10_derives 1 = .ok (.istore_n 1, 1) := by decide +kernel
theorem dX10_derives_2 : decode cX10_derives 2 = .ok (.iload_n 1, 1) := by decide +kernel
theorem dX10_derives_3 : decode cX10_derives 3 = .ok (.bipush 8, 2) := by decide +kernel
theorem dX10_derives_5 : decode cX10_derives 5 = .ok (.if_icmp .ge 16, 3) := by decide +kernel
theorem dX10_derives_8 : decode cX10_derives 8 = .ok (.aload_n 0, 1) := by decide +kernel
theorem dX10_derives_9 : decode cX10_derives 9 = .ok (.getfield 61, 3) := by decide +kernel
theorem dX10_derives_12 : decode cX10_derives 12 = .ok (.iload_n 1, 1) := by decide +kernel
theorem dX10_derives_13 : decode cX10_derives 13 = .ok (.iconst 0, 1) := by decide +kernel
theorem dX10_derives_14 : decode cX10_derives 14 = .ok (.bastore, 1) := by decide +kernel
theorem dX10_derives_15 : decode cX10_derives 15 = .ok (.iinc 1 1, 3) := by decide +kernel
theorem dX10_derives_18 : decode cX10_derives 18 = .ok (.goto (-16), 3) := by decide +kernel
theorem dX10_derives_21 : decode cX10_derives 21 = .ok (.iconst 0, 1) := by decide +kernel
theorem dX10_derives_22 : decode cX10_derives 22 = .ok (.istore_n 1, 1) := by decide +kernel
theorem dX10_derives_23 : decode cX10_derives 23 = .ok (.iload_n 1, 1) := by decide +kernel
theorem dX10_derives_24 : decode cX10_derives 24 = .ok (.bipush 8, 2) := by decide +kernel
theorem dX10_derives_26 : decode cX10_derives 26 = .ok (.if_icmp .ge 155, 3) := by decide +kernel
theorem dX10_derives_29 : decode cX10_derives 29 = .ok (.iconst 0, 1) := by decide +kernel
theorem dX10_derives_30 : decode cX10_derives 30 = .ok (.istore_n 2, 1) := by decide +kernel
theorem dX10_derives_31 : decode cX10_derives 31 = .ok (.iload_n 2, 1) := by decide +kernel
theorem dX10_derives_32 : decode cX10_derives 32 = .ok (.bipush 8, 2) := by decide +kernel
theorem dX10_derives_34 : decode cX10_derives 34 = .ok (.if_icmp .ge 141, 3) := by decide +kernel
theorem dX10_derives_37 : decode cX10_derives 37 = .ok (.aload_n 0, 1) := by decide +kernel
theorem dX10_derives_38 : decode cX10_derives 38 = .ok (.getfield 52, 3) := by decide +kernel
theorem dX10_derives_41 : decode cX10_derives 41 = .ok (.iload_n 2, 1) := by decide +kernel
theorem dX10_derives_42 : decode cX10_derives 42 = .ok (.iaload, 1) := by decide +kernel
theorem dX10_derives_43 : decode cX10_derives 43 = .ok (.iconst (-1), 1) := by decide +kernel
theorem dX10_derives_44 : decode cX10_derives 44 = .ok (.if_icmp .eq 125, 3) := by decide +kernel
theorem dX10_derives_47 : decode cX10_derives 47 = .ok (.aload_n 0, 1) := by decide +kernel
theorem dX10_derives_48 : decode cX10_derives 48 = .ok (.aload_n 0, 1) := by decide +kernel
theorem dX10_derives_49 : decode cX10_derives 49 = .ok (.getfield 55, 3) := by decide +kernel
theorem dX10_derives_52 : decode cX10_derives 52 = .ok (.iload_n 2, 1) := by decide +kernel
theorem dX10_derives_53 : decode cX10_derives 53 = .ok (.iaload, 1) := by decide +kernel
theorem dX10_derives_54 : decode cX10_derives 54 = .ok (.invokevirtual 191, 3) := by decide +kernel
theorem dX10_derives_57 : decode cX10_derives 57 = .ok (.ifCond .eq 112, 3) := by decide +kernel
theorem dX10_derives_60 : decode cX10_derives 60 = .ok (.aload_n 0, 1) := by decide +kernel
theorem dX10_derives_61 : decode cX10_derives 61 = .ok (.aload_n 0, 1) := by decide +kernel
theorem dX10_derives_62 : decode cX10_derives 62 = .ok (.getfield 58, 3) := by decide +kernel
theorem dX10_derives_65 : decode cX10_derives 65 = .ok (.iload_n 2, 1) := by decide +kernel
theorem dX10_derives_66 : decode cX10_derives 66 = .ok (.iaload, 1) := by decide +kernel
theorem dX10_derives_67 : decode cX10_derives 67 = .ok (.invokevirtual 191, 3) := by decide +kernel
theorem dX10_derives_70 : decode cX10_derives 70 = .ok (.ifCond .eq 99, 3) := by decide +kernel
theorem dX10_derives_73 : decode cX10_derives 73 = .ok (.aload_n 0, 1) := by decide +kernel
theorem dX10_derives_74 : decode cX10_derives 74 = .ok (.getfield 61, 3) := by decide +kernel
theorem dX10_derives_77 : decode cX10_derives 77 = .ok (.iload_n 2, 1) := by decide +kernel
theorem dX10_derives_78 : decode cX10_derives 78 = .ok (.iconst 1, 1) := by decide +kernel
theorem dX10_derives_79 : decode cX10_derives 79 = .ok (.bastore, 1) := by decide +kernel
theorem dX10_derives_80 : decode cX10_derives 80 = .ok (.aload_n 0, 1) := by decide +kernel
theorem dX10_derives_81 : decode cX10_derives 81 = .ok (.getfield 65, 3) := by decide +kernel
theorem dX10_derives_84 : decode cX10_derives 84 = .ok (.iload_n 2, 1) := by decide +kernel
theorem dX10_derives_85 : decode cX10_derives 85 = .ok (.aload_n 0, 1) := by decide +kernel
theorem dX10_derives_86 : decode cX10_derives 86 = .ok (.getfield 52, 3) := by decide +kernel
theorem dX10_derives_89 : decode cX10_derives 89 = .ok (.iload_n 2, 1) := by decide +kernel
theorem dX10_derives_90 : decode cX10_derives 90 = .ok (.iaload, 1) := by decide +kernel
theorem dX10_derives_91 : decode cX10_derives 91 = .ok (.aload_n 0, 1) := by decide +kernel
theorem dX10_derives_92 : decode cX10_derives 92 = .ok (.aload_n 0, 1) := by decide +kernel
theorem dX10_derives_93 : decode cX10_derives 93 = .ok (.getfield 55, 3) := by decide +kernel
theorem dX10_derives_96 : decode cX10_derives 96 = .ok (.iload_n 2, 1) := by decide +kernel
theorem dX10_derives_97 : decode cX10_derives 97 = .ok (.iaload, 1) := by decide +kernel
theorem dX10_derives_98 : decode cX10_derives 98 = .ok (.invokevirtual 194, 3) := by decide +kernel
theorem dX10_derives_101 : decode cX10_derives 101 = .ok (.i2l, 1) := by decide +kernel
theorem dX10_derives_102 : decode cX10_derives 102 = .ok (.aload_n 0, 1) := by decide +kernel
theorem dX10_derives_103 : decode cX10_derives 103 = .ok (.aload_n 0, 1) := by decide +kernel
theorem dX10_derives_104 : decode cX10_derives 104 = .ok (.getfield 58, 3) := by decide +kernel
theorem dX10_derives_107 : decode cX10_derives 107 = .ok (.iload_n 2, 1) := by decide +kernel
theorem dX10_derives_108 : decode cX10_derives 108 = .ok (.iaload, 1) := by decide +kernel
theorem dX10_derives_109 : decode cX10_derives 109 = .ok (.invokevirtual 194, 3) := by decide +kernel
theorem dX10_derives_112 : decode cX10_derives 112 = .ok (.i2l, 1) := by decide +kernel
theorem dX10_derives_113 : decode cX10_derives 113 = .ok (.invokestatic 197, 3) := by decide +kernel
theorem dX10_derives_116 : decode cX10_derives 116 = .ok (.iastore, 1) := by decide +kernel
theorem dX10_derives_117 : decode cX10_derives 117 = .ok (.aload_n 0, 1) := by decide +kernel
theorem dX10_derives_118 : decode cX10_derives 118 = .ok (.getfield 68, 3) := by decide +kernel
theorem dX10_derives_121 : decode cX10_derives 121 = .ok (.iload_n 2, 1) := by decide +kernel
theorem dX10_derives_122 : decode cX10_derives 122 = .ok (.aload_n 0, 1) := by decide +kernel
theorem dX10_derives_123 : decode cX10_derives 123 = .ok (.aload_n 0, 1) := by decide +kernel
theorem dX10_derives_124 : decode cX10_derives 124 = .ok (.getfield 55, 3) := by decide +kernel
theorem dX10_derives_127 : decode cX10_derives 127 = .ok (.iload_n 2, 1) := by decide +kernel
theorem dX10_derives_128 : decode cX10_derives 128 = .ok (.iaload, 1) := by decide +kernel
theorem dX10_derives_129 : decode cX10_derives 129 = .ok (.invokevirtual 201, 3) := by decide +kernel
theorem dX10_derives_132 : decode cX10_derives 132 = .ok (.aload_n 0, 1) := by decide +kernel
theorem dX10_derives_133 : decode cX10_derives 133 = .ok (.aload_n 0, 1) := by decide +kernel
theorem dX10_derives_134 : decode cX10_derives 134 = .ok (.getfield 58, 3) := by decide +kernel
theorem dX10_derives_137 : decode cX10_derives 137 = .ok (.iload_n 2, 1) := by decide +kernel
theorem dX10_derives_138 : decode cX10_derives 138 = .ok (.iaload, 1) := by decide +kernel
theorem dX10_derives_139 : decode cX10_derives 139 = .ok (.invokevirtual 201, 3) := by decide +kernel
theorem dX10_derives_142 : decode cX10_derives 142 = .ok (.if_icmp .le 16, 3) := by decide +kernel
theorem dX10_derives_145 : decode cX10_derives 145 = .ok (.aload_n 0, 1) := by decide +kernel
theorem dX10_derives_146 : decode cX10_derives 146 = .ok (.aload_n 0, 1) := by decide +kernel
theorem dX10_derives_147 : decode cX10_derives 147 = .ok (.getfield 55, 3) := by decide +kernel
theorem dX10_derives_150 : decode cX10_derives 150 = .ok (.iload_n 2, 1) := by decide +kernel
theorem dX10_derives_151 : decode cX10_derives 151 = .ok (.iaload, 1) := by decide +kernel
theorem dX10_derives_152 : decode cX10_derives 152 = .ok (.invokevirtual 201, 3) := by decide +kernel
theorem dX10_derives_155 : decode cX10_derives 155 = .ok (.goto 13, 3) := by decide +kernel
theorem dX10_derives_158 : decode cX10_derives 158 = .ok (.aload_n 0, 1) := by decide +kernel
theorem dX10_derives_159 : decode cX10_derives 159 = .ok (.aload_n 0, 1) := by decide +kernel
theorem dX10_derives_160 : decode cX10_derives 160 = .ok (.getfield 58, 3) := by decide +kernel
theorem dX10_derives_163 : decode cX10_derives 163 = .ok (.iload_n 2, 1) := by decide +kernel
