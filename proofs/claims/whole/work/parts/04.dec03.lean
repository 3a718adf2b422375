theorem dX9_receive_6 : decode cX9_receive 6 = .ok (.sipush 4096, 3) := by decide +kernel
theorem dX9_receive_9 : decode cX9_receive 9 = .ok (.if_icmp .le 11, 3) := by decide +kernel
theorem dX9_receive_12 : decode cX9_receive 12 = .ok (.new 55, 3) := by decide +kernel
theorem dX9_receive_15 : decode cX9_receive 15 = .ok (.dup, 1) := by decide +kernel
theorem dX9_receive_16 : decode cX9_receive 16 = .ok (.invokespecial 57, 3) := by decide +kernel
theorem dX9_receive_19 : decode cX9_receive 19 = .ok (.athrow, 1) := by decide +kernel
theorem dX9_receive_20 : decode cX9_receive 20 = .ok (.aload_n 0, 1) := by decide +kernel
theorem dX9_receive_21 : decode cX9_receive 21 = .ok (.getfield 40, 3) := by decide +kernel
theorem dX9_receive_24 : decode cX9_receive 24 = .ok (.getfield 121, 3) := by decide +kernel
theorem dX9_receive_27 : decode cX9_receive 27 = .ok (.istore_n 2, 1) := by decide +kernel
theorem dX9_receive_28 : decode cX9_receive 28 = .ok (.iload_n 1, 1) := by decide +kernel
theorem dX9_receive_29 : decode cX9_receive 29 = .ok (.aload_n 0, 1) := by decide +kernel
theorem dX9_receive_30 : decode cX9_receive 30 = .ok (.getfield 19, 3) := by decide +kernel
theorem dX9_receive_33 : decode cX9_receive 33 = .ok (.invokevirtual 100, 3) := by decide +kernel
theorem dX9_receive_36 : decode cX9_receive 36 = .ok (.invokestatic 124, 3) := by decide +kernel
theorem dX9_receive_39 : decode cX9_receive 39 = .ok (.istore_n 3, 1) := by decide +kernel
theorem dX9_receive_40 : decode cX9_receive 40 = .ok (.iconst 0, 1) := by decide +kernel
theorem dX9_receive_41 : decode cX9_receive 41 = .ok (.istore 4, 2) := by decide +kernel
theorem dX9_receive_43 : decode cX9_receive 43 = .ok (.iload 4, 2) := by decide +kernel
theorem dX9_receive_45 : decode cX9_receive 45 = .ok (.iload_n 3, 1) := by decide +kernel
theorem dX9_receive_46 : decode cX9_receive 46 = .ok (.if_icmp .ge 44, 3) := by decide +kernel
theorem dX9_receive_49 : decode cX9_receive 49 = .ok (.aload_n 0, 1) := by decide +kernel
theorem dX9_receive_50 : decode cX9_receive 50 = .ok (.getfield 33, 3) := by decide +kernel
theorem dX9_receive_53 : decode cX9_receive 53 = .ok (.aload_n 0, 1) := by decide +kernel
theorem dX9_receive_54 : decode cX9_receive 54 = .ok (.getfield 19, 3) := by decide +kernel
theorem dX9_receive_57 : decode cX9_receive 57 = .ok (.invokevirtual 130, 3) := by decide +kernel
theorem dX9_receive_60 : decode cX9_receive 60 = .ok (.invokevirtual 133, 3) := by decide +kernel
theorem dX9_receive_63 : decode cX9_receive 63 = .ok (.ifCond .eq 21, 3) := by decide +kernel
theorem dX9_receive_66 : decode cX9_receive 66 = .ok (.aload_n 0, 1) := by decide +kernel
theorem dX9_receive_67 : decode cX9_receive 67 = .ok (.getfield 40, 3) := by decide +kernel
theorem dX9_receive_70 : decode cX9_receive 70 = .ok (.aload_n 0, 1) := by decide +kernel
theorem dX9_receive_71 : decode cX9_receive 71 = .ok (.getfield 33, 3) := by decide +kernel
theorem dX9_receive_74 : decode cX9_receive 74 = .ok (.getfield 137, 3) := by decide +kernel
theorem dX9_receive_77 : decode cX9_receive 77 = .ok (.aload_n 0, 1) := by decide +kernel
theorem dX9_receive_78 : decode cX9_receive 78 = .ok (.getfield 10, 3) := by decide +kernel
theorem dX9_receive_81 : decode cX9_receive 81 = .ok (.invokevirtual 141, 3) := by decide +kernel
theorem dX9_receive_84 : decode cX9_receive 84 = .ok (.iinc 4 1, 3) := by decide +kernel
theorem dX9_receive_87 : decode cX9_receive 87 = .ok (.goto (-44), 3) := by decide +kernel
theorem dX9_receive_90 : decode cX9_receive 90 = .ok (.aload_n 0, 1) := by decide +kernel
theorem dX9_receive_91 : decode cX9_receive 91 = .ok (.getfield 40, 3) := by decide +kernel
theorem dX9_receive_94 : decode cX9_receive 94 = .ok (.getfield 121, 3) := by decide +kernel
theorem dX9_receive_97 : decode cX9_receive 97 = .ok (.iload_n 2, 1) := by decide +kernel
theorem dX9_receive_98 : decode cX9_receive 98 = .ok (.isub, 1) := by decide +kernel
theorem dX9_receive_99 : decode cX9_receive 99 = .ok (.ireturn, 1) := by decide +kernel
theorem dX9_state_0 : decode cX9_state 0 = .ok (.aload_n 0, 1) := by decide +kernel
theorem dX9_state_1 : decode cX9_state 1 = .ok (.getfield 33, 3) := by decide +kernel
theorem dX9_state_4 : decode cX9_state 4 = .ok (.getfield 145, 3) := by decide +kernel
theorem dX9_state_7 : decode cX9_state 7 = .ok (.ireturn, 1) := by decide +kernel
theorem dX9_taken_0 : decode cX9_taken 0 = .ok (.aload_n 0, 1) := by decide +kernel
theorem dX9_taken_1 : decode cX9_taken 1 = .ok (.getfield 33, 3) := by decide +kernel
theorem dX9_taken_4 : decode cX9_taken 4 = .ok (.getfield 148, 3) := by decide +kernel
theorem dX9_taken_7 : decode cX9_taken 7 = .ok (.ireturn, 1) := by decide +kernel
theorem dX9_frames_0 : decode cX9_frames 0 = .ok (.aload_n 0, 1) := by decide +kernel
theorem dX9_frames_1 : decode cX9_frames 1 = .ok (.getfield 40, 3) := by decide +kernel
theorem dX9_frames_4 : decode cX9_frames 4 = .ok (.getfield 121, 3) := by decide +kernel
theorem dX9_frames_7 : decode cX9_frames 7 = .ok (.ireturn, 1) := by decide +kernel
theorem dX9_lost_0 : decode cX9_lost 0 = .ok (.aload_n 0, 1) := by decide +kernel
theorem dX9_lost_1 : decode cX9_lost 1 = .ok (.getfield 40, 3) := by decide +kernel
theorem dX9_lost_4 : decode cX9_lost 4 = .ok (.getfield 151, 3) := by decide +kernel
theorem dX9_lost_7 : decode cX9_lost 7 = .ok (.ireturn, 1) := by decide +kernel
theorem dX9_repeats_0 : decode cX9_repeats 0 = .ok (.aload_n 0, 1) := by decide +kernel
theorem dX9_repeats_1 : decode cX9_repeats 1 = .ok (.getfield 40, 3) := by decide +kernel
theorem dX9_repeats_4 : decode cX9_repeats 4 = .ok (.getfield 154, 3) := by decide +kernel
theorem dX9_repeats_7 : decode cX9_repeats 7 = .ok (.ireturn, 1) := by decide +kernel
theorem dX9_number_0 : decode cX9_number 0 = .ok (.aload_n 0, 1) := by decide +kernel
theorem dX9_number_1 : decode cX9_number 1 = .ok (.getfield 40, 3) := by decide +kernel
theorem dX9_number_4 : decode cX9_number 4 = .ok (.getfield 121, 3) := by decide +kernel
theorem dX9_number_7 : decode cX9_number 7 = .ok (.ifCond .ne 11, 3) := by decide +kernel
theorem dX9_number_10 : decode cX9_number 10 = .ok (.new 157, 3) := by decide +kernel
theorem dX9_number_13 : decode cX9_number 13 = .ok (.dup, 1) := by decide +kernel
theorem dX9_number_14 : decode cX9_number 14 = .ok (.invokespecial 159, 3) := by decide +kernel
theorem dX9_number_17 : decode cX9_number 17 = .ok (.athrow, 1) := by decide +kernel
theorem dX9_number_18 : decode cX9_number 18 = .ok (.aload_n 0, 1) := by decide +kernel
theorem dX9_number_19 : decode cX9_number 19 = .ok (.getfield 40, 3) := by decide +kernel
theorem dX9_number_22 : decode cX9_number 22 = .ok (.getfield 160, 3) := by decide +kernel
theorem dX9_number_25 : decode cX9_number 25 = .ok (.ireturn, 1) := by decide +kernel
set_option maxRecDepth 20000 in
theorem ggX9_value_X9_existingPoint : GoodIn wsX9_value wsX9_existingPoint := goodIn_ca (goodIn_r _ [5, 6, 7, 8, 9, 10, 11, 12, 13, 14, 15, 24, 25, 26, 27, 28, 29, 30, 31, 32] (by decide +kernel) (by decide +kernel)) (goodIn_sub (fun _ h => List.mem_cons_of_mem _ (List.mem_append_left _ (List.mem_append_right _ h))) (by decide +kernel))
set_option maxRecDepth 20000 in
theorem gX9_value_X9_existingPoint : GoodIn wsX9_value (wsV RX9 71 RX9 yX9_existingPoint wsX9_existingPoint) := goodIn_app (goodIn_of _ (by decide +kernel)) ggX9_value_X9_existingPoint
set_option maxRecDepth 20000 in
theorem ggX9_value_X9_latestOf : GoodIn wsX9_value wsX9_latestOf := goodIn_ca (goodIn_r _ [18, 19, 20, 33, 34, 35, 36, 37, 38, 39, 40, 41, 42, 21, 22, 23] (by decide +kernel) (by decide +kernel)) (goodIn_sub (fun _ h => List.mem_cons_of_mem _ (List.mem_append_right _ h)) (by decide +kernel))
set_option maxRecDepth 20000 in
theorem gX9_value_X9_latestOf : GoodIn wsX9_value (va_wsS RX9 163 yX9_latestOf wsX9_latestOf) := goodIn_app (goodIn_of _ (by decide +kernel)) ggX9_value_X9_latestOf
theorem dX9_value_0 : decode cX9_value 0 = .ok (.aload_n 0, 1) := by decide +kernel
theorem dX9_value_1 : decode cX9_value 1 = .ok (.iload_n 1, 1) := by decide +kernel
theorem dX9_value_2 : decode cX9_value 2 = .ok (.invokevirtual 71, 3) := by decide +kernel
theorem dX9_value_5 : decode cX9_value 5 = .ok (.invokestatic 163, 3) := by decide +kernel
theorem dX9_value_8 : decode cX9_value 8 = .ok (.getfield 167, 3) := by decide +kernel
theorem dX9_value_11 : decode cX9_value 11 = .ok (.ireturn, 1) := by decide +kernel
set_option maxRecDepth 20000 in
theorem ggX9_time_X9_existingPoint : GoodIn wsX9_time wsX9_existingPoint := goodIn_ca (goodIn_r _ [5, 6, 7, 8, 9, 10, 11, 12, 13, 14, 15, 24, 25, 26, 27, 28, 29, 30, 31, 32] (by decide +kernel) (by decide +kernel)) (goodIn_sub (fun _ h => List.mem_cons_of_mem _ (List.mem_append_left _ (List.mem_append_right _ h))) (by decide +kernel))
set_option maxRecDepth 20000 in
theorem gX9_time_X9_existingPoint : GoodIn wsX9_time (wsV RX9 71 RX9 yX9_existingPoint wsX9_existingPoint) := goodIn_app (goodIn_of _ (by decide +kernel)) ggX9_time_X9_existingPoint
set_option maxRecDepth 20000 in
theorem ggX9_time_X9_latestOf : GoodIn wsX9_time wsX9_latestOf := goodIn_ca (goodIn_r _ [18, 19, 20, 33, 34, 35, 36, 37, 38, 39, 40, 41, 42, 21, 22, 23] (by decide +kernel) (by decide +kernel)) (goodIn_sub (fun _ h => List.mem_cons_of_mem _ (List.mem_append_right _ h)) (by decide +kernel))
set_option maxRecDepth 20000 in
theorem gX9_time_X9_latestOf : GoodIn wsX9_time (va_wsS RX9 163 yX9_latestOf wsX9_latestOf) := goodIn_app (goodIn_of _ (by decide +kernel)) ggX9_time_X9_latestOf
theorem dX9_time_0 : decode cX9_time 0 = .ok (.aload_n 0, 1) := by decide +kernel
theorem dX9_time_1 : decode cX9_time 1 = .ok (.iload_n 1, 1) := by decide +kernel
theorem dX9_time_2 : decode cX9_time 2 = .ok (.invokevirtual 71, 3) := by decide +kernel
theorem dX9_time_5 : decode cX9_time 5 = .ok (.invokestatic 163, 3) := by decide +kernel
theorem dX9_time_8 : decode cX9_time 8 = .ok (.getfield 172, 3) := by decide +kernel
theorem dX9_time_11 : decode cX9_time 11 = .ok (.ireturn, 1) := by decide +kernel
set_option maxRecDepth 20000 in
theorem ggX9_samples_X9_existingPoint : GoodIn wsX9_samples wsX9_existingPoint := goodIn_ca (goodIn_r _ [5, 6, 7, 8, 9, 10, 11, 12, 13, 14, 15, 26, 27, 28, 29, 30, 31, 32, 33, 34] (by decide +kernel) (by decide +kernel)) (goodIn_sub (fun _ h => List.mem_cons_of_mem _ (List.mem_append_right _ h)) (by decide +kernel))
set_option maxRecDepth 20000 in
theorem gX9_samples_X9_existingPoint : GoodIn wsX9_samples (wsV RX9 71 RX9 yX9_existingPoint wsX9_existingPoint) := goodIn_app (goodIn_of _ (by decide +kernel)) ggX9_samples_X9_existingPoint
theorem dX9_samples_0 : decode cX9_samples 0 = .ok (.aload_n 0, 1) := by decide +kernel
theorem dX9_samples_1 : decode cX9_samples 1 = .ok (.iload_n 1, 1) := by decide +kernel
theorem dX9_samples_2 : decode cX9_samples 2 = .ok (.invokevirtual 71, 3) := by decide +kernel
theorem dX9_samples_5 : decode cX9_samples 5 = .ok (.getfield 175, 3) := by decide +kernel
theorem dX9_samples_8 : decode cX9_samples 8 = .ok (.ireturn, 1) := by decide +kernel
set_option maxRecDepth 20000 in
theorem ggX9_missing_X9_existingPoint : GoodIn wsX9_missing wsX9_existingPoint := goodIn_ca (goodIn_r _ [5, 6, 7, 8, 9, 10, 11, 12, 13, 14, 15, 26, 27, 28, 29, 30, 31, 32, 33, 34] (by decide +kernel) (by decide +kernel)) (goodIn_sub (fun _ h => List.mem_cons_of_mem _ (List.mem_append_right _ h)) (by decide +kernel))
set_option maxRecDepth 20000 in
theorem gX9_missing_X9_existingPoint : GoodIn wsX9_missing (wsV RX9 71 RX9 yX9_existingPoint wsX9_existingPoint) := goodIn_app (goodIn_of _ (by decide +kernel)) ggX9_missing_X9_existingPoint
theorem dX9_missing_0 : decode cX9_missing 0 = .ok (.aload_n 0, 1) := by decide +kernel
theorem dX9_missing_1 : decode cX9_missing 1 = .ok (.iload_n 1, 1) := by decide +kernel
theorem dX9_missing_2 : decode cX9_missing 2 = .ok (.invokevirtual 71, 3) := by decide +kernel
theorem dX9_missing_5 : decode cX9_missing 5 = .ok (.getfield 178, 3) := by decide +kernel
theorem dX9_missing_8 : decode cX9_missing 8 = .ok (.ireturn, 1) := by decide +kernel
set_option maxRecDepth 20000 in
theorem ggX9_derive_X9_isDerived : GoodIn wsX9_derive wsX9_isDerived := goodIn_r _ [9] (by decide +kernel) (by decide +kernel)
set_option maxRecDepth 20000 in
theorem gX9_derive_X9_isDerived : GoodIn wsX9_derive (va_wsS RX9 181 yX9_isDerived wsX9_isDerived) := goodIn_app (goodIn_of _ (by decide +kernel)) ggX9_derive_X9_isDerived
set_option maxRecDepth 20000 in
theorem ggX9_derive_X9_isOperand : GoodIn wsX9_derive wsX9_isOperand := goodIn_r _ [12, 6, 7, 8, 9] (by decide +kernel) (by decide +kernel)
set_option maxRecDepth 20000 in
theorem gX9_derive_X9_isOperand : GoodIn wsX9_derive (va_wsS RX9 184 yX9_isOperand wsX9_isOperand) := goodIn_app (goodIn_of _ (by decide +kernel)) ggX9_derive_X9_isOperand
set_option maxRecDepth 20000 in
theorem ggX9_derive_X2_wouldNeedItself : GoodIn wsX9_derive wsX2_wouldNeedItself := goodIn_r _ [17, 18, 19, 20, 16, 21, 22, 23, 24, 25, 40, 41, 42, 43, 44, 45] (by decide +kernel) (by decide +kernel)
set_option maxRecDepth 20000 in
theorem gX9_derive_X2_wouldNeedItself : GoodIn wsX9_derive (wsV RX9 187 RX2 yX2_wouldNeedItself wsX2_wouldNeedItself) := goodIn_app (goodIn_of _ (by decide +kernel)) ggX9_derive_X2_wouldNeedItself
set_option maxRecDepth 20000 in
theorem ggX9_derive_X2_define : GoodIn wsX9_derive wsX2_define := goodIn_r _ [29, 30, 31, 32, 16, 33, 18, 41, 42, 43, 44, 45, 40] (by decide +kernel) (by decide +kernel)
set_option maxRecDepth 20000 in
theorem gX9_derive_X2_define : GoodIn wsX9_derive (wsV RX9 191 RX2 yX2_define wsX2_define) := goodIn_app (goodIn_of _ (by decide +kernel)) ggX9_derive_X2_define
theorem dX9_derive_0 : decode cX9_derive 0 = .ok (.iload_n 1, 1) := by decide +kernel
theorem dX9_derive_1 : decode cX9_derive 1 = .ok (.invokestatic 181, 3) := by decide +kernel
theorem dX9_derive_4 : decode cX9_derive 4 = .ok (.ifCond .eq 27, 3) := by decide +kernel
theorem dX9_derive_7 : decode cX9_derive 7 = .ok (.iload_n 2, 1) := by decide +kernel
theorem dX9_derive_8 : decode cX9_derive 8 = .ok (.ifCond .lt 23, 3) := by decide +kernel
theorem dX9_derive_11 : decode cX9_derive 11 = .ok (.iload_n 2, 1) := by decide +kernel
theorem dX9_derive_12 : decode cX9_derive 12 = .ok (.iconst 4, 1) := by decide +kernel
theorem dX9_derive_13 : decode cX9_derive 13 = .ok (.if_icmp .gt 18, 3) := by decide +kernel
theorem dX9_derive_16 : decode cX9_derive 16 = .ok (.iload_n 3, 1) := by decide +kernel
theorem dX9_derive_17 : decode cX9_derive 17 = .ok (.invokestatic 184, 3) := by decide +kernel
theorem dX9_derive_20 : decode cX9_derive 20 = .ok (.ifCond .eq 11, 3) := by decide +kernel
theorem dX9_derive_23 : decode cX9_derive 23 = .ok (.iload 4, 2) := by decide +kernel
theorem dX9_derive_25 : decode cX9_derive 25 = .ok (.invokestatic 184, 3) := by decide +kernel
theorem dX9_derive_28 : decode cX9_derive 28 = .ok (.ifCond .ne 11, 3) := by decide +kernel
theorem dX9_derive_31 : decode cX9_derive 31 = .ok (.new 55, 3) := by decide +kernel
theorem dX9_derive_34 : decode cX9_derive 34 = .ok (.dup, 1) := by decide +kernel
theorem dX9_derive_35 : decode cX9_derive 35 = .ok (.invokespecial 57, 3) := by decide +kernel
theorem dX9_derive_38 : decode cX9_derive 38 = .ok (.athrow, 1) := by decide +kernel
theorem dX9_derive_39 : decode cX9_derive 39 = .ok (.aload_n 0, 1) := by decide +kernel
theorem dX9_derive_40 : decode cX9_derive 40 = .ok (.getfield 47, 3) := by decide +kernel
theorem dX9_derive_43 : decode cX9_derive 43 = .ok (.iload_n 1, 1) := by decide +kernel
theorem dX9_derive_44 : decode cX9_derive 44 = .ok (.iload_n 3, 1) := by decide +kernel
theorem dX9_derive_45 : decode cX9_derive 45 = .ok (.iload 4, 2) := by decide +kernel
theorem dX9_derive_47 : decode cX9_derive 47 = .ok (.invokevirtual 187, 3) := by decide +kernel
theorem dX9_derive_50 : decode cX9_derive 50 = .ok (.ifCond .eq 11, 3) := by decide +kernel
theorem dX9_derive_53 : decode cX9_derive 53 = .ok (.new 65, 3) := by decide +kernel
theorem dX9_derive_56 : decode cX9_derive 56 = .ok (.dup, 1) := by decide +kernel
theorem dX9_derive_57 : decode cX9_derive 57 = .ok (.invokespecial 67, 3) := by decide +kernel
theorem dX9_derive_60 : decode cX9_derive 60 = .ok (.athrow, 1) := by decide +kernel
theorem dX9_derive_61 : decode cX9_derive 61 = .ok (.aload_n 0, 1) := by decide +kernel
theorem dX9_derive_62 : decode cX9_derive 62 = .ok (.getfield 47, 3) := by decide +kernel
theorem dX9_derive_65 : decode cX9_derive 65 = .ok (.iload_n 1, 1) := by decide +kernel
theorem dX9_derive_66 : decode cX9_derive 66 = .ok (.iload_n 2, 1) := by decide +kernel
theorem dX9_derive_67 : decode cX9_derive 67 = .ok (.iload_n 3, 1) := by decide +kernel
theorem dX9_derive_68 : decode cX9_derive 68 = .ok (.iload 4, 2) := by decide +kernel
theorem dX9_derive_70 : decode cX9_derive 70 = .ok (.invokevirtual 191, 3) := by decide +kernel
theorem dX9_derive_73 : decode cX9_derive 73 = .ok (.return_, 1) := by decide +kernel
set_option maxRecDepth 20000 in
theorem ggX9_derivedValue_X9_resultOf : GoodIn wsX9_derivedValue wsX9_resultOf := goodIn_ca (goodIn_ca (goodIn_r _ [5, 6, 7, 8, 9, 10, 11, 12, 13, 4, 14, 15, 16, 17, 18, 19, 20, 21, 22, 23, 24, 25, 26, 27, 28, 29, 30, 31, 32, 33, 34, 35, 36, 37, 38, 39, 40, 41, 42, 43, 44, 45, 46, 47, 48, 49, 50, 51, 52, 53, 54, 55, 56, 57, 58, 59, 60, 61, 62, 63, 64, 65, 66, 67, 68, 69, 70, 71, 72, 73, 74, 78, 79, 80, 81, 82, 83, 75, 76, 77, 84, 85, 86, 87, 88, 89, 90, 91, 92, 93, 94, 95, 96, 97, 98, 99, 100, 101, 102] (by decide +kernel) (by decide +kernel)) (goodIn_sub (fun _ h => List.mem_cons_of_mem _ (List.mem_append_left _ (List.mem_append_right _ h))) (by decide +kernel))) (goodIn_sub (fun _ h => List.mem_cons_of_mem _ (List.mem_append_right _ h)) (by decide +kernel))
set_option maxRecDepth 20000 in
theorem gX9_derivedValue_X9_resultOf : GoodIn wsX9_derivedValue (wsV RX9 195 RX9 yX9_resultOf wsX9_resultOf) := goodIn_app (goodIn_of _ (by decide +kernel)) ggX9_derivedValue_X9_resultOf
theorem dX9_derivedValue_0 : decode cX9_derivedValue 0 = .ok (.aload_n 0, 1) := by decide +kernel
theorem dX9_derivedValue_1 : decode cX9_derivedValue 1 = .ok (.iload_n 1, 1) := by decide +kernel
theorem dX9_derivedValue_2 : decode cX9_derivedValue 2 = .ok (.invokevirtual 195, 3) := by decide +kernel
theorem dX9_derivedValue_5 : decode cX9_derivedValue 5 = .ok (.getfield 167, 3) := by decide +kernel
theorem dX9_derivedValue_8 : decode cX9_derivedValue 8 = .ok (.ireturn, 1) := by decide +kernel
set_option maxRecDepth 20000 in
theorem ggX9_derivedTime_X9_resultOf : GoodIn wsX9_derivedTime wsX9_resultOf := goodIn_ca (goodIn_ca (goodIn_r _ [5, 6, 7, 8, 9, 10, 11, 12, 13, 4, 14, 15, 16, 17, 18, 19, 20, 21, 22, 23, 24, 25, 26, 27, 28, 29, 30, 31, 32, 33, 34, 35, 36, 37, 38, 39, 40, 41, 42, 43, 44, 45, 46, 47, 48, 49, 50, 51, 52, 53, 54, 55, 56, 57, 58, 59, 60, 61, 62, 63, 64, 65, 66, 67, 68, 69, 70, 71, 72, 73, 74, 78, 79, 80, 81, 82, 83, 75, 76, 77, 84, 85, 86, 87, 88, 89, 90, 91, 92, 93, 94, 95, 96, 97, 98, 99, 100, 101, 102] (by decide +kernel) (by decide +kernel)) (goodIn_sub (fun _ h => List.mem_cons_of_mem _ (List.mem_append_left _ (List.mem_append_right _ h))) (by decide +kernel))) (goodIn_sub (fun _ h => List.mem_cons_of_mem _ (List.mem_append_right _ h)) (by decide +kernel))
set_option maxRecDepth 20000 in
theorem gX9_derivedTime_X9_resultOf : GoodIn wsX9_derivedTime (wsV RX9 195 RX9 yX9_resultOf wsX9_resultOf) := goodIn_app (goodIn_of _ (by decide +kernel)) ggX9_derivedTime_X9_resultOf
theorem dX9_derivedTime_0 : decode cX9_derivedTime 0 = .ok (.aload_n 0, 1) := by decide +kernel
theorem dX9_derivedTime_1 : decode cX9_derivedTime 1 = .ok (.iload_n 1, 1) := by decide +kernel
theorem dX9_derivedTime_2 : decode cX9_derivedTime 2 = .ok (.invokevirtual 195, 3) := by decide +kernel
theorem dX9_derivedTime_5 : decode cX9_derivedTime 5 = .ok (.getfield 172, 3) := by decide +kernel
theorem dX9_derivedTime_8 : decode cX9_derivedTime 8 = .ok (.ireturn, 1) := by decide +kernel
set_option maxRecDepth 20000 in
theorem ggX9_matches_X8_syncWordsAt : GoodIn wsX9_matches wsX8_syncWordsAt := goodIn_r _ [8, 9, 16, 17, 18, 19, 20, 21, 22] (by decide +kernel) (by decide +kernel)
set_option maxRecDepth 20000 in
theorem gX9_matches_X8_syncWordsAt : GoodIn wsX9_matches (wsV RX9 199 RX8 yX8_syncWordsAt wsX8_syncWordsAt) := goodIn_app (goodIn_of _ (by decide +kernel)) ggX9_matches_X8_syncWordsAt
theorem dX9_matches_0 : decode cX9_matches 0 = .ok (.iload_n 1, 1) := by decide +kernel
theorem dX9_matches_1 : decode cX9_matches 1 = .ok (.ifCond .lt 9, 3) := by decide +kernel
theorem dX9_matches_4 : decode cX9_matches 4 = .ok (.iload_n 1, 1) := by decide +kernel
theorem dX9_matches_5 : decode cX9_matches 5 = .ok (.bipush 64, 2) := by decide +kernel
theorem dX9_matches_7 : decode cX9_matches 7 = .ok (.if_icmp .lt 11, 3) := by decide +kernel
theorem dX9_matches_10 : decode cX9_matches 10 = .ok (.new 55, 3) := by decide +kernel
theorem dX9_matches_13 : decode cX9_matches 13 = .ok (.dup, 1) := by decide +kernel
theorem dX9_matches_14 : decode cX9_matches 14 = .ok (.invokespecial 57, 3) := by decide +kernel
theorem dX9_matches_17 : decode cX9_matches 17 = .ok (.athrow, 1) := by decide +kernel
theorem dX9_matches_18 : decode cX9_matches 18 = .ok (.aload_n 0, 1) := by decide +kernel
theorem dX9_matches_19 : decode cX9_matches 19 = .ok (.getfield 33, 3) := by decide +kernel
theorem dX9_matches_22 : decode cX9_matches 22 = .ok (.iload_n 1, 1) := by decide +kernel
theorem dX9_matches_23 : decode cX9_matches 23 = .ok (.invokevirtual 199, 3) := by decide +kernel
theorem dX9_matches_26 : decode cX9_matches 26 = .ok (.ireturn, 1) := by decide +kernel
set_option maxRecDepth 20000 in
theorem ggX9_bestOffset_X8_syncWordsAt : GoodIn wsX9_bestOffset wsX8_syncWordsAt := goodIn_r _ [6, 7, 14, 15, 16, 17, 18, 19, 20] (by decide +kernel) (by decide +kernel)
set_option maxRecDepth 20000 in
theorem gX9_bestOffset_X8_syncWordsAt : GoodIn wsX9_bestOffset (wsV RX9 199 RX8 yX8_syncWordsAt wsX8_syncWordsAt) := goodIn_app (goodIn_of _ (by decide +kernel)) ggX9_bestOffset_X8_syncWordsAt
theorem dX9_bestOffset_0 : decode cX9_bestOffset 0 = .ok (.iconst 0, 1) := by decide +kernel
theorem dX9_bestOffset_1 : decode cX9_bestOffset 1 = .ok (.istore_n 1, 1) := by decide +kernel
theorem dX9_bestOffset_2 : decode cX9_bestOffset 2 = .ok (.iconst 1, 1) := by decide +kernel
theorem dX9_bestOffset_3 : decode cX9_bestOffset 3 = .ok (.istore_n 2, 1) := by decide +kernel
theorem dX9_bestOffset_4 : decode cX9_bestOffset 4 = .ok (.iload_n 2, 1) := by decide +kernel
theorem dX9_bestOffset_5 : decode cX9_bestOffset 5 = .ok (.bipush 64, 2) := by decide +kernel
theorem dX9_bestOffset_7 : decode cX9_bestOffset 7 = .ok (.if_icmp .ge 30, 3) := by decide +kernel
theorem dX9_bestOffset_10 : decode cX9_bestOffset 10 = .ok (.aload_n 0, 1) := by decide +kernel
theorem dX9_bestOffset_11 : decode cX9_bestOffset 11 = .ok (.getfield 33, 3) := by decide +kernel
theorem dX9_bestOffset_14 : decode cX9_bestOffset 14 = .ok (.iload_n 2, 1) := by decide +kernel
theorem dX9_bestOffset_15 : decode cX9_bestOffset 15 = .ok (.invokevirtual 199, 3) := by decide +kernel
theorem dX9_bestOffset_18 : decode cX9_bestOffset 18 = .ok (.aload_n 0, 1) := by decide +kernel
theorem dX9_bestOffset_19 : decode cX9_bestOffset 19 = .ok (.getfield 33, 3) := by decide +kernel
theorem dX9_bestOffset_22 : decode cX9_bestOffset 22 = .ok (.iload_n 1, 1) := by decide +kernel
theorem dX9_bestOffset_23 : decode cX9_bestOffset 23 = .ok (.invokevirtual 199, 3) := by decide +kernel
theorem dX9_bestOffset_26 : decode cX9_bestOffset 26 = .ok (.if_icmp .le 5, 3) := by decide +kernel
theorem dX9_bestOffset_29 : decode cX9_bestOffset 29 = .ok (.iload_n 2, 1) := by decide +kernel
theorem dX9_bestOffset_30 : decode cX9_bestOffset 30 = .ok (.istore_n 1, 1) := by decide +kernel
theorem dX9_bestOffset_31 : decode cX9_bestOffset 31 = .ok (.iinc 2 1, 3) := by decide +kernel
theorem dX9_bestOffset_34 : decode cX9_bestOffset 34 = .ok (.goto (-30), 3) := by decide +kernel
theorem dX9_bestOffset_37 : decode cX9_bestOffset 37 = .ok (.iload_n 1, 1) := by decide +kernel
theorem dX9_bestOffset_38 : decode cX9_bestOffset 38 = .ok (.ireturn, 1) := by decide +kernel
theorem dX9_isPointAllowed_0 : decode cX9_isPointAllowed 0 = .ok (.iload_n 1, 1) := by decide +kernel
theorem dX9_isPointAllowed_1 : decode cX9_isPointAllowed 1 = .ok (.ifCond .lt 8, 3) := by decide +kernel
theorem dX9_isPointAllowed_4 : decode cX9_isPointAllowed 4 = .ok (.iload_n 1, 1) := by decide +kernel
theorem dX9_isPointAllowed_5 : decode cX9_isPointAllowed 5 = .ok (.iconst 3, 1) := by decide +kernel
theorem dX9_isPointAllowed_6 : decode cX9_isPointAllowed 6 = .ok (.if_icmp .le 5, 3) := by decide +kernel
theorem dX9_isPointAllowed_9 : decode cX9_isPointAllowed 9 = .ok (.iconst 0, 1) := by decide +kernel
theorem dX9_isPointAllowed_10 : decode cX9_isPointAllowed 10 = .ok (.ireturn, 1) := by decide +kernel
theorem dX9_isPointAllowed_11 : decode cX9_isPointAllowed 11 = .ok (.iload_n 1, 1) := by decide +kernel
theorem dX9_isPointAllowed_12 : decode cX9_isPointAllowed 12 = .ok (.ifCond .ne 7, 3) := by decide +kernel
theorem dX9_isPointAllowed_15 : decode cX9_isPointAllowed 15 = .ok (.iconst 1, 1) := by decide +kernel
theorem dX9_isPointAllowed_16 : decode cX9_isPointAllowed 16 = .ok (.goto 4, 3) := by decide +kernel
theorem dX9_isPointAllowed_19 : decode cX9_isPointAllowed 19 = .ok (.iconst 2, 1) := by decide +kernel
theorem dX9_isPointAllowed_20 : decode cX9_isPointAllowed 20 = .ok (.istore 4, 2) := by decide +kernel
theorem dX9_isPointAllowed_22 : decode cX9_isPointAllowed 22 = .ok (.iload_n 0, 1) := by decide +kernel
theorem dX9_isPointAllowed_23 : decode cX9_isPointAllowed 23 = .ok (.iload 4, 2) := by decide +kernel
theorem dX9_isPointAllowed_25 : decode cX9_isPointAllowed 25 = .ok (.if_icmp .lt 9, 3) := by decide +kernel
theorem dX9_isPointAllowed_28 : decode cX9_isPointAllowed 28 = .ok (.iload_n 0, 1) := by decide +kernel
theorem dX9_isPointAllowed_29 : decode cX9_isPointAllowed 29 = .ok (.bipush 12, 2) := by decide +kernel
theorem dX9_isPointAllowed_31 : decode cX9_isPointAllowed 31 = .ok (.if_icmp .le 5, 3) := by decide +kernel
theorem dX9_isPointAllowed_34 : decode cX9_isPointAllowed 34 = .ok (.iconst 0, 1) := by decide +kernel
theorem dX9_isPointAllowed_35 : decode cX9_isPointAllowed 35 = .ok (.ireturn, 1) := by decide +kernel
theorem dX9_isPointAllowed_36 : decode cX9_isPointAllowed 36 = .ok (.iload_n 2, 1) := by decide +kernel
theorem dX9_isPointAllowed_37 : decode cX9_isPointAllowed 37 = .ok (.iconst 1, 1) := by decide +kernel
theorem dX9_isPointAllowed_38 : decode cX9_isPointAllowed 38 = .ok (.if_icmp .eq 17, 3) := by decide +kernel
theorem dX9_isPointAllowed_41 : decode cX9_isPointAllowed 41 = .ok (.iload_n 3, 1) := by decide +kernel
theorem dX9_isPointAllowed_42 : decode cX9_isPointAllowed 42 = .ok (.ifCond .ne 17, 3) := by decide +kernel
theorem dX9_isPointAllowed_45 : decode cX9_isPointAllowed 45 = .ok (.iload_n 2, 1) := by decide +kernel
theorem dX9_isPointAllowed_46 : decode cX9_isPointAllowed 46 = .ok (.iconst 2, 1) := by decide +kernel
theorem dX9_isPointAllowed_47 : decode cX9_isPointAllowed 47 = .ok (.if_icmp .eq 8, 3) := by decide +kernel
theorem dX9_isPointAllowed_50 : decode cX9_isPointAllowed 50 = .ok (.iload_n 2, 1) := by decide +kernel
theorem dX9_isPointAllowed_51 : decode cX9_isPointAllowed 51 = .ok (.iconst 4, 1) := by decide +kernel
theorem dX9_isPointAllowed_52 : decode cX9_isPointAllowed 52 = .ok (.if_icmp .ne 7, 3) := by decide +kernel
theorem dX9_isPointAllowed_55 : decode cX9_isPointAllowed 55 = .ok (.iconst 1, 1) := by decide +kernel
theorem dX9_isPointAllowed_56 : decode cX9_isPointAllowed 56 = .ok (.goto 4, 3) := by decide +kernel
theorem dX9_isPointAllowed_59 : decode cX9_isPointAllowed 59 = .ok (.iconst 0, 1) := by decide +kernel
theorem dX9_isPointAllowed_60 : decode cX9_isPointAllowed 60 = .ok (.ireturn, 1) := by decide +kernel
theorem dX9_isDerived_0 : decode cX9_isDerived 0 = .ok (.iload_n 0, 1) := by decide +kernel
theorem dX9_isDerived_1 : decode cX9_isDerived 1 = .ok (.ifCond .lt 13, 3) := by decide +kernel
theorem dX9_isDerived_4 : decode cX9_isDerived 4 = .ok (.iload_n 0, 1) := by decide +kernel
theorem dX9_isDerived_5 : decode cX9_isDerived 5 = .ok (.bipush 8, 2) := by decide +kernel
theorem dX9_isDerived_7 : decode cX9_isDerived 7 = .ok (.if_icmp .ge 7, 3) := by decide +kernel
theorem dX9_isDerived_10 : decode cX9_isDerived 10 = .ok (.iconst 1, 1) := by decide +kernel
theorem dX9_isDerived_11 : decode cX9_isDerived 11 = .ok (.goto 4, 3) := by decide +kernel
theorem dX9_isDerived_14 : decode cX9_isDerived 14 = .ok (.iconst 0, 1) := by decide +kernel
theorem dX9_isDerived_15 : decode cX9_isDerived 15 = .ok (.ireturn, 1) := by decide +kernel
set_option maxRecDepth 20000 in
theorem ggX9_isOperand_X9_isDerived : GoodIn wsX9_isOperand wsX9_isDerived := goodIn_r _ [4] (by decide +kernel) (by decide +kernel)
set_option maxRecDepth 20000 in
theorem gX9_isOperand_X9_isDerived : GoodIn wsX9_isOperand (va_wsS RX9 181 yX9_isDerived wsX9_isDerived) := goodIn_app (goodIn_of _ (by decide +kernel)) ggX9_isOperand_X9_isDerived
theorem dX9_isOperand_0 : decode cX9_isOperand 0 = .ok (.iload_n 0, 1) := by decide +kernel
theorem dX9_isOperand_1 : decode cX9_isOperand 1 = .ok (.ifCond .lt 9, 3) := by decide +kernel
theorem dX9_isOperand_4 : decode cX9_isOperand 4 = .ok (.iload_n 0, 1) := by decide +kernel
theorem dX9_isOperand_5 : decode cX9_isOperand 5 = .ok (.bipush 12, 2) := by decide +kernel
theorem dX9_isOperand_7 : decode cX9_isOperand 7 = .ok (.if_icmp .lt 13, 3) := by decide +kernel
theorem dX9_isOperand_10 : decode cX9_isOperand 10 = .ok (.iload_n 0, 1) := by decide +kernel
theorem dX9_isOperand_11 : decode cX9_isOperand 11 = .ok (.bipush 100, 2) := by decide +kernel
theorem dX9_isOperand_13 : decode cX9_isOperand 13 = .ok (.isub, 1) := by decide +kernel
theorem dX9_isOperand_14 : decode cX9_isOperand 14 = .ok (.invokestatic 181, 3) := by decide +kernel
theorem dX9_isOperand_17 : decode cX9_isOperand 17 = .ok (.ifCond .eq 7, 3) := by decide +kernel
theorem dX9_isOperand_20 : decode cX9_isOperand 20 = .ok (.iconst 1, 1) := by decide +kernel
theorem dX9_isOperand_21 : decode cX9_isOperand 21 = .ok (.goto 4, 3) := by decide +kernel
theorem dX9_isOperand_24 : decode cX9_isOperand 24 = .ok (.iconst 0, 1) := by decide +kernel
theorem dX9_isOperand_25 : decode cX9_isOperand 25 = .ok (.ireturn, 1) := by decide +kernel
set_option maxRecDepth 20000 in
theorem ggX9_existingPoint_X5_at : GoodIn wsX9_existingPoint wsX5_at := goodIn_r _ [8, 9, 10, 17, 18, 19] (by decide +kernel) (by decide +kernel)
set_option maxRecDepth 20000 in
theorem gX9_existingPoint_X5_at : GoodIn wsX9_existingPoint (wsV RX9 202 RX5 yX5_at wsX5_at) := goodIn_app (goodIn_of _ (by decide +kernel)) ggX9_existingPoint_X5_at
theorem dX9_existingPoint_0 : decode cX9_existingPoint 0 = .ok (.aload_n 0, 1) := by decide +kernel
theorem dX9_existingPoint_1 : decode cX9_existingPoint 1 = .ok (.getfield 10, 3) := by decide +kernel
theorem dX9_existingPoint_4 : decode cX9_existingPoint 4 = .ok (.iload_n 1, 1) := by decide +kernel
theorem dX9_existingPoint_5 : decode cX9_existingPoint 5 = .ok (.invokevirtual 202, 3) := by decide +kernel
theorem dX9_existingPoint_8 : decode cX9_existingPoint 8 = .ok (.astore_n 2, 1) := by decide +kernel
theorem dX9_existingPoint_9 : decode cX9_existingPoint 9 = .ok (.aload_n 2, 1) := by decide +kernel
theorem dX9_existingPoint_10 : decode cX9_existingPoint 10 = .ok (.ifnonnull 11, 3) := by decide +kernel
theorem dX9_existingPoint_13 : decode cX9_existingPoint 13 = .ok (.new 107, 3) := by decide +kernel
theorem dX9_existingPoint_16 : decode cX9_existingPoint 16 = .ok (.dup, 1) := by decide +kernel
theorem dX9_existingPoint_17 : decode cX9_existingPoint 17 = .ok (.invokespecial 109, 3) := by decide +kernel
theorem dX9_existingPoint_20 : decode cX9_existingPoint 20 = .ok (.athrow, 1) := by decide +kernel
theorem dX9_existingPoint_21 : decode cX9_existingPoint 21 = .ok (.aload_n 2, 1) := by decide +kernel
theorem dX9_existingPoint_22 : decode cX9_existingPoint 22 = .ok (.areturn, 1) := by decide +kernel
theorem dX9_latestOf_0 : decode cX9_latestOf 0 = .ok (.aload_n 0, 1) := by decide +kernel
theorem dX9_latestOf_1 : decode cX9_latestOf 1 = .ok (.getfield 205, 3) := by decide +kernel
theorem dX9_latestOf_4 : decode cX9_latestOf 4 = .ok (.getfield 208, 3) := by decide +kernel
theorem dX9_latestOf_7 : decode cX9_latestOf 7 = .ok (.ifCond .ne 11, 3) := by decide +kernel
theorem dX9_latestOf_10 : decode cX9_latestOf 10 = .ok (.new 157, 3) := by decide +kernel
theorem dX9_latestOf_13 : decode cX9_latestOf 13 = .ok (.dup, 1) := by decide +kernel
theorem dX9_latestOf_14 : decode cX9_latestOf 14 = .ok (.invokespecial 159, 3) := by decide +kernel
theorem dX9_latestOf_17 : decode cX9_latestOf 17 = .ok (.athrow, 1) := by decide +kernel
theorem dX9_latestOf_18 : decode cX9_latestOf 18 = .ok (.aload_n 0, 1) := by decide +kernel
theorem dX9_latestOf_19 : decode cX9_latestOf 19 = .ok (.getfield 205, 3) := by decide +kernel
theorem dX9_latestOf_22 : decode cX9_latestOf 22 = .ok (.areturn, 1) := by decide +kernel
set_option maxRecDepth 20000 in
theorem ggX9_resultOf_X9_isDerived : GoodIn wsX9_resultOf wsX9_isDerived := goodIn_r _ [10] (by decide +kernel) (by decide +kernel)
set_option maxRecDepth 20000 in
theorem gX9_resultOf_X9_isDerived : GoodIn wsX9_resultOf (va_wsS RX9 181 yX9_isDerived wsX9_isDerived) := goodIn_app (goodIn_of _ (by decide +kernel)) ggX9_resultOf_X9_isDerived
set_option maxRecDepth 20000 in
theorem ggX9_resultOf_X2_compute : GoodIn wsX9_resultOf wsX2_compute := goodIn_r _ [15, 16, 17, 18, 19, 20, 21, 22, 23, 24, 25, 14, 26, 27, 28, 29, 30, 31, 32, 33, 34, 35, 36, 37, 38, 39, 40, 41, 42, 43, 44, 45, 46, 47, 48, 49, 50, 51, 52, 53, 54, 55, 56, 57, 58, 59, 60, 61, 62, 63, 64, 65, 66, 67, 68, 69, 70, 80, 81, 82, 83, 84, 85, 77, 78, 79, 86, 87, 88, 89, 90, 91, 92, 93, 94, 95, 96, 97, 98] (by decide +kernel) (by decide +kernel)
set_option maxRecDepth 20000 in
theorem gX9_resultOf_X2_compute : GoodIn wsX9_resultOf (wsV RX9 212 RX2 yX2_compute wsX2_compute) := goodIn_app (goodIn_of _ (by decide +kernel)) ggX9_resultOf_X2_compute
theorem dX9_resultOf_0 : decode cX9_resultOf 0 = .ok (.iload_n 1, 1) := by decide +kernel
theorem dX9_resultOf_1 : decode cX9_resultOf 1 = .ok (.invokestatic 181, 3) := by decide +kernel
theorem dX9_resultOf_4 : decode cX9_resultOf 4 = .ok (.ifCond .ne 11, 3) := by decide +kernel
theorem dX9_resultOf_7 : decode cX9_resultOf 7 = .ok (.new 55, 3) := by decide +kernel
theorem dX9_resultOf_10 : decode cX9_resultOf 10 = .ok (.dup, 1) := by decide +kernel
theorem dX9_resultOf_11 : decode cX9_resultOf 11 = .ok (.invokespecial 57, 3) := by decide +kernel
theorem dX9_resultOf_14 : decode cX9_resultOf 14 = .ok (.athrow, 1) := by decide +kernel
theorem dX9_resultOf_15 : decode cX9_resultOf 15 = .ok (.aload_n 0, 1) := by decide +kernel
theorem dX9_resultOf_16 : decode cX9_resultOf 16 = .ok (.getfield 47, 3) := by decide +kernel
theorem dX9_resultOf_19 : decode cX9_resultOf 19 = .ok (.iload_n 1, 1) := by decide +kernel
theorem dX9_resultOf_20 : decode cX9_resultOf 20 = .ok (.aload_n 0, 1) := by decide +kernel
theorem dX9_resultOf_21 : decode cX9_resultOf 21 = .ok (.getfield 10, 3) := by decide +kernel
theorem dX9_resultOf_24 : decode cX9_resultOf 24 = .ok (.invokevirtual 212, 3) := by decide +kernel
theorem dX9_resultOf_27 : decode cX9_resultOf 27 = .ok (.astore_n 2, 1) := by decide +kernel
theorem dX9_resultOf_28 : decode cX9_resultOf 28 = .ok (.aload_n 2, 1) := by decide +kernel
theorem dX9_resultOf_29 : decode cX9_resultOf 29 = .ok (.ifnull 10, 3) := by decide +kernel
theorem dX9_resultOf_32 : decode cX9_resultOf 32 = .ok (.aload_n 2, 1) := by decide +kernel
theorem dX9_resultOf_33 : decode cX9_resultOf 33 = .ok (.getfield 208, 3) := by decide +kernel
theorem dX9_resultOf_36 : decode cX9_resultOf 36 = .ok (.ifCond .ne 11, 3) := by decide +kernel
theorem dX9_resultOf_39 : decode cX9_resultOf 39 = .ok (.new 157, 3) := by decide +kernel
theorem dX9_resultOf_42 : decode cX9_resultOf 42 = .ok (.dup, 1) := by decide +kernel
theorem dX9_resultOf_43 : decode cX9_resultOf 43 = .ok (.invokespecial 159, 3) := by decide +kernel
theorem dX9_resultOf_46 : decode cX9_resultOf 46 = .ok (.athrow, 1) := by decide +kernel
theorem dX9_resultOf_47 : decode cX9_resultOf 47 = .ok (.aload_n 2, 1) := by decide +kernel
theorem dX9_resultOf_48 : decode cX9_resultOf 48 = .ok (.areturn, 1) := by decide +kernel
theorem dX10_init_0 : decode cX10_init 0 = .ok (.aload_n 0, 1) := by decide +kernel
theorem dX10_init_1 : decode cX10_init 1 = .ok (.invokespecial 1, 3) := by decide +kernel
theorem dX10_init_4 : decode cX10_init 4 = .ok (.aload_n 0, 1) := by decide +kernel
theorem dX10_init_5 : decode cX10_init 5 = .ok (.bipush 12, 2) := by decide +kernel
theorem dX10_init_7 : decode cX10_init 7 = .ok (.newarray .int, 2) := by decide +kernel
theorem dX10_init_9 : decode cX10_init 9 = .ok (.putfield 7, 3) := by decide +kernel
theorem dX10_init_12 : decode cX10_init 12 = .ok (.aload_n 0, 1) := by decide +kernel
theorem dX10_init_13 : decode cX10_init 13 = .ok (.bipush 12, 2) := by decide +kernel
theorem dX10_init_15 : decode cX10_init 15 = .ok (.newarray .int, 2) := by decide +kernel
theorem dX10_init_17 : decode cX10_init 17 = .ok (.putfield 13, 3) := by decide +kernel
theorem dX10_init_20 : decode cX10_init 20 = .ok (.aload_n 0, 1) := by decide +kernel
theorem dX10_init_21 : decode cX10_init 21 = .ok (.bipush 12, 2) := by decide +kernel
theorem dX10_init_23 : decode cX10_init 23 = .ok (.newarray .int, 2) := by decide +kernel
theorem dX10_init_25 : decode cX10_init 25 = .ok (.putfield 16, 3) := by decide +kernel
theorem dX10_init_28 : decode cX10_init 28 = .ok (.aload_n 0, 1) := by decide +kernel
theorem dX10_init_29 : decode cX10_init 29 = .ok (.bipush 12, 2) := by decide +kernel
theorem dX10_init_31 : decode cX10_init 31 = .ok (.newarray .int, 2) := by decide +kernel
theorem dX10_init_33 : decode cX10_init 33 = .ok (.putfield 19, 3) := by decide +kernel
theorem dX10_init_36 : decode cX10_init 36 = .ok (.aload_n 0, 1) := by decide +kernel
theorem dX10_init_37 : decode cX10_init 37 = .ok (.bipush 12, 2) := by decide +kernel
theorem dX10_init_39 : decode cX10_init 39 = .ok (.newarray .int, 2) := by decide +kernel
theorem dX10_init_41 : decode cX10_init 41 = .ok (.putfield 22, 3) := by decide +kernel
theorem dX10_init_44 : decode cX10_init 44 = .ok (.aload_n 0, 1) := by decide +kernel
theorem dX10_init_45 : decode cX10_init 45 = .ok (.bipush 12, 2) := by decide +kernel
theorem dX10_init_47 : decode cX10_init 47 = .ok (.newarray .int, 2) := by decide +kernel
theorem dX10_init_49 : decode cX10_init 49 = .ok (.putfield 25, 3) := by decide +kernel
theorem dX10_init_52 : decode cX10_init 52 = .ok (.aload_n 0, 1) := by decide +kernel
theorem dX10_init_53 : decode cX10_init 53 = .ok (.bipush 12, 2) := by decide +kernel
theorem dX10_init_55 : decode cX10_init 55 = .ok (.newarray .int, 2) := by decide +kernel
theorem dX10_init_57 : decode cX10_init 57 = .ok (.putfield 28, 3) := by decide +kernel
theorem dX10_init_60 : decode cX10_init 60 = .ok (.aload_n 0, 1) := by decide +kernel
theorem dX10_init_61 : decode cX10_init 61 = .ok (.bipush 24, 2) := by decide +kernel
theorem dX10_init_63 : decode cX10_init 63 = .ok (.newarray .int, 2) := by decide +kernel
theorem dX10_init_65 : decode cX10_init 65 = .ok (.putfield 31, 3) := by decide +kernel
theorem dX10_init_68 : decode cX10_init 68 = .ok (.aload_n 0, 1) := by decide +kernel
theorem dX10_init_69 : decode cX10_init 69 = .ok (.sipush 8000, 3) := by decide +kernel
theorem dX10_init_72 : decode cX10_init 72 = .ok (.newarray .int, 2) := by decide +kernel
theorem dX10_init_74 : decode cX10_init 74 = .ok (.putfield 34, 3) := by decide +kernel
theorem dX10_init_77 : decode cX10_init 77 = .ok (.aload_n 0, 1) := by decide +kernel
theorem dX10_init_78 : decode cX10_init 78 = .ok (.sipush 8000, 3) := by decide +kernel
theorem dX10_init_81 : decode cX10_init 81 = .ok (.newarray .int, 2) := by decide +kernel
theorem dX10_init_83 : decode cX10_init 83 = .ok (.putfield 37, 3) := by decide +kernel
theorem dX10_init_86 : decode cX10_init 86 = .ok (.aload_n 0, 1) := by decide +kernel
theorem dX10_init_87 : decode cX10_init 87 = .ok (.bipush 12, 2) := by decide +kernel
theorem dX10_init_89 : decode cX10_init 89 = .ok (.newarray .int, 2) := by decide +kernel
theorem dX10_init_91 : decode cX10_init 91 = .ok (.putfield 40, 3) := by decide +kernel
theorem dX10_init_94 : decode cX10_init 94 = .ok (.aload_n 0, 1) := by decide +kernel
theorem dX10_init_95 : decode cX10_init 95 = .ok (.bipush 12, 2) := by decide +kernel
theorem dX10_init_97 : decode cX10_init 97 = .ok (.newarray .int, 2) := by decide +kernel
theorem dX10_init_99 : decode cX10_init 99 = .ok (.putfield 43, 3) := by decide +kernel
theorem dX10_init_102 : decode cX10_init 102 = .ok (.aload_n 0, 1) := by decide +kernel
theorem dX10_init_103 : decode cX10_init 103 = .ok (.bipush 12, 2) := by decide +kernel
theorem dX10_init_105 : decode cX10_init 105 = .ok (.newarray .int, 2) := by decide +kernel
theorem dX10_init_107 : decode cX10_init 107 = .ok (.putfield 46, 3) := by decide +kernel
theorem dX10_init_110 : decode cX10_init 110 = .ok (.aload_n 0, 1) := by decide +kernel
theorem dX10_init_111 : decode cX10_init 111 = .ok (.bipush 12, 2) := by decide +kernel
theorem dX10_init_113 : decode cX10_init 113 = .ok (.newarray .int, 2) := by decide +kernel
theorem dX10_init_115 : decode cX10_init 115 = .ok (.putfield 49, 3) := by decide +kernel
theorem dX10_init_118 : decode cX10_init 118 = .ok (.aload_n 0, 1) := by decide +kernel
theorem dX10_init_119 : decode cX10_init 119 = .ok (.bipush 8, 2) := by decide +kernel
theorem dX10_init_121 : decode cX10_init 121 = .ok (.newarray .int, 2) := by decide +kernel
theorem dX10_init_123 : decode cX10_init 123 = .ok (.putfield 52, 3) := by decide +kernel
theorem dX10_init_126 : decode cX10_init 126 = .ok (.aload_n 0, 1) := by decide +kernel
theorem dX10_init_127 : decode cX10_init 127 = .ok (.bipush 8, 2) := by decide +kernel
theorem dX10_init_129 : decode cX10_init 129 = .ok (.newarray .int, 2) := by decide +kernel
theorem dX10_init_131 : decode cX10_init 131 = .ok (.putfield 55, 3) := by decide +kernel
theorem dX10_init_134 : decode cX10_init 134 = .ok (.aload_n 0, 1) := by decide +kernel
theorem dX10_init_135 : decode cX10_init 135 = .ok (.bipush 8, 2) := by decide +kernel
theorem dX10_init_137 : decode cX10_init 137 = .ok (.newarray .int, 2) := by decide +kernel
theorem dX10_init_139 : decode cX10_init 139 = .ok (.putfield 58, 3) := by decide +kernel
theorem dX10_init_142 : decode cX10_init 142 = .ok (.aload_n 0, 1) := by decide +kernel
theorem dX10_init_143 : decode cX10_init 143 = .ok (.bipush 8, 2) := by decide +kernel
theorem dX10_init_145 : decode cX10_init 145 = .ok (.newarray .boolean, 2) := by decide +kernel
theorem dX10_init_147 : decode cX10_init 147 = .ok (.putfield 61, 3) := by decide +kernel
theorem dX10_init_150 : decode cX10_init 150 = .ok (.aload_n 0, 1) := by decide +kernel
theorem dX10_init_151 : decode cX10_init 151 = .ok (.bipush 8, 2) := by decide +kernel
theorem dX10_init_153 : decode cX10_init 153 = .ok (.newarray .int, 2) := by decide +kernel
theorem dX10_init_155 : decode cX10_init 155 = .ok (.putfield 65, 3) := by decide +kernel
theorem dX10_init_158 : decode cX10_init 158 = .ok (.aload_n 0, 1) := by decide +kernel
theorem dX10_init_159 : decode cX10_init 159 = .ok (.bipush 8, 2) := by decide +kernel
theorem dX10_init_161 : decode cX10_init 161 = .ok (.newarray .int, 2) := by decide +kernel
theorem dX10_init_163 : decode cX10_init 163 = .ok (.putfield 68, 3) := by decide +kernel
theorem dX10_init_166 : decode cX10_init 166 = .ok (.aload_n 0, 1) := by decide +kernel
theorem dX10_init_167 : decode cX10_init 167 = .ok (.iconst (-1), 1) := by decide +kernel
theorem dX10_init_168 : decode cX10_init 168 = .ok (.putfield 71, 3) := by decide +kernel
theorem dX10_init_171 : decode cX10_init 171 = .ok (.aload_n 0, 1) := by decide +kernel
theorem dX10_init_172 : decode cX10_init 172 = .ok (.iconst (-1), 1) := by decide +kernel
theorem dX10_init_173 : decode cX10_init 173 = .ok (.putfield 75, 3) := by decide +kernel
theorem dX10_init_176 : decode cX10_init 176 = .ok (.iconst 0, 1) := by decide +kernel
theorem dX10_init_177 : decode cX10_init 177 = .ok (.istore_n 1, 1) := by decide +kernel
theorem dX10_init_178 : decode cX10_init 178 = .ok (.iload_n 1, 1) := by decide +kernel
theorem dX10_init_179 : decode cX10_init 179 = .ok (.bipush 8, 2) := by decide +kernel
theorem dX10_init_181 : decode cX10_init 181 = .ok (.if_icmp .ge 16, 3) := by decide +kernel
theorem dX10_init_184 : decode cX10_init 184 = .ok (.aload_n 0, 1) := by decide +kernel
theorem dX10_init_185 : decode cX10_init 185 = .ok (.getfield 52, 3) := by decide +kernel
theorem dX10_init_188 : decode cX10_init 188 = .ok (.iload_n 1, 1) := by decide +kernel
theorem dX10_init_189 : decode cX10_init 189 = .ok (.iconst (-1), 1) := by decide +kernel
theorem dX10_init_190 : decode cX10_init 190 = .ok (.iastore, 1) := by decide +kernel
theorem dX10_init_191 : decode cX10_init 191 = .ok (.iinc 1 1, 3) := by decide +kernel
theorem dX10_init_194 : decode cX10_init 194 = .ok (.goto (-16), 3) := by decide +kernel
theorem dX10_init_197 : decode cX10_init 197 = .ok (.return_, 1) := by decide +kernel
theorem dX10_thrown_0 : decode cX10_thrown 0 = .ok (.aload_n 0, 1) := by decide +kernel
theorem dX10_thrown_1 : decode cX10_thrown 1 = .ok (.getfield 78, 3) := by decide +kernel
theorem dX10_thrown_4 : decode cX10_thrown 4 = .ok (.ireturn, 1) := by decide +kernel
theorem dX10_can_0 : decode cX10_can 0 = .ok (.aload_n 0, 1) := by decide +kernel
theorem dX10_can_1 : decode cX10_can 1 = .ok (.iload_n 1, 1) := by decide +kernel
theorem dX10_can_2 : decode cX10_can 2 = .ok (.putfield 78, 3) := by decide +kernel
theorem dX10_can_5 : decode cX10_can 5 = .ok (.iload_n 1, 1) := by decide +kernel
theorem dX10_can_6 : decode cX10_can 6 = .ok (.ifCond .ne 7, 3) := by decide +kernel
theorem dX10_can_9 : decode cX10_can 9 = .ok (.iconst 1, 1) := by decide +kernel
theorem dX10_can_10 : decode cX10_can 10 = .ok (.goto 4, 3) := by decide +kernel
theorem dX10_can_13 : decode cX10_can 13 = .ok (.iconst 0, 1) := by decide +kernel
theorem dX10_can_14 : decode cX10_can 14 = .ok (.ireturn, 1) := by decide +kernel
theorem dX10_isIn_0 : decode cX10_isIn 0 = .ok (.iload_n 0, 1) := by decide +kernel
theorem dX10_isIn_1 : decode cX10_isIn 1 = .ok (.iload_n 1, 1) := by decide +kernel
theorem dX10_isIn_2 : decode cX10_isIn 2 = .ok (.if_icmp .lt 12, 3) := by decide +kernel
theorem dX10_isIn_5 : decode cX10_isIn 5 = .ok (.iload_n 0, 1) := by decide +kernel
theorem dX10_isIn_6 : decode cX10_isIn 6 = .ok (.iload_n 2, 1) := by decide +kernel
theorem dX10_isIn_7 : decode cX10_isIn 7 = .ok (.if_icmp .gt 7, 3) := by decide +kernel
theorem dX10_isIn_10 : decode cX10_isIn 10 = .ok (.iconst 1, 1) := by decide +kernel
theorem dX10_isIn_11 : decode cX10_isIn 11 = .ok (.goto 4, 3) := by decide +kernel
theorem dX10_isIn_14 : decode cX10_isIn 14 = .ok (.iconst 0, 1) := by decide +kernel
theorem dX10_isIn_15 : decode cX10_isIn 15 = .ok (.ireturn, 1) := by decide +kernel
set_option maxRecDepth 20000 in
theorem ggX10_isPoint_X10_isIn : GoodIn wsX10_isPoint wsX10_isIn := goodIn_r _ [5] (by decide +kernel) (by decide +kernel)
set_option maxRecDepth 20000 in
theorem gX10_isPoint_X10_isIn : GoodIn wsX10_isPoint (va_wsS RX10 84 yX10_isIn wsX10_isIn) := goodIn_app (goodIn_of _ (by decide +kernel)) ggX10_isPoint_X10_isIn
theorem dX10_isPoint_0 : decode cX10_isPoint 0 = .ok (.iload_n 1, 1) := by decide +kernel
theorem dX10_isPoint_1 : decode cX10_isPoint 1 = .ok (.iconst 0, 1) := by decide +kernel
theorem dX10_isPoint_2 : decode cX10_isPoint 2 = .ok (.aload_n 0, 1) := by decide +kernel
theorem dX10_isPoint_3 : decode cX10_isPoint 3 = .ok (.getfield 81, 3) := by decide +kernel
theorem dX10_isPoint_6 : decode cX10_isPoint 6 = .ok (.iconst 1, 1) := by decide +kernel
theorem dX10_isPoint_7 : decode cX10_isPoint 7 = .ok (.isub, 1) := by decide +kernel
theorem dX10_isPoint_8 : decode cX10_isPoint 8 = .ok (.invokestatic 84, 3) := by decide +kernel
theorem dX10_isPoint_11 : decode cX10_isPoint 11 = .ok (.ireturn, 1) := by decide +kernel
theorem dX10_isSent_0 : decode cX10_isSent 0 = .ok (.iload_n 2, 1) := by decide +kernel
theorem dX10_isSent_1 : decode cX10_isSent 1 = .ok (.aload_n 0, 1) := by decide +kernel
theorem dX10_isSent_2 : decode cX10_isSent 2 = .ok (.getfield 16, 3) := by decide +kernel
theorem dX10_isSent_5 : decode cX10_isSent 5 = .ok (.iload_n 1, 1) := by decide +kernel
theorem dX10_isSent_6 : decode cX10_isSent 6 = .ok (.iaload, 1) := by decide +kernel
theorem dX10_isSent_7 : decode cX10_isSent 7 = .ok (.irem, 1) := by decide +kernel
theorem dX10_isSent_8 : decode cX10_isSent 8 = .ok (.aload_n 0, 1) := by decide +kernel
theorem dX10_isSent_9 : decode cX10_isSent 9 = .ok (.getfield 22, 3) := by decide +kernel
theorem dX10_isSent_12 : decode cX10_isSent 12 = .ok (.iload_n 1, 1) := by decide +kernel
theorem dX10_isSent_13 : decode cX10_isSent 13 = .ok (.iaload, 1) := by decide +kernel
theorem dX10_isSent_14 : decode cX10_isSent 14 = .ok (.if_icmp .ne 7, 3) := by decide +kernel
theorem dX10_isSent_17 : decode cX10_isSent 17 = .ok (.iconst 1, 1) := by decide +kernel
theorem dX10_isSent_18 : decode cX10_isSent 18 = .ok (.goto 4, 3) := by decide +kernel
theorem dX10_isSent_21 : decode cX10_isSent 21 = .ok (.iconst 0, 1) := by decide +kernel
theorem dX10_isSent_22 : decode cX10_isSent 22 = .ok (.ireturn, 1) := by decide +kernel
set_option maxRecDepth 20000 in
theorem ggX10_userOf_X10_isSent : GoodIn wsX10_userOf wsX10_isSent := goodIn_r _ [9, 10, 11, 12, 13, 14, 15, 16, 17, 18, 19, 20, 21, 22, 23, 24, 25, 26, 27, 28, 29, 30, 31, 32, 33, 34, 35, 36, 37, 38, 39, 40, 41, 42, 43, 44, 45, 46] (by decide +kernel) (by decide +kernel)
set_option maxRecDepth 20000 in
theorem gX10_userOf_X10_isSent : GoodIn wsX10_userOf (wsV RX10 88 RX10 yX10_isSent wsX10_isSent) := goodIn_app (goodIn_of _ (by decide +kernel)) ggX10_userOf_X10_isSent
theorem dX10_userOf_0 : decode cX10_userOf 0 = .ok (.iconst (-1), 1) := by decide +kernel
theorem dX10_userOf_1 : decode cX10_userOf 1 = .ok (.istore_n 3, 1) := by decide +kernel
theorem dX10_userOf_2 : decode cX10_userOf 2 = .ok (.iconst 0, 1) := by decide +kernel
theorem dX10_userOf_3 : decode cX10_userOf 3 = .ok (.istore 4, 2) := by decide +kernel
theorem dX10_userOf_5 : decode cX10_userOf 5 = .ok (.iload 4, 2) := by decide +kernel
theorem dX10_userOf_7 : decode cX10_userOf 7 = .ok (.aload_n 0, 1) := by decide +kernel
theorem dX10_userOf_8 : decode cX10_userOf 8 = .ok (.getfield 81, 3) := by decide +kernel
theorem dX10_userOf_11 : decode cX10_userOf 11 = .ok (.if_icmp .ge 127, 3) := by decide +kernel
theorem dX10_userOf_14 : decode cX10_userOf 14 = .ok (.iload_n 2, 1) := by decide +kernel
theorem dX10_userOf_15 : decode cX10_userOf 15 = .ok (.aload_n 0, 1) := by decide +kernel
theorem dX10_userOf_16 : decode cX10_userOf 16 = .ok (.getfield 25, 3) := by decide +kernel
theorem dX10_userOf_19 : decode cX10_userOf 19 = .ok (.iload 4, 2) := by decide +kernel
theorem dX10_userOf_21 : decode cX10_userOf 21 = .ok (.iaload, 1) := by decide +kernel
theorem dX10_userOf_22 : decode cX10_userOf 22 = .ok (.if_icmp .lt 26, 3) := by decide +kernel
theorem dX10_userOf_25 : decode cX10_userOf 25 = .ok (.iload_n 2, 1) := by decide +kernel
theorem dX10_userOf_26 : decode cX10_userOf 26 = .ok (.aload_n 0, 1) := by decide +kernel
theorem dX10_userOf_27 : decode cX10_userOf 27 = .ok (.getfield 25, 3) := by decide +kernel
theorem dX10_userOf_30 : decode cX10_userOf 30 = .ok (.iload 4, 2) := by decide +kernel
theorem dX10_userOf_32 : decode cX10_userOf 32 = .ok (.iaload, 1) := by decide +kernel
theorem dX10_userOf_33 : decode cX10_userOf 33 = .ok (.aload_n 0, 1) := by decide +kernel
theorem dX10_userOf_34 : decode cX10_userOf 34 = .ok (.getfield 7, 3) := by decide +kernel
theorem dX10_userOf_37 : decode cX10_userOf 37 = .ok (.iload 4, 2) := by decide +kernel
theorem dX10_userOf_39 : decode cX10_userOf 39 = .ok (.iaload, 1) := by decide +kernel
theorem dX10_userOf_40 : decode cX10_userOf 40 = .ok (.iadd, 1) := by decide +kernel
theorem dX10_userOf_41 : decode cX10_userOf 41 = .ok (.if_icmp .ge 7, 3) := by decide +kernel
theorem dX10_userOf_44 : decode cX10_userOf 44 = .ok (.iconst 1, 1) := by decide +kernel
theorem dX10_userOf_45 : decode cX10_userOf 45 = .ok (.goto 4, 3) := by decide +kernel
theorem dX10_userOf_48 : decode cX10_userOf 48 = .ok (.iconst 0, 1) := by decide +kernel
theorem dX10_userOf_49 : decode cX10_userOf 49 = .ok (.istore 5, 2) := by decide +kernel
theorem dX10_userOf_51 : decode cX10_userOf 51 = .ok (.aload_n 0, 1) := by decide +kernel
theorem dX10_userOf_52 : decode cX10_userOf 52 = .ok (.getfield 19, 3) := by decide +kernel
theorem dX10_userOf_55 : decode cX10_userOf 55 = .ok (.iload 4, 2) := by decide +kernel
theorem dX10_userOf_57 : decode cX10_userOf 57 = .ok (.iaload, 1) := by decide +kernel
theorem dX10_userOf_58 : decode cX10_userOf 58 = .ok (.iconst 2, 1) := by decide +kernel
theorem dX10_userOf_59 : decode cX10_userOf 59 = .ok (.if_icmp .ne 43, 3) := by decide +kernel
theorem dX10_userOf_62 : decode cX10_userOf 62 = .ok (.iload_n 2, 1) := by decide +kernel
theorem dX10_userOf_63 : decode cX10_userOf 63 = .ok (.bipush 24, 2) := by decide +kernel
theorem dX10_userOf_65 : decode cX10_userOf 65 = .ok (.aload_n 0, 1) := by decide +kernel
theorem dX10_userOf_66 : decode cX10_userOf 66 = .ok (.getfield 25, 3) := by decide +kernel
theorem dX10_userOf_69 : decode cX10_userOf 69 = .ok (.iload 4, 2) := by decide +kernel
theorem dX10_userOf_71 : decode cX10_userOf 71 = .ok (.iaload, 1) := by decide +kernel
theorem dX10_userOf_72 : decode cX10_userOf 72 = .ok (.iadd, 1) := by decide +kernel
theorem dX10_userOf_73 : decode cX10_userOf 73 = .ok (.if_icmp .lt 29, 3) := by decide +kernel
theorem dX10_userOf_76 : decode cX10_userOf 76 = .ok (.iload_n 2, 1) := by decide +kernel
theorem dX10_userOf_77 : decode cX10_userOf 77 = .ok (.bipush 24, 2) := by decide +kernel
theorem dX10_userOf_79 : decode cX10_userOf 79 = .ok (.aload_n 0, 1) := by decide +kernel
theorem dX10_userOf_80 : decode cX10_userOf 80 = .ok (.getfield 25, 3) := by decide +kernel
theorem dX10_userOf_83 : decode cX10_userOf 83 = .ok (.iload 4, 2) := by decide +kernel
theorem dX10_userOf_85 : decode cX10_userOf 85 = .ok (.iaload, 1) := by decide +kernel
theorem dX10_userOf_86 : decode cX10_userOf 86 = .ok (.iadd, 1) := by decide +kernel
theorem dX10_userOf_87 : decode cX10_userOf 87 = .ok (.aload_n 0, 1) := by decide +kernel
theorem dX10_userOf_88 : decode cX10_userOf 88 = .ok (.getfield 7, 3) := by decide +kernel
theorem dX10_userOf_91 : decode cX10_userOf 91 = .ok (.iload 4, 2) := by decide +kernel
theorem dX10_userOf_93 : decode cX10_userOf 93 = .ok (.iaload, 1) := by decide +kernel
theorem dX10_userOf_94 : decode cX10_userOf 94 = .ok (.iadd, 1) := by decide +kernel
theorem dX10_userOf_95 : decode cX10_userOf 95 = .ok (.if_icmp .ge 7, 3) := by decide +kernel
theorem dX10_userOf_98 : decode cX10_userOf 98 = .ok (.iconst 1, 1) := by decide +kernel
theorem dX10_userOf_99 : decode cX10_userOf 99 = .ok (.goto 4, 3) := by decide +kernel
theorem dX10_userOf_102 : decode cX10_userOf 102 = .ok (.iconst 0, 1) := by decide +kernel
theorem dX10_userOf_103 : decode cX10_userOf 103 = .ok (.istore 6, 2) := by decide +kernel
theorem dX10_userOf_105 : decode cX10_userOf 105 = .ok (.aload_n 0, 1) := by decide +kernel
theorem dX10_userOf_106 : decode cX10_userOf 106 = .ok (.iload 4, 2) := by decide +kernel
theorem dX10_userOf_108 : decode cX10_userOf 108 = .ok (.iload_n 1, 1) := by decide +kernel
theorem dX10_userOf_109 : decode cX10_userOf 109 = .ok (.invokevirtual 88, 3) := by decide +kernel
theorem dX10_userOf_112 : decode cX10_userOf 112 = .ok (.ifCond .eq 18, 3) := by decide +kernel
theorem dX10_userOf_115 : decode cX10_userOf 115 = .ok (.iload 5, 2) := by decide +kernel
theorem dX10_userOf_117 : decode cX10_userOf 117 = .ok (.ifCond .ne 8, 3) := by decide +kernel
theorem dX10_userOf_120 : decode cX10_userOf 120 = .ok (.iload 6, 2) := by decide +kernel
theorem dX10_userOf_122 : decode cX10_userOf 122 = .ok (.ifCond .eq 8, 3) := by decide +kernel
theorem dX10_userOf_125 : decode cX10_userOf 125 = .ok (.iload 4, 2) := by decide +kernel
theorem dX10_userOf_127 : decode cX10_userOf 127 = .ok (.goto 4, 3) := by decide +kernel
theorem dX10_userOf_130 : decode cX10_userOf 130 = .ok (.iload_n 3, 1) := by decide +kernel
theorem dX10_userOf_131 : decode cX10_userOf 131 = .ok (.istore_n 3, 1) := by decide +kernel
theorem dX10_userOf_132 : decode cX10_userOf 132 = .ok (.iinc 4 1, 3) := by decide +kernel
theorem dX10_userOf_135 : decode cX10_userOf 135 = .ok (.goto (-130), 3) := by decide +kernel
theorem dX10_userOf_138 : decode cX10_userOf 138 = .ok (.iload_n 3, 1) := by decide +kernel
theorem dX10_userOf_139 : decode cX10_userOf 139 = .ok (.ireturn, 1) := by decide +kernel
set_option maxRecDepth 20000 in
theorem ggX10_isFree_X10_userOf : GoodIn wsX10_isFree wsX10_userOf := goodIn_r _ [5, 6, 7, 8, 9, 10, 11, 12, 4, 13, 14, 15, 16, 17, 18, 19, 20, 21, 22, 23, 24, 25, 26, 27, 28, 29, 30, 31, 32, 33, 34, 35, 36, 37, 38, 39, 40, 41, 42, 43, 44, 45, 46, 47, 48, 49, 50] (by decide +kernel) (by decide +kernel)
set_option maxRecDepth 20000 in
theorem gX10_isFree_X10_userOf : GoodIn wsX10_isFree (wsV RX10 92 RX10 yX10_userOf wsX10_userOf) := goodIn_app (goodIn_of _ (by decide +kernel)) ggX10_isFree_X10_userOf
theorem dX10_isFree_0 : decode cX10_isFree 0 = .ok (.iconst 1, 1) := by decide +kernel
theorem dX10_isFree_1 : decode cX10_isFree 1 = .ok (.istore 6, 2) := by decide +kernel
theorem dX10_isFree_3 : decode cX10_isFree 3 = .ok (.iload_n 3, 1) := by decide +kernel
theorem dX10_isFree_4 : decode cX10_isFree 4 = .ok (.istore 7, 2) := by decide +kernel
theorem dX10_isFree_6 : decode cX10_isFree 6 = .ok (.iload 7, 2) := by decide +kernel
theorem dX10_isFree_8 : decode cX10_isFree 8 = .ok (.iconst 4, 1) := by decide +kernel
theorem dX10_isFree_9 : decode cX10_isFree 9 = .ok (.if_icmp .ge 77, 3) := by decide +kernel
theorem dX10_isFree_12 : decode cX10_isFree 12 = .ok (.iconst 0, 1) := by decide +kernel
theorem dX10_isFree_13 : decode cX10_isFree 13 = .ok (.istore 8, 2) := by decide +kernel
theorem dX10_isFree_15 : decode cX10_isFree 15 = .ok (.iload 8, 2) := by decide +kernel
theorem dX10_isFree_17 : decode cX10_isFree 17 = .ok (.iload_n 2, 1) := by decide +kernel
theorem dX10_isFree_18 : decode cX10_isFree 18 = .ok (.if_icmp .ge 58, 3) := by decide +kernel
theorem dX10_isFree_21 : decode cX10_isFree 21 = .ok (.iload 6, 2) := by decide +kernel
theorem dX10_isFree_23 : decode cX10_isFree 23 = .ok (.ifCond .eq 44, 3) := by decide +kernel
theorem dX10_isFree_26 : decode cX10_isFree 26 = .ok (.aload_n 0, 1) := by decide +kernel
theorem dX10_isFree_27 : decode cX10_isFree 27 = .ok (.iload 7, 2) := by decide +kernel
theorem dX10_isFree_29 : decode cX10_isFree 29 = .ok (.iload_n 1, 1) := by decide +kernel
theorem dX10_isFree_30 : decode cX10_isFree 30 = .ok (.iload 8, 2) := by decide +kernel
theorem dX10_isFree_32 : decode cX10_isFree 32 = .ok (.iadd, 1) := by decide +kernel
theorem dX10_isFree_33 : decode cX10_isFree 33 = .ok (.invokevirtual 92, 3) := by decide +kernel
theorem dX10_isFree_36 : decode cX10_isFree 36 = .ok (.iconst (-1), 1) := by decide +kernel
theorem dX10_isFree_37 : decode cX10_isFree 37 = .ok (.if_icmp .ne 30, 3) := by decide +kernel
theorem dX10_isFree_40 : decode cX10_isFree 40 = .ok (.iload 5, 2) := by decide +kernel
theorem dX10_isFree_42 : decode cX10_isFree 42 = .ok (.iconst 1, 1) := by decide +kernel
