theorem dL_draw_0 : decode cL_draw 0 = .ok (.iload_n 1, 1) := by decide +kernel
theorem dL_draw_1 : decode cL_draw 1 = .ok (.aload_n 0, 1) := by decide +kernel
theorem dL_draw_2 : decode cL_draw 2 = .ok (.arraylength, 1) := by decide +kernel
theorem dL_draw_3 : decode cL_draw 3 = .ok (.if_icmp .ge 9, 3) := by decide +kernel
theorem dL_draw_6 : decode cL_draw 6 = .ok (.aload_n 0, 1) := by decide +kernel
theorem dL_draw_7 : decode cL_draw 7 = .ok (.iload_n 1, 1) := by decide +kernel
theorem dL_draw_8 : decode cL_draw 8 = .ok (.iaload, 1) := by decide +kernel
theorem dL_draw_9 : decode cL_draw 9 = .ok (.goto 13, 3) := by decide +kernel
theorem dL_draw_12 : decode cL_draw 12 = .ok (.ldc 7, 2) := by decide +kernel
theorem dL_draw_14 : decode cL_draw 14 = .ok (.iload_n 1, 1) := by decide +kernel
theorem dL_draw_15 : decode cL_draw 15 = .ok (.bipush 29, 2) := by decide +kernel
theorem dL_draw_17 : decode cL_draw 17 = .ok (.iadd, 1) := by decide +kernel
theorem dL_draw_18 : decode cL_draw 18 = .ok (.imul, 1) := by decide +kernel
theorem dL_draw_19 : decode cL_draw 19 = .ok (.ldc 8, 2) := by decide +kernel
theorem dL_draw_21 : decode cL_draw 21 = .ok (.iadd, 1) := by decide +kernel
theorem dL_draw_22 : decode cL_draw 22 = .ok (.istore_n 3, 1) := by decide +kernel
theorem dL_draw_23 : decode cL_draw 23 = .ok (.iload_n 3, 1) := by decide +kernel
theorem dL_draw_24 : decode cL_draw 24 = .ok (.ldc 9, 2) := by decide +kernel
theorem dL_draw_26 : decode cL_draw 26 = .ok (.iand, 1) := by decide +kernel
theorem dL_draw_27 : decode cL_draw 27 = .ok (.iload_n 2, 1) := by decide +kernel
theorem dL_draw_28 : decode cL_draw 28 = .ok (.irem, 1) := by decide +kernel
theorem dL_draw_29 : decode cL_draw 29 = .ok (.ireturn, 1) := by decide +kernel
theorem dL_asks_0 : decode cL_asks 0 = .ok (.iload_n 1, 1) := by decide +kernel
theorem dL_asks_1 : decode cL_asks 1 = .ok (.ifCond .ne 11, 3) := by decide +kernel
theorem dL_asks_4 : decode cL_asks 4 = .ok (.aload_n 0, 1) := by decide +kernel
theorem dL_asks_5 : decode cL_asks 5 = .ok (.iload_n 2, 1) := by decide +kernel
theorem dL_asks_6 : decode cL_asks 6 = .ok (.invokevirtual 10, 3) := by decide +kernel
theorem dL_asks_9 : decode cL_asks 9 = .ok (.goto 46, 3) := by decide +kernel
theorem dL_asks_12 : decode cL_asks 12 = .ok (.iload_n 1, 1) := by decide +kernel
theorem dL_asks_13 : decode cL_asks 13 = .ok (.iconst 1, 1) := by decide +kernel
theorem dL_asks_14 : decode cL_asks 14 = .ok (.if_icmp .ne 11, 3) := by decide +kernel
theorem dL_asks_17 : decode cL_asks 17 = .ok (.aload_n 0, 1) := by decide +kernel
theorem dL_asks_18 : decode cL_asks 18 = .ok (.iload_n 2, 1) := by decide +kernel
theorem dL_asks_19 : decode cL_asks 19 = .ok (.invokevirtual 16, 3) := by decide +kernel
theorem dL_asks_22 : decode cL_asks 22 = .ok (.goto 33, 3) := by decide +kernel
theorem dL_asks_25 : decode cL_asks 25 = .ok (.iload_n 1, 1) := by decide +kernel
theorem dL_asks_26 : decode cL_asks 26 = .ok (.iconst 2, 1) := by decide +kernel
theorem dL_asks_27 : decode cL_asks 27 = .ok (.if_icmp .ne 10, 3) := by decide +kernel
theorem dL_asks_30 : decode cL_asks 30 = .ok (.aload_n 0, 1) := by decide +kernel
theorem dL_asks_31 : decode cL_asks 31 = .ok (.invokevirtual 19, 3) := by decide +kernel
theorem dL_asks_34 : decode cL_asks 34 = .ok (.goto 21, 3) := by decide +kernel
theorem dL_asks_37 : decode cL_asks 37 = .ok (.iload_n 1, 1) := by decide +kernel
theorem dL_asks_38 : decode cL_asks 38 = .ok (.iconst 3, 1) := by decide +kernel
theorem dL_asks_39 : decode cL_asks 39 = .ok (.if_icmp .ne 11, 3) := by decide +kernel
theorem dL_asks_42 : decode cL_asks 42 = .ok (.aload_n 0, 1) := by decide +kernel
theorem dL_asks_43 : decode cL_asks 43 = .ok (.iload_n 2, 1) := by decide +kernel
theorem dL_asks_44 : decode cL_asks 44 = .ok (.invokevirtual 23, 3) := by decide +kernel
theorem dL_asks_47 : decode cL_asks 47 = .ok (.goto 8, 3) := by decide +kernel
theorem dL_asks_50 : decode cL_asks 50 = .ok (.aload_n 0, 1) := by decide +kernel
theorem dL_asks_51 : decode cL_asks 51 = .ok (.iload_n 2, 1) := by decide +kernel
theorem dL_asks_52 : decode cL_asks 52 = .ok (.invokevirtual 26, 3) := by decide +kernel
theorem dL_asks_55 : decode cL_asks 55 = .ok (.ireturn, 1) := by decide +kernel
theorem dL_asks_56 : decode cL_asks 56 = .ok (.astore_n 3, 1) := by decide +kernel
theorem dL_asks_57 : decode cL_asks 57 = .ok (.ldc 31, 2) := by decide +kernel
theorem dL_asks_59 : decode cL_asks 59 = .ok (.ireturn, 1) := by decide +kernel
theorem dL_sets_0 : decode cL_sets 0 = .ok (.aload_n 0, 1) := by decide +kernel
theorem dL_sets_1 : decode cL_sets 1 = .ok (.iload_n 1, 1) := by decide +kernel
theorem dL_sets_2 : decode cL_sets 2 = .ok (.iload_n 2, 1) := by decide +kernel
theorem dL_sets_3 : decode cL_sets 3 = .ok (.iload_n 3, 1) := by decide +kernel
theorem dL_sets_4 : decode cL_sets 4 = .ok (.iload 4, 2) := by decide +kernel
theorem dL_sets_6 : decode cL_sets 6 = .ok (.invokevirtual 32, 3) := by decide +kernel
theorem dL_sets_9 : decode cL_sets 9 = .ok (.iconst 1, 1) := by decide +kernel
theorem dL_sets_10 : decode cL_sets 10 = .ok (.ireturn, 1) := by decide +kernel
theorem dL_sets_11 : decode cL_sets 11 = .ok (.astore 5, 2) := by decide +kernel
theorem dL_sets_13 : decode cL_sets 13 = .ok (.iconst 0, 1) := by decide +kernel
theorem dL_sets_14 : decode cL_sets 14 = .ok (.ireturn, 1) := by decide +kernel
theorem dL_adds_0 : decode cL_adds 0 = .ok (.aload_n 0, 1) := by decide +kernel
theorem dL_adds_1 : decode cL_adds 1 = .ok (.iload_n 1, 1) := by decide +kernel
theorem dL_adds_2 : decode cL_adds 2 = .ok (.iload_n 2, 1) := by decide +kernel
theorem dL_adds_3 : decode cL_adds 3 = .ok (.iload_n 3, 1) := by decide +kernel
theorem dL_adds_4 : decode cL_adds 4 = .ok (.iload 4, 2) := by decide +kernel
theorem dL_adds_6 : decode cL_adds 6 = .ok (.invokevirtual 38, 3) := by decide +kernel
theorem dL_adds_9 : decode cL_adds 9 = .ok (.ireturn, 1) := by decide +kernel
theorem dL_adds_10 : decode cL_adds 10 = .ok (.astore 5, 2) := by decide +kernel
theorem dL_adds_12 : decode cL_adds 12 = .ok (.iconst (-1), 1) := by decide +kernel
theorem dL_adds_13 : decode cL_adds 13 = .ok (.ireturn, 1) := by decide +kernel
theorem dL_place_0 : decode cL_place 0 = .ok (.iconst 0, 1) := by decide +kernel
theorem dL_place_1 : decode cL_place 1 = .ok (.istore 4, 2) := by decide +kernel
theorem dL_place_3 : decode cL_place 3 = .ok (.iload 4, 2) := by decide +kernel
theorem dL_place_5 : decode cL_place 5 = .ok (.iload_n 2, 1) := by decide +kernel
theorem dL_place_6 : decode cL_place 6 = .ok (.if_icmp .ge 118, 3) := by decide +kernel
theorem dL_place_9 : decode cL_place 9 = .ok (.iconst 0, 1) := by decide +kernel
theorem dL_place_10 : decode cL_place 10 = .ok (.istore 5, 2) := by decide +kernel
theorem dL_place_12 : decode cL_place 12 = .ok (.iload 5, 2) := by decide +kernel
theorem dL_place_14 : decode cL_place 14 = .ok (.iload_n 1, 1) := by decide +kernel
theorem dL_place_15 : decode cL_place 15 = .ok (.iadd, 1) := by decide +kernel
theorem dL_place_16 : decode cL_place 16 = .ok (.bipush 48, 2) := by decide +kernel
theorem dL_place_18 : decode cL_place 18 = .ok (.iload_n 3, 1) := by decide +kernel
theorem dL_place_19 : decode cL_place 19 = .ok (.idiv, 1) := by decide +kernel
theorem dL_place_20 : decode cL_place 20 = .ok (.if_icmp .gt 98, 3) := by decide +kernel
theorem dL_place_23 : decode cL_place 23 = .ok (.lconst 1, 1) := by decide +kernel
theorem dL_place_24 : decode cL_place 24 = .ok (.iload_n 1, 1) := by decide +kernel
theorem dL_place_25 : decode cL_place 25 = .ok (.lshl, 1) := by decide +kernel
theorem dL_place_26 : decode cL_place 26 = .ok (.lconst 1, 1) := by decide +kernel
theorem dL_place_27 : decode cL_place 27 = .ok (.lsub, 1) := by decide +kernel
theorem dL_place_28 : decode cL_place 28 = .ok (.iload 5, 2) := by decide +kernel
theorem dL_place_30 : decode cL_place 30 = .ok (.lshl, 1) := by decide +kernel
theorem dL_place_31 : decode cL_place 31 = .ok (.lstore 6, 2) := by decide +kernel
theorem dL_place_33 : decode cL_place 33 = .ok (.lload 6, 2) := by decide +kernel
theorem dL_place_35 : decode cL_place 35 = .ok (.iload_n 3, 1) := by decide +kernel
theorem dL_place_36 : decode cL_place 36 = .ok (.iconst 2, 1) := by decide +kernel
theorem dL_place_37 : decode cL_place 37 = .ok (.if_icmp .ne 11, 3) := by decide +kernel
theorem dL_place_40 : decode cL_place 40 = .ok (.lload 6, 2) := by decide +kernel
theorem dL_place_42 : decode cL_place 42 = .ok (.bipush 24, 2) := by decide +kernel
theorem dL_place_44 : decode cL_place 44 = .ok (.lshl, 1) := by decide +kernel
theorem dL_place_45 : decode cL_place 45 = .ok (.goto 4, 3) := by decide +kernel
theorem dL_place_48 : decode cL_place 48 = .ok (.lconst 0, 1) := by decide +kernel
theorem dL_place_49 : decode cL_place 49 = .ok (.lor, 1) := by decide +kernel
theorem dL_place_50 : decode cL_place 50 = .ok (.lstore 6, 2) := by decide +kernel
theorem dL_place_52 : decode cL_place 52 = .ok (.iconst 1, 1) := by decide +kernel
theorem dL_place_53 : decode cL_place 53 = .ok (.istore 8, 2) := by decide +kernel
theorem dL_place_55 : decode cL_place 55 = .ok (.iload 4, 2) := by decide +kernel
theorem dL_place_57 : decode cL_place 57 = .ok (.istore 9, 2) := by decide +kernel
theorem dL_place_59 : decode cL_place 59 = .ok (.iload 9, 2) := by decide +kernel
theorem dL_place_61 : decode cL_place 61 = .ok (.iconst 4, 1) := by decide +kernel
theorem dL_place_62 : decode cL_place 62 = .ok (.if_icmp .ge 36, 3) := by decide +kernel
theorem dL_place_65 : decode cL_place 65 = .ok (.iload 8, 2) := by decide +kernel
theorem dL_place_67 : decode cL_place 67 = .ok (.ifCond .eq 19, 3) := by decide +kernel
theorem dL_place_70 : decode cL_place 70 = .ok (.aload_n 0, 1) := by decide +kernel
theorem dL_place_71 : decode cL_place 71 = .ok (.iload 9, 2) := by decide +kernel
theorem dL_place_73 : decode cL_place 73 = .ok (.laload, 1) := by decide +kernel
theorem dL_place_74 : decode cL_place 74 = .ok (.lload 6, 2) := by decide +kernel
theorem dL_place_76 : decode cL_place 76 = .ok (.land, 1) := by decide +kernel
theorem dL_place_77 : decode cL_place 77 = .ok (.lconst 0, 1) := by decide +kernel
theorem dL_place_78 : decode cL_place 78 = .ok (.lcmp, 1) := by decide +kernel
theorem dL_place_79 : decode cL_place 79 = .ok (.ifCond .ne 7, 3) := by decide +kernel
theorem dL_place_82 : decode cL_place 82 = .ok (.iconst 1, 1) := by decide +kernel
theorem dL_place_83 : decode cL_place 83 = .ok (.goto 4, 3) := by decide +kernel
theorem dL_place_86 : decode cL_place 86 = .ok (.iconst 0, 1) := by decide +kernel
theorem dL_place_87 : decode cL_place 87 = .ok (.istore 8, 2) := by decide +kernel
theorem dL_place_89 : decode cL_place 89 = .ok (.iload 9, 2) := by decide +kernel
theorem dL_place_91 : decode cL_place 91 = .ok (.iload_n 2, 1) := by decide +kernel
theorem dL_place_92 : decode cL_place 92 = .ok (.iadd, 1) := by decide +kernel
theorem dL_place_93 : decode cL_place 93 = .ok (.istore 9, 2) := by decide +kernel
theorem dL_place_95 : decode cL_place 95 = .ok (.goto (-36), 3) := by decide +kernel
theorem dL_place_98 : decode cL_place 98 = .ok (.iload 8, 2) := by decide +kernel
theorem dL_place_100 : decode cL_place 100 = .ok (.ifCond .eq 12, 3) := by decide +kernel
theorem dL_place_103 : decode cL_place 103 = .ok (.bipush 100, 2) := by decide +kernel
theorem dL_place_105 : decode cL_place 105 = .ok (.iload 4, 2) := by decide +kernel
theorem dL_place_107 : decode cL_place 107 = .ok (.imul, 1) := by decide +kernel
theorem dL_place_108 : decode cL_place 108 = .ok (.iload 5, 2) := by decide +kernel
theorem dL_place_110 : decode cL_place 110 = .ok (.iadd, 1) := by decide +kernel
theorem dL_place_111 : decode cL_place 111 = .ok (.ireturn, 1) := by decide +kernel
theorem dL_place_112 : decode cL_place 112 = .ok (.iinc 5 1, 3) := by decide +kernel
theorem dL_place_115 : decode cL_place 115 = .ok (.goto (-103), 3) := by decide +kernel
theorem dL_place_118 : decode cL_place 118 = .ok (.iinc 4 1, 3) := by decide +kernel
theorem dL_place_121 : decode cL_place 121 = .ok (.goto (-118), 3) := by decide +kernel
theorem dL_place_124 : decode cL_place 124 = .ok (.iconst (-1), 1) := by decide +kernel
theorem dL_place_125 : decode cL_place 125 = .ok (.ireturn, 1) := by decide +kernel
theorem dL_many_0 : decode cL_many 0 = .ok (.iconst 0, 1) := by decide +kernel
theorem dL_many_1 : decode cL_many 1 = .ok (.istore_n 2, 1) := by decide +kernel
theorem dL_many_2 : decode cL_many 2 = .ok (.lload_n 0, 1) := by decide +kernel
theorem dL_many_3 : decode cL_many 3 = .ok (.lstore_n 3, 1) := by decide +kernel
theorem dL_many_4 : decode cL_many 4 = .ok (.lload_n 3, 1) := by decide +kernel
theorem dL_many_5 : decode cL_many 5 = .ok (.lconst 0, 1) := by decide +kernel
theorem dL_many_6 : decode cL_many 6 = .ok (.lcmp, 1) := by decide +kernel
theorem dL_many_7 : decode cL_many 7 = .ok (.ifCond .eq 15, 3) := by decide +kernel
theorem dL_many_10 : decode cL_many 10 = .ok (.iinc 2 1, 3) := by decide +kernel
theorem dL_many_13 : decode cL_many 13 = .ok (.lload_n 3, 1) := by decide +kernel
theorem dL_many_14 : decode cL_many 14 = .ok (.lload_n 3, 1) := by decide +kernel
theorem dL_many_15 : decode cL_many 15 = .ok (.lconst 1, 1) := by decide +kernel
theorem dL_many_16 : decode cL_many 16 = .ok (.lsub, 1) := by decide +kernel
theorem dL_many_17 : decode cL_many 17 = .ok (.land, 1) := by decide +kernel
theorem dL_many_18 : decode cL_many 18 = .ok (.lstore_n 3, 1) := by decide +kernel
theorem dL_many_19 : decode cL_many 19 = .ok (.goto (-15), 3) := by decide +kernel
theorem dL_many_22 : decode cL_many 22 = .ok (.iload_n 2, 1) := by decide +kernel
theorem dL_many_23 : decode cL_many 23 = .ok (.ireturn, 1) := by decide +kernel
theorem dL_points_0 : decode cL_points 0 = .ok (.aload_n 0, 1) := by decide +kernel
theorem dL_points_1 : decode cL_points 1 = .ok (.invokevirtual 42, 3) := by decide +kernel
theorem dL_points_4 : decode cL_points 4 = .ok (.istore 6, 2) := by decide +kernel
theorem dL_points_6 : decode cL_points 6 = .ok (.iload_n 1, 1) := by decide +kernel
theorem dL_points_7 : decode cL_points 7 = .ok (.iconst 4, 1) := by decide +kernel
theorem dL_points_8 : decode cL_points 8 = .ok (.irem, 1) := by decide +kernel
theorem dL_points_9 : decode cL_points 9 = .ok (.istore 7, 2) := by decide +kernel
theorem dL_points_11 : decode cL_points 11 = .ok (.iload 7, 2) := by decide +kernel
theorem dL_points_13 : decode cL_points 13 = .ok (.ifCond .ne 7, 3) := by decide +kernel
theorem dL_points_16 : decode cL_points 16 = .ok (.iconst 1, 1) := by decide +kernel
theorem dL_points_17 : decode cL_points 17 = .ok (.goto 4, 3) := by decide +kernel
theorem dL_points_20 : decode cL_points 20 = .ok (.iconst 2, 1) := by decide +kernel
theorem dL_points_21 : decode cL_points 21 = .ok (.iload_n 1, 1) := by decide +kernel
theorem dL_points_22 : decode cL_points 22 = .ok (.iconst 4, 1) := by decide +kernel
theorem dL_points_23 : decode cL_points 23 = .ok (.idiv, 1) := by decide +kernel
theorem dL_points_24 : decode cL_points 24 = .ok (.iload 7, 2) := by decide +kernel
theorem dL_points_26 : decode cL_points 26 = .ok (.ifCond .ne 8, 3) := by decide +kernel
theorem dL_points_29 : decode cL_points 29 = .ok (.bipush 12, 2) := by decide +kernel
theorem dL_points_31 : decode cL_points 31 = .ok (.goto 5, 3) := by decide +kernel
theorem dL_points_34 : decode cL_points 34 = .ok (.bipush 11, 2) := by decide +kernel
theorem dL_points_36 : decode cL_points 36 = .ok (.irem, 1) := by decide +kernel
theorem dL_points_37 : decode cL_points 37 = .ok (.iadd, 1) := by decide +kernel
theorem dL_points_38 : decode cL_points 38 = .ok (.istore 8, 2) := by decide +kernel
theorem dL_points_40 : decode cL_points 40 = .ok (.iload_n 2, 1) := by decide +kernel
theorem dL_points_41 : decode cL_points 41 = .ok (.iconst 3, 1) := by decide +kernel
theorem dL_points_42 : decode cL_points 42 = .ok (.irem, 1) := by decide +kernel
theorem dL_points_43 : decode cL_points 43 = .ok (.ifCond .ne 7, 3) := by decide +kernel
theorem dL_points_46 : decode cL_points 46 = .ok (.iconst 1, 1) := by decide +kernel
theorem dL_points_47 : decode cL_points 47 = .ok (.goto 15, 3) := by decide +kernel
theorem dL_points_50 : decode cL_points 50 = .ok (.iload_n 2, 1) := by decide +kernel
theorem dL_points_51 : decode cL_points 51 = .ok (.iconst 3, 1) := by decide +kernel
theorem dL_points_52 : decode cL_points 52 = .ok (.irem, 1) := by decide +kernel
theorem dL_points_53 : decode cL_points 53 = .ok (.iconst 1, 1) := by decide +kernel
theorem dL_points_54 : decode cL_points 54 = .ok (.if_icmp .ne 7, 3) := by decide +kernel
theorem dL_points_57 : decode cL_points 57 = .ok (.iconst 2, 1) := by decide +kernel
theorem dL_points_58 : decode cL_points 58 = .ok (.goto 4, 3) := by decide +kernel
theorem dL_points_61 : decode cL_points 61 = .ok (.iconst 4, 1) := by decide +kernel
theorem dL_points_62 : decode cL_points 62 = .ok (.istore 9, 2) := by decide +kernel
theorem dL_points_64 : decode cL_points 64 = .ok (.iload 9, 2) := by decide +kernel
theorem dL_points_66 : decode cL_points 66 = .ok (.iconst 1, 1) := by decide +kernel
theorem dL_points_67 : decode cL_points 67 = .ok (.if_icmp .ne 15, 3) := by decide +kernel
theorem dL_points_70 : decode cL_points 70 = .ok (.iload_n 2, 1) := by decide +kernel
theorem dL_points_71 : decode cL_points 71 = .ok (.iconst 3, 1) := by decide +kernel
theorem dL_points_72 : decode cL_points 72 = .ok (.idiv, 1) := by decide +kernel
theorem dL_points_73 : decode cL_points 73 = .ok (.iconst 2, 1) := by decide +kernel
theorem dL_points_74 : decode cL_points 74 = .ok (.irem, 1) := by decide +kernel
theorem dL_points_75 : decode cL_points 75 = .ok (.ifCond .ne 7, 3) := by decide +kernel
theorem dL_points_78 : decode cL_points 78 = .ok (.iconst 2, 1) := by decide +kernel
theorem dL_points_79 : decode cL_points 79 = .ok (.goto 4, 3) := by decide +kernel
theorem dL_points_82 : decode cL_points 82 = .ok (.iconst 1, 1) := by decide +kernel
theorem dL_points_83 : decode cL_points 83 = .ok (.istore 10, 2) := by decide +kernel
theorem dL_points_85 : decode cL_points 85 = .ok (.iload 6, 2) := by decide +kernel
theorem dL_points_87 : decode cL_points 87 = .ok (.bipush 12, 2) := by decide +kernel
theorem dL_points_89 : decode cL_points 89 = .ok (.if_icmp .eq 10, 3) := by decide +kernel
theorem dL_points_92 : decode cL_points 92 = .ok (.aload 5, 2) := by decide +kernel
theorem dL_points_94 : decode cL_points 94 = .ok (.iconst 0, 1) := by decide +kernel
theorem dL_points_95 : decode cL_points 95 = .ok (.iaload, 1) := by decide +kernel
theorem dL_points_96 : decode cL_points 96 = .ok (.ifCond .le 7, 3) := by decide +kernel
theorem dL_points_99 : decode cL_points 99 = .ok (.iconst (-1), 1) := by decide +kernel
theorem dL_points_100 : decode cL_points 100 = .ok (.goto 14, 3) := by decide +kernel
theorem dL_points_103 : decode cL_points 103 = .ok (.aload 4, 2) := by decide +kernel
theorem dL_points_105 : decode cL_points 105 = .ok (.iload 8, 2) := by decide +kernel
theorem dL_points_107 : decode cL_points 107 = .ok (.iload 9, 2) := by decide +kernel
theorem dL_points_109 : decode cL_points 109 = .ok (.iload 10, 2) := by decide +kernel
theorem dL_points_111 : decode cL_points 111 = .ok (.invokestatic 45, 3) := by decide +kernel
theorem dL_points_114 : decode cL_points 114 = .ok (.istore 11, 2) := by decide +kernel
theorem dL_points_116 : decode cL_points 116 = .ok (.aload_n 0, 1) := by decide +kernel
theorem dL_points_117 : decode cL_points 117 = .ok (.iload 8, 2) := by decide +kernel
theorem dL_points_119 : decode cL_points 119 = .ok (.iload 7, 2) := by decide +kernel
theorem dL_points_121 : decode cL_points 121 = .ok (.iload 9, 2) := by decide +kernel
theorem dL_points_123 : decode cL_points 123 = .ok (.iload 10, 2) := by decide +kernel
theorem dL_points_125 : decode cL_points 125 = .ok (.iconst 2, 1) := by decide +kernel
theorem dL_points_126 : decode cL_points 126 = .ok (.if_icmp .ne 7, 3) := by decide +kernel
theorem dL_points_129 : decode cL_points 129 = .ok (.iconst 1, 1) := by decide +kernel
theorem dL_points_130 : decode cL_points 130 = .ok (.goto 4, 3) := by decide +kernel
theorem dL_points_133 : decode cL_points 133 = .ok (.iconst 0, 1) := by decide +kernel
theorem dL_points_134 : decode cL_points 134 = .ok (.invokestatic 51, 3) := by decide +kernel
theorem dL_points_137 : decode cL_points 137 = .ok (.istore 12, 2) := by decide +kernel
theorem dL_points_139 : decode cL_points 139 = .ok (.iload 11, 2) := by decide +kernel
theorem dL_points_141 : decode cL_points 141 = .ok (.ifCond .ge 24, 3) := by decide +kernel
theorem dL_points_144 : decode cL_points 144 = .ok (.iload 12, 2) := by decide +kernel
theorem dL_points_146 : decode cL_points 146 = .ok (.iconst (-1), 1) := by decide +kernel
theorem dL_points_147 : decode cL_points 147 = .ok (.if_icmp .ne 16, 3) := by decide +kernel
theorem dL_points_150 : decode cL_points 150 = .ok (.aload_n 0, 1) := by decide +kernel
theorem dL_points_151 : decode cL_points 151 = .ok (.invokevirtual 42, 3) := by decide +kernel
theorem dL_points_154 : decode cL_points 154 = .ok (.iload 6, 2) := by decide +kernel
theorem dL_points_156 : decode cL_points 156 = .ok (.if_icmp .ne 7, 3) := by decide +kernel
theorem dL_points_159 : decode cL_points 159 = .ok (.iconst 1, 1) := by decide +kernel
theorem dL_points_160 : decode cL_points 160 = .ok (.goto 4, 3) := by decide +kernel
theorem dL_points_163 : decode cL_points 163 = .ok (.iconst 0, 1) := by decide +kernel
theorem dL_points_164 : decode cL_points 164 = .ok (.ireturn, 1) := by decide +kernel
theorem dL_points_165 : decode cL_points 165 = .ok (.aload_n 3, 1) := by decide +kernel
theorem dL_points_166 : decode cL_points 166 = .ok (.iconst 4, 1) := by decide +kernel
theorem dL_points_167 : decode cL_points 167 = .ok (.iload 6, 2) := by decide +kernel
theorem dL_points_169 : decode cL_points 169 = .ok (.imul, 1) := by decide +kernel
theorem dL_points_170 : decode cL_points 170 = .ok (.iload 8, 2) := by decide +kernel
theorem dL_points_172 : decode cL_points 172 = .ok (.iastore, 1) := by decide +kernel
theorem dL_points_173 : decode cL_points 173 = .ok (.aload_n 3, 1) := by decide +kernel
theorem dL_points_174 : decode cL_points 174 = .ok (.iconst 4, 1) := by decide +kernel
theorem dL_points_175 : decode cL_points 175 = .ok (.iload 6, 2) := by decide +kernel
theorem dL_points_177 : decode cL_points 177 = .ok (.imul, 1) := by decide +kernel
theorem dL_points_178 : decode cL_points 178 = .ok (.iconst 1, 1) := by decide +kernel
theorem dL_points_179 : decode cL_points 179 = .ok (.iadd, 1) := by decide +kernel
theorem dL_points_180 : decode cL_points 180 = .ok (.iload 7, 2) := by decide +kernel
theorem dL_points_182 : decode cL_points 182 = .ok (.iastore, 1) := by decide +kernel
theorem dL_points_183 : decode cL_points 183 = .ok (.aload_n 3, 1) := by decide +kernel
theorem dL_points_184 : decode cL_points 184 = .ok (.iconst 4, 1) := by decide +kernel
theorem dL_points_185 : decode cL_points 185 = .ok (.iload 6, 2) := by decide +kernel
theorem dL_points_187 : decode cL_points 187 = .ok (.imul, 1) := by decide +kernel
theorem dL_points_188 : decode cL_points 188 = .ok (.iconst 2, 1) := by decide +kernel
theorem dL_points_189 : decode cL_points 189 = .ok (.iadd, 1) := by decide +kernel
theorem dL_points_190 : decode cL_points 190 = .ok (.iload 9, 2) := by decide +kernel
theorem dL_points_192 : decode cL_points 192 = .ok (.iastore, 1) := by decide +kernel
theorem dL_points_193 : decode cL_points 193 = .ok (.aload_n 3, 1) := by decide +kernel
theorem dL_points_194 : decode cL_points 194 = .ok (.iconst 4, 1) := by decide +kernel
theorem dL_points_195 : decode cL_points 195 = .ok (.iload 6, 2) := by decide +kernel
theorem dL_points_197 : decode cL_points 197 = .ok (.imul, 1) := by decide +kernel
theorem dL_points_198 : decode cL_points 198 = .ok (.iconst 3, 1) := by decide +kernel
theorem dL_points_199 : decode cL_points 199 = .ok (.iadd, 1) := by decide +kernel
theorem dL_points_200 : decode cL_points 200 = .ok (.iload 10, 2) := by decide +kernel
theorem dL_points_202 : decode cL_points 202 = .ok (.iastore, 1) := by decide +kernel
theorem dL_points_203 : decode cL_points 203 = .ok (.lconst 1, 1) := by decide +kernel
theorem dL_points_204 : decode cL_points 204 = .ok (.iload 8, 2) := by decide +kernel
theorem dL_points_206 : decode cL_points 206 = .ok (.lshl, 1) := by decide +kernel
theorem dL_points_207 : decode cL_points 207 = .ok (.lconst 1, 1) := by decide +kernel
theorem dL_points_208 : decode cL_points 208 = .ok (.lsub, 1) := by decide +kernel
theorem dL_points_209 : decode cL_points 209 = .ok (.iload 11, 2) := by decide +kernel
theorem dL_points_211 : decode cL_points 211 = .ok (.bipush 100, 2) := by decide +kernel
theorem dL_points_213 : decode cL_points 213 = .ok (.irem, 1) := by decide +kernel
theorem dL_points_214 : decode cL_points 214 = .ok (.lshl, 1) := by decide +kernel
theorem dL_points_215 : decode cL_points 215 = .ok (.lstore 13, 2) := by decide +kernel
theorem dL_points_217 : decode cL_points 217 = .ok (.lload 13, 2) := by decide +kernel
theorem dL_points_219 : decode cL_points 219 = .ok (.iload 10, 2) := by decide +kernel
theorem dL_points_221 : decode cL_points 221 = .ok (.iconst 2, 1) := by decide +kernel
theorem dL_points_222 : decode cL_points 222 = .ok (.if_icmp .ne 11, 3) := by decide +kernel
theorem dL_points_225 : decode cL_points 225 = .ok (.lload 13, 2) := by decide +kernel
theorem dL_points_227 : decode cL_points 227 = .ok (.bipush 24, 2) := by decide +kernel
theorem dL_points_229 : decode cL_points 229 = .ok (.lshl, 1) := by decide +kernel
theorem dL_points_230 : decode cL_points 230 = .ok (.goto 4, 3) := by decide +kernel
theorem dL_points_233 : decode cL_points 233 = .ok (.lconst 0, 1) := by decide +kernel
theorem dL_points_234 : decode cL_points 234 = .ok (.lor, 1) := by decide +kernel
theorem dL_points_235 : decode cL_points 235 = .ok (.lstore 13, 2) := by decide +kernel
theorem dL_points_237 : decode cL_points 237 = .ok (.iload 11, 2) := by decide +kernel
theorem dL_points_239 : decode cL_points 239 = .ok (.bipush 100, 2) := by decide +kernel
theorem dL_points_241 : decode cL_points 241 = .ok (.idiv, 1) := by decide +kernel
theorem dL_points_242 : decode cL_points 242 = .ok (.istore 15, 2) := by decide +kernel
theorem dL_points_244 : decode cL_points 244 = .ok (.iload 15, 2) := by decide +kernel
theorem dL_points_246 : decode cL_points 246 = .ok (.iconst 4, 1) := by decide +kernel
theorem dL_points_247 : decode cL_points 247 = .ok (.if_icmp .ge 23, 3) := by decide +kernel
theorem dL_points_250 : decode cL_points 250 = .ok (.aload 4, 2) := by decide +kernel
theorem dL_points_252 : decode cL_points 252 = .ok (.iload 15, 2) := by decide +kernel
theorem dL_points_254 : decode cL_points 254 = .ok (.dup2, 1) := by decide +kernel
theorem dL_points_255 : decode cL_points 255 = .ok (.laload, 1) := by decide +kernel
theorem dL_points_256 : decode cL_points 256 = .ok (.lload 13, 2) := by decide +kernel
theorem dL_points_258 : decode cL_points 258 = .ok (.lor, 1) := by decide +kernel
theorem dL_points_259 : decode cL_points 259 = .ok (.lastore, 1) := by decide +kernel
theorem dL_points_260 : decode cL_points 260 = .ok (.iload 15, 2) := by decide +kernel
theorem dL_points_262 : decode cL_points 262 = .ok (.iload 9, 2) := by decide +kernel
theorem dL_points_264 : decode cL_points 264 = .ok (.iadd, 1) := by decide +kernel
theorem dL_points_265 : decode cL_points 265 = .ok (.istore 15, 2) := by decide +kernel
theorem dL_points_267 : decode cL_points 267 = .ok (.goto (-23), 3) := by decide +kernel
theorem dL_points_270 : decode cL_points 270 = .ok (.iload 12, 2) := by decide +kernel
theorem dL_points_272 : decode cL_points 272 = .ok (.iload 6, 2) := by decide +kernel
theorem dL_points_274 : decode cL_points 274 = .ok (.if_icmp .ne 29, 3) := by decide +kernel
theorem dL_points_277 : decode cL_points 277 = .ok (.aload_n 0, 1) := by decide +kernel
theorem dL_points_278 : decode cL_points 278 = .ok (.invokevirtual 42, 3) := by decide +kernel
theorem dL_points_281 : decode cL_points 281 = .ok (.iload 6, 2) := by decide +kernel
theorem dL_points_283 : decode cL_points 283 = .ok (.iconst 1, 1) := by decide +kernel
theorem dL_points_284 : decode cL_points 284 = .ok (.iadd, 1) := by decide +kernel
theorem dL_points_285 : decode cL_points 285 = .ok (.if_icmp .ne 18, 3) := by decide +kernel
theorem dL_points_288 : decode cL_points 288 = .ok (.aload_n 0, 1) := by decide +kernel
theorem dL_points_289 : decode cL_points 289 = .ok (.iload 6, 2) := by decide +kernel
theorem dL_points_291 : decode cL_points 291 = .ok (.invokevirtual 55, 3) := by decide +kernel
theorem dL_points_294 : decode cL_points 294 = .ok (.iload 11, 2) := by decide +kernel
theorem dL_points_296 : decode cL_points 296 = .ok (.if_icmp .ne 7, 3) := by decide +kernel
theorem dL_points_299 : decode cL_points 299 = .ok (.iconst 1, 1) := by decide +kernel
theorem dL_points_300 : decode cL_points 300 = .ok (.goto 4, 3) := by decide +kernel
theorem dL_points_303 : decode cL_points 303 = .ok (.iconst 0, 1) := by decide +kernel
theorem dL_points_304 : decode cL_points 304 = .ok (.ireturn, 1) := by decide +kernel
theorem dL_least_0 : decode cL_least 0 = .ok (.iconst 1, 1) := by decide +kernel
theorem dL_least_1 : decode cL_least 1 = .ok (.aload_n 0, 1) := by decide +kernel
theorem dL_least_2 : decode cL_least 2 = .ok (.iconst 4, 1) := by decide +kernel
theorem dL_least_3 : decode cL_least 3 = .ok (.iload_n 1, 1) := by decide +kernel
theorem dL_least_4 : decode cL_least 4 = .ok (.imul, 1) := by decide +kernel
theorem dL_least_5 : decode cL_least 5 = .ok (.iaload, 1) := by decide +kernel
theorem dL_least_6 : decode cL_least 6 = .ok (.iconst 1, 1) := by decide +kernel
theorem dL_least_7 : decode cL_least 7 = .ok (.isub, 1) := by decide +kernel
theorem dL_least_8 : decode cL_least 8 = .ok (.ishl, 1) := by decide +kernel
theorem dL_least_9 : decode cL_least 9 = .ok (.istore_n 2, 1) := by decide +kernel
theorem dL_least_10 : decode cL_least 10 = .ok (.aload_n 0, 1) := by decide +kernel
theorem dL_least_11 : decode cL_least 11 = .ok (.iconst 4, 1) := by decide +kernel
theorem dL_least_12 : decode cL_least 12 = .ok (.iload_n 1, 1) := by decide +kernel
theorem dL_least_13 : decode cL_least 13 = .ok (.imul, 1) := by decide +kernel
theorem dL_least_14 : decode cL_least 14 = .ok (.iconst 1, 1) := by decide +kernel
theorem dL_least_15 : decode cL_least 15 = .ok (.iadd, 1) := by decide +kernel
theorem dL_least_16 : decode cL_least 16 = .ok (.iaload, 1) := by decide +kernel
theorem dL_least_17 : decode cL_least 17 = .ok (.ifCond .ne 7, 3) := by decide +kernel
theorem dL_least_20 : decode cL_least 20 = .ok (.iconst 0, 1) := by decide +kernel
theorem dL_least_21 : decode cL_least 21 = .ok (.goto 22, 3) := by decide +kernel
theorem dL_least_24 : decode cL_least 24 = .ok (.aload_n 0, 1) := by decide +kernel
theorem dL_least_25 : decode cL_least 25 = .ok (.iconst 4, 1) := by decide +kernel
theorem dL_least_26 : decode cL_least 26 = .ok (.iload_n 1, 1) := by decide +kernel
theorem dL_least_27 : decode cL_least 27 = .ok (.imul, 1) := by decide +kernel
theorem dL_least_28 : decode cL_least 28 = .ok (.iconst 1, 1) := by decide +kernel
theorem dL_least_29 : decode cL_least 29 = .ok (.iadd, 1) := by decide +kernel
theorem dL_least_30 : decode cL_least 30 = .ok (.iaload, 1) := by decide +kernel
theorem dL_least_31 : decode cL_least 31 = .ok (.iconst 2, 1) := by decide +kernel
theorem dL_least_32 : decode cL_least 32 = .ok (.if_icmp .ne 9, 3) := by decide +kernel
theorem dL_least_35 : decode cL_least 35 = .ok (.iconst 1, 1) := by decide +kernel
theorem dL_least_36 : decode cL_least 36 = .ok (.iload_n 2, 1) := by decide +kernel
theorem dL_least_37 : decode cL_least 37 = .ok (.isub, 1) := by decide +kernel
theorem dL_least_38 : decode cL_least 38 = .ok (.goto 5, 3) := by decide +kernel
theorem dL_least_41 : decode cL_least 41 = .ok (.iload_n 2, 1) := by decide +kernel
theorem dL_least_42 : decode cL_least 42 = .ok (.ineg, 1) := by decide +kernel
theorem dL_least_43 : decode cL_least 43 = .ok (.ireturn, 1) := by decide +kernel
theorem dL_most_0 : decode cL_most 0 = .ok (.iconst 1, 1) := by decide +kernel
theorem dL_most_1 : decode cL_most 1 = .ok (.aload_n 0, 1) := by decide +kernel
theorem dL_most_2 : decode cL_most 2 = .ok (.iconst 4, 1) := by decide +kernel
theorem dL_most_3 : decode cL_most 3 = .ok (.iload_n 1, 1) := by decide +kernel
theorem dL_most_4 : decode cL_most 4 = .ok (.imul, 1) := by decide +kernel
theorem dL_most_5 : decode cL_most 5 = .ok (.iaload, 1) := by decide +kernel
theorem dL_most_6 : decode cL_most 6 = .ok (.iconst 1, 1) := by decide +kernel
theorem dL_most_7 : decode cL_most 7 = .ok (.isub, 1) := by decide +kernel
theorem dL_most_8 : decode cL_most 8 = .ok (.ishl, 1) := by decide +kernel
theorem dL_most_9 : decode cL_most 9 = .ok (.istore_n 2, 1) := by decide +kernel
theorem dL_most_10 : decode cL_most 10 = .ok (.aload_n 0, 1) := by decide +kernel
theorem dL_most_11 : decode cL_most 11 = .ok (.iconst 4, 1) := by decide +kernel
theorem dL_most_12 : decode cL_most 12 = .ok (.iload_n 1, 1) := by decide +kernel
theorem dL_most_13 : decode cL_most 13 = .ok (.imul, 1) := by decide +kernel
theorem dL_most_14 : decode cL_most 14 = .ok (.iconst 1, 1) := by decide +kernel
theorem dL_most_15 : decode cL_most 15 = .ok (.iadd, 1) := by decide +kernel
theorem dL_most_16 : decode cL_most 16 = .ok (.iaload, 1) := by decide +kernel
theorem dL_most_17 : decode cL_most 17 = .ok (.ifCond .ne 11, 3) := by decide +kernel
theorem dL_most_20 : decode cL_most 20 = .ok (.iconst 2, 1) := by decide +kernel
theorem dL_most_21 : decode cL_most 21 = .ok (.iload_n 2, 1) := by decide +kernel
theorem dL_most_22 : decode cL_most 22 = .ok (.imul, 1) := by decide +kernel
theorem dL_most_23 : decode cL_most 23 = .ok (.iconst 1, 1) := by decide +kernel
theorem dL_most_24 : decode cL_most 24 = .ok (.isub, 1) := by decide +kernel
theorem dL_most_25 : decode cL_most 25 = .ok (.goto 6, 3) := by decide +kernel
theorem dL_most_28 : decode cL_most 28 = .ok (.iload_n 2, 1) := by decide +kernel
theorem dL_most_29 : decode cL_most 29 = .ok (.iconst 1, 1) := by decide +kernel
theorem dL_most_30 : decode cL_most 30 = .ok (.isub, 1) := by decide +kernel
theorem dL_most_31 : decode cL_most 31 = .ok (.ireturn, 1) := by decide +kernel
theorem dL_isReceived_0 : decode cL_isReceived 0 = .ok (.aload_n 0, 1) := by decide +kernel
theorem dL_isReceived_1 : decode cL_isReceived 1 = .ok (.iconst 2, 1) := by decide +kernel
theorem dL_isReceived_2 : decode cL_isReceived 2 = .ok (.iconst 0, 1) := by decide +kernel
theorem dL_isReceived_3 : decode cL_isReceived 3 = .ok (.invokestatic 57, 3) := by decide +kernel
theorem dL_isReceived_6 : decode cL_isReceived 6 = .ok (.istore 4, 2) := by decide +kernel
theorem dL_isReceived_8 : decode cL_isReceived 8 = .ok (.iload 4, 2) := by decide +kernel
theorem dL_isReceived_10 : decode cL_isReceived 10 = .ok (.ldc 31, 2) := by decide +kernel
theorem dL_isReceived_12 : decode cL_isReceived 12 = .ok (.if_icmp .ne 7, 3) := by decide +kernel
theorem dL_isReceived_15 : decode cL_isReceived 15 = .ok (.iconst 1, 1) := by decide +kernel
theorem dL_isReceived_16 : decode cL_isReceived 16 = .ok (.goto 4, 3) := by decide +kernel
theorem dL_isReceived_19 : decode cL_isReceived 19 = .ok (.iconst 0, 1) := by decide +kernel
theorem dL_isReceived_20 : decode cL_isReceived 20 = .ok (.istore 5, 2) := by decide +kernel
theorem dL_isReceived_22 : decode cL_isReceived 22 = .ok (.iload 5, 2) := by decide +kernel
theorem dL_isReceived_24 : decode cL_isReceived 24 = .ok (.aload_n 0, 1) := by decide +kernel
theorem dL_isReceived_25 : decode cL_isReceived 25 = .ok (.invokevirtual 61, 3) := by decide +kernel
theorem dL_isReceived_28 : decode cL_isReceived 28 = .ok (.ifCond .ne 7, 3) := by decide +kernel
theorem dL_isReceived_31 : decode cL_isReceived 31 = .ok (.iconst 1, 1) := by decide +kernel
theorem dL_isReceived_32 : decode cL_isReceived 32 = .ok (.goto 4, 3) := by decide +kernel
theorem dL_isReceived_35 : decode cL_isReceived 35 = .ok (.iconst 0, 1) := by decide +kernel
theorem dL_isReceived_36 : decode cL_isReceived 36 = .ok (.if_icmp .eq 5, 3) := by decide +kernel
theorem dL_isReceived_39 : decode cL_isReceived 39 = .ok (.iconst 0, 1) := by decide +kernel
theorem dL_isReceived_40 : decode cL_isReceived 40 = .ok (.ireturn, 1) := by decide +kernel
theorem dL_isReceived_41 : decode cL_isReceived 41 = .ok (.aload_n 3, 1) := by decide +kernel
theorem dL_isReceived_42 : decode cL_isReceived 42 = .ok (.iconst 2, 1) := by decide +kernel
theorem dL_isReceived_43 : decode cL_isReceived 43 = .ok (.iload 5, 2) := by decide +kernel
theorem dL_isReceived_45 : decode cL_isReceived 45 = .ok (.ifCond .eq 7, 3) := by decide +kernel
theorem dL_isReceived_48 : decode cL_isReceived 48 = .ok (.iconst (-1), 1) := by decide +kernel
theorem dL_isReceived_49 : decode cL_isReceived 49 = .ok (.goto 29, 3) := by decide +kernel
theorem dL_isReceived_52 : decode cL_isReceived 52 = .ok (.aload_n 3, 1) := by decide +kernel
theorem dL_isReceived_53 : decode cL_isReceived 53 = .ok (.iconst 2, 1) := by decide +kernel
theorem dL_isReceived_54 : decode cL_isReceived 54 = .ok (.iaload, 1) := by decide +kernel
theorem dL_isReceived_55 : decode cL_isReceived 55 = .ok (.ifCond .ge 20, 3) := by decide +kernel
theorem dL_isReceived_58 : decode cL_isReceived 58 = .ok (.iload 4, 2) := by decide +kernel
theorem dL_isReceived_60 : decode cL_isReceived 60 = .ok (.aload_n 0, 1) := by decide +kernel
theorem dL_isReceived_61 : decode cL_isReceived 61 = .ok (.invokevirtual 61, 3) := by decide +kernel
theorem dL_isReceived_64 : decode cL_isReceived 64 = .ok (.isub, 1) := by decide +kernel
theorem dL_isReceived_65 : decode cL_isReceived 65 = .ok (.aload_n 0, 1) := by decide +kernel
theorem dL_isReceived_66 : decode cL_isReceived 66 = .ok (.invokevirtual 64, 3) := by decide +kernel
theorem dL_isReceived_69 : decode cL_isReceived 69 = .ok (.isub, 1) := by decide +kernel
theorem dL_isReceived_70 : decode cL_isReceived 70 = .ok (.iconst 1, 1) := by decide +kernel
theorem dL_isReceived_71 : decode cL_isReceived 71 = .ok (.iadd, 1) := by decide +kernel
theorem dL_isReceived_72 : decode cL_isReceived 72 = .ok (.goto 6, 3) := by decide +kernel
theorem dL_isReceived_75 : decode cL_isReceived 75 = .ok (.aload_n 3, 1) := by decide +kernel
theorem dL_isReceived_76 : decode cL_isReceived 76 = .ok (.iconst 2, 1) := by decide +kernel
theorem dL_isReceived_77 : decode cL_isReceived 77 = .ok (.iaload, 1) := by decide +kernel
theorem dL_isReceived_78 : decode cL_isReceived 78 = .ok (.iastore, 1) := by decide +kernel
theorem dL_isReceived_79 : decode cL_isReceived 79 = .ok (.iload 5, 2) := by decide +kernel
theorem dL_isReceived_81 : decode cL_isReceived 81 = .ok (.ifCond .eq 25, 3) := by decide +kernel
theorem dL_isReceived_84 : decode cL_isReceived 84 = .ok (.aload_n 0, 1) := by decide +kernel
theorem dL_isReceived_85 : decode cL_isReceived 85 = .ok (.invokevirtual 64, 3) := by decide +kernel
theorem dL_isReceived_88 : decode cL_isReceived 88 = .ok (.ifCond .ne 14, 3) := by decide +kernel
theorem dL_isReceived_91 : decode cL_isReceived 91 = .ok (.aload_n 0, 1) := by decide +kernel
theorem dL_isReceived_92 : decode cL_isReceived 92 = .ok (.invokevirtual 67, 3) := by decide +kernel
theorem dL_isReceived_95 : decode cL_isReceived 95 = .ok (.ifCond .ne 7, 3) := by decide +kernel
theorem dL_isReceived_98 : decode cL_isReceived 98 = .ok (.iconst 1, 1) := by decide +kernel
theorem dL_isReceived_99 : decode cL_isReceived 99 = .ok (.goto 47, 3) := by decide +kernel
theorem dL_isReceived_102 : decode cL_isReceived 102 = .ok (.iconst 0, 1) := by decide +kernel
theorem dL_isReceived_103 : decode cL_isReceived 103 = .ok (.goto 43, 3) := by decide +kernel
theorem dL_isReceived_106 : decode cL_isReceived 106 = .ok (.aload_n 3, 1) := by decide +kernel
theorem dL_isReceived_107 : decode cL_isReceived 107 = .ok (.iconst 2, 1) := by decide +kernel
theorem dL_isReceived_108 : decode cL_isReceived 108 = .ok (.iaload, 1) := by decide +kernel
theorem dL_isReceived_109 : decode cL_isReceived 109 = .ok (.ifCond .lt 36, 3) := by decide +kernel
theorem dL_isReceived_112 : decode cL_isReceived 112 = .ok (.aload_n 3, 1) := by decide +kernel
theorem dL_isReceived_113 : decode cL_isReceived 113 = .ok (.iconst 2, 1) := by decide +kernel
theorem dL_isReceived_114 : decode cL_isReceived 114 = .ok (.iaload, 1) := by decide +kernel
theorem dL_isReceived_115 : decode cL_isReceived 115 = .ok (.sipush 255, 3) := by decide +kernel
theorem dL_isReceived_118 : decode cL_isReceived 118 = .ok (.if_icmp .gt 27, 3) := by decide +kernel
theorem dL_isReceived_121 : decode cL_isReceived 121 = .ok (.iload 4, 2) := by decide +kernel
theorem dL_isReceived_123 : decode cL_isReceived 123 = .ok (.aload_n 3, 1) := by decide +kernel
theorem dL_isReceived_124 : decode cL_isReceived 124 = .ok (.iconst 2, 1) := by decide +kernel
theorem dL_isReceived_125 : decode cL_isReceived 125 = .ok (.iaload, 1) := by decide +kernel
theorem dL_isReceived_126 : decode cL_isReceived 126 = .ok (.aload_n 0, 1) := by decide +kernel
theorem dL_isReceived_127 : decode cL_isReceived 127 = .ok (.invokevirtual 61, 3) := by decide +kernel
theorem dL_isReceived_130 : decode cL_isReceived 130 = .ok (.iadd, 1) := by decide +kernel
theorem dL_isReceived_131 : decode cL_isReceived 131 = .ok (.aload_n 0, 1) := by decide +kernel
theorem dL_isReceived_132 : decode cL_isReceived 132 = .ok (.invokevirtual 64, 3) := by decide +kernel
theorem dL_isReceived_135 : decode cL_isReceived 135 = .ok (.iadd, 1) := by decide +kernel
theorem dL_isReceived_136 : decode cL_isReceived 136 = .ok (.iconst 1, 1) := by decide +kernel
theorem dL_isReceived_137 : decode cL_isReceived 137 = .ok (.isub, 1) := by decide +kernel
theorem dL_isReceived_138 : decode cL_isReceived 138 = .ok (.if_icmp .ne 7, 3) := by decide +kernel
theorem dL_isReceived_141 : decode cL_isReceived 141 = .ok (.iconst 1, 1) := by decide +kernel
theorem dL_isReceived_142 : decode cL_isReceived 142 = .ok (.goto 4, 3) := by decide +kernel
theorem dL_isReceived_145 : decode cL_isReceived 145 = .ok (.iconst 0, 1) := by decide +kernel
theorem dL_isReceived_146 : decode cL_isReceived 146 = .ok (.istore 6, 2) := by decide +kernel
theorem dL_isReceived_148 : decode cL_isReceived 148 = .ok (.iconst 0, 1) := by decide +kernel
theorem dL_isReceived_149 : decode cL_isReceived 149 = .ok (.istore 7, 2) := by decide +kernel
theorem dL_isReceived_151 : decode cL_isReceived 151 = .ok (.iload 7, 2) := by decide +kernel
theorem dL_isReceived_153 : decode cL_isReceived 153 = .ok (.aload_n 0, 1) := by decide +kernel
theorem dL_isReceived_154 : decode cL_isReceived 154 = .ok (.invokevirtual 42, 3) := by decide +kernel
theorem dL_isReceived_157 : decode cL_isReceived 157 = .ok (.if_icmp .ge 316, 3) := by decide +kernel
