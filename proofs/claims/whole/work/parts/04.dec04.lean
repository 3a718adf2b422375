theorem dX10_isFree_43 : decode cX10_isFree 43 = .ok (.if_icmp .eq 20, 3) := by decide +kernel
theorem dX10_isFree_46 : decode cX10_isFree 46 = .ok (.aload_n 0, 1) := by decide +kernel
theorem dX10_isFree_47 : decode cX10_isFree 47 = .ok (.iload 7, 2) := by decide +kernel
theorem dX10_isFree_49 : decode cX10_isFree 49 = .ok (.bipush 24, 2) := by decide +kernel
theorem dX10_isFree_51 : decode cX10_isFree 51 = .ok (.iload_n 1, 1) := by decide +kernel
theorem dX10_isFree_52 : decode cX10_isFree 52 = .ok (.iadd, 1) := by decide +kernel
theorem dX10_isFree_53 : decode cX10_isFree 53 = .ok (.iload 8, 2) := by decide +kernel
theorem dX10_isFree_55 : decode cX10_isFree 55 = .ok (.iadd, 1) := by decide +kernel
theorem dX10_isFree_56 : decode cX10_isFree 56 = .ok (.invokevirtual 92, 3) := by decide +kernel
theorem dX10_isFree_59 : decode cX10_isFree 59 = .ok (.iconst (-1), 1) := by decide +kernel
theorem dX10_isFree_60 : decode cX10_isFree 60 = .ok (.if_icmp .ne 7, 3) := by decide +kernel
theorem dX10_isFree_63 : decode cX10_isFree 63 = .ok (.iconst 1, 1) := by decide +kernel
theorem dX10_isFree_64 : decode cX10_isFree 64 = .ok (.goto 4, 3) := by decide +kernel
theorem dX10_isFree_67 : decode cX10_isFree 67 = .ok (.iconst 0, 1) := by decide +kernel
theorem dX10_isFree_68 : decode cX10_isFree 68 = .ok (.istore 6, 2) := by decide +kernel
theorem dX10_isFree_70 : decode cX10_isFree 70 = .ok (.iinc 8 1, 3) := by decide +kernel
theorem dX10_isFree_73 : decode cX10_isFree 73 = .ok (.goto (-58), 3) := by decide +kernel
theorem dX10_isFree_76 : decode cX10_isFree 76 = .ok (.iload 7, 2) := by decide +kernel
theorem dX10_isFree_78 : decode cX10_isFree 78 = .ok (.iload 4, 2) := by decide +kernel
theorem dX10_isFree_80 : decode cX10_isFree 80 = .ok (.iadd, 1) := by decide +kernel
theorem dX10_isFree_81 : decode cX10_isFree 81 = .ok (.istore 7, 2) := by decide +kernel
theorem dX10_isFree_83 : decode cX10_isFree 83 = .ok (.goto (-77), 3) := by decide +kernel
theorem dX10_isFree_86 : decode cX10_isFree 86 = .ok (.iload 6, 2) := by decide +kernel
theorem dX10_isFree_88 : decode cX10_isFree 88 = .ok (.ireturn, 1) := by decide +kernel
set_option maxRecDepth 20000 in
theorem ggX10_firstPlace_X10_isFree : GoodIn wsX10_firstPlace wsX10_isFree := goodIn_r _ [5, 6, 7, 8, 4, 9, 10, 11, 12, 13, 14, 15, 16, 17, 18, 19, 20, 21, 22, 23, 24, 25, 26, 27, 28, 29, 30, 31, 32, 33, 34, 35, 36, 37, 38, 39, 40, 41, 42, 43, 44, 45, 46, 47, 48, 49, 50, 51, 52, 53, 54] (by decide +kernel) (by decide +kernel)
set_option maxRecDepth 20000 in
theorem gX10_firstPlace_X10_isFree : GoodIn wsX10_firstPlace (wsV RX10 96 RX10 yX10_isFree wsX10_isFree) := goodIn_app (goodIn_of _ (by decide +kernel)) ggX10_firstPlace_X10_isFree
theorem dX10_firstPlace_0 : decode cX10_firstPlace 0 = .ok (.iconst 0, 1) := by decide +kernel
theorem dX10_firstPlace_1 : decode cX10_firstPlace 1 = .ok (.istore 4, 2) := by decide +kernel
theorem dX10_firstPlace_3 : decode cX10_firstPlace 3 = .ok (.iload 4, 2) := by decide +kernel
theorem dX10_firstPlace_5 : decode cX10_firstPlace 5 = .ok (.iload_n 2, 1) := by decide +kernel
theorem dX10_firstPlace_6 : decode cX10_firstPlace 6 = .ok (.if_icmp .ge 60, 3) := by decide +kernel
theorem dX10_firstPlace_9 : decode cX10_firstPlace 9 = .ok (.iconst 0, 1) := by decide +kernel
theorem dX10_firstPlace_10 : decode cX10_firstPlace 10 = .ok (.istore 5, 2) := by decide +kernel
theorem dX10_firstPlace_12 : decode cX10_firstPlace 12 = .ok (.iload 5, 2) := by decide +kernel
theorem dX10_firstPlace_14 : decode cX10_firstPlace 14 = .ok (.iload_n 1, 1) := by decide +kernel
theorem dX10_firstPlace_15 : decode cX10_firstPlace 15 = .ok (.iadd, 1) := by decide +kernel
theorem dX10_firstPlace_16 : decode cX10_firstPlace 16 = .ok (.iload_n 3, 1) := by decide +kernel
theorem dX10_firstPlace_17 : decode cX10_firstPlace 17 = .ok (.iconst 2, 1) := by decide +kernel
theorem dX10_firstPlace_18 : decode cX10_firstPlace 18 = .ok (.if_icmp .ne 8, 3) := by decide +kernel
theorem dX10_firstPlace_21 : decode cX10_firstPlace 21 = .ok (.bipush 24, 2) := by decide +kernel
theorem dX10_firstPlace_23 : decode cX10_firstPlace 23 = .ok (.goto 5, 3) := by decide +kernel
theorem dX10_firstPlace_26 : decode cX10_firstPlace 26 = .ok (.bipush 48, 2) := by decide +kernel
theorem dX10_firstPlace_28 : decode cX10_firstPlace 28 = .ok (.if_icmp .gt 32, 3) := by decide +kernel
theorem dX10_firstPlace_31 : decode cX10_firstPlace 31 = .ok (.aload_n 0, 1) := by decide +kernel
theorem dX10_firstPlace_32 : decode cX10_firstPlace 32 = .ok (.iload 5, 2) := by decide +kernel
theorem dX10_firstPlace_34 : decode cX10_firstPlace 34 = .ok (.iload_n 1, 1) := by decide +kernel
theorem dX10_firstPlace_35 : decode cX10_firstPlace 35 = .ok (.iload 4, 2) := by decide +kernel
theorem dX10_firstPlace_37 : decode cX10_firstPlace 37 = .ok (.iload_n 2, 1) := by decide +kernel
theorem dX10_firstPlace_38 : decode cX10_firstPlace 38 = .ok (.iload_n 3, 1) := by decide +kernel
theorem dX10_firstPlace_39 : decode cX10_firstPlace 39 = .ok (.invokevirtual 96, 3) := by decide +kernel
theorem dX10_firstPlace_42 : decode cX10_firstPlace 42 = .ok (.ifCond .eq 12, 3) := by decide +kernel
theorem dX10_firstPlace_45 : decode cX10_firstPlace 45 = .ok (.bipush 100, 2) := by decide +kernel
theorem dX10_firstPlace_47 : decode cX10_firstPlace 47 = .ok (.iload 4, 2) := by decide +kernel
theorem dX10_firstPlace_49 : decode cX10_firstPlace 49 = .ok (.imul, 1) := by decide +kernel
theorem dX10_firstPlace_50 : decode cX10_firstPlace 50 = .ok (.iload 5, 2) := by decide +kernel
theorem dX10_firstPlace_52 : decode cX10_firstPlace 52 = .ok (.iadd, 1) := by decide +kernel
theorem dX10_firstPlace_53 : decode cX10_firstPlace 53 = .ok (.ireturn, 1) := by decide +kernel
theorem dX10_firstPlace_54 : decode cX10_firstPlace 54 = .ok (.iinc 5 1, 3) := by decide +kernel
theorem dX10_firstPlace_57 : decode cX10_firstPlace 57 = .ok (.goto (-45), 3) := by decide +kernel
theorem dX10_firstPlace_60 : decode cX10_firstPlace 60 = .ok (.iinc 4 1, 3) := by decide +kernel
theorem dX10_firstPlace_63 : decode cX10_firstPlace 63 = .ok (.goto (-60), 3) := by decide +kernel
theorem dX10_firstPlace_66 : decode cX10_firstPlace 66 = .ok (.iconst (-1), 1) := by decide +kernel
theorem dX10_firstPlace_67 : decode cX10_firstPlace 67 = .ok (.ireturn, 1) := by decide +kernel
set_option maxRecDepth 20000 in
theorem ggX10_addPoint_X10_isIn : GoodIn wsX10_addPoint wsX10_isIn := goodIn_r _ [12] (by decide +kernel) (by decide +kernel)
set_option maxRecDepth 20000 in
theorem gX10_addPoint_X10_isIn : GoodIn wsX10_addPoint (va_wsS RX10 84 yX10_isIn wsX10_isIn) := goodIn_app (goodIn_of _ (by decide +kernel)) ggX10_addPoint_X10_isIn
set_option maxRecDepth 20000 in
theorem ggX10_addPoint_X10_firstPlace : GoodIn wsX10_addPoint wsX10_firstPlace := goodIn_r _ [16, 17, 18, 19, 11, 20, 21, 22, 23, 24, 1, 8, 3, 6, 25, 26, 27, 28, 5, 7, 34, 35, 36, 37, 38, 39, 40, 41, 42, 43, 44, 45, 46, 47, 48, 49, 50, 51, 52, 53, 54, 55, 56, 57, 58, 59, 60, 61, 62, 63, 64, 65, 66, 67, 68] (by decide +kernel) (by decide +kernel)
set_option maxRecDepth 20000 in
theorem gX10_addPoint_X10_firstPlace : GoodIn wsX10_addPoint (wsV RX10 100 RX10 yX10_firstPlace wsX10_firstPlace) := goodIn_app (goodIn_of _ (by decide +kernel)) ggX10_addPoint_X10_firstPlace
set_option maxRecDepth 20000 in
theorem ggX10_addPoint_X10_can : GoodIn wsX10_addPoint wsX10_can := goodIn_r _ [32, 33, 34, 35, 36, 37, 38, 39, 40, 41, 42, 43, 44, 45, 46, 47, 48, 49, 50, 51, 52, 53, 54, 55, 56, 57, 58, 59, 60, 61, 62, 63, 64, 65, 66, 67, 68] (by decide +kernel) (by decide +kernel)
set_option maxRecDepth 20000 in
theorem gX10_addPoint_X10_can : GoodIn wsX10_addPoint (wsV RX10 107 RX10 yX10_can wsX10_can) := goodIn_app (goodIn_of _ (by decide +kernel)) ggX10_addPoint_X10_can
theorem dX10_addPoint_0 : decode cX10_addPoint 0 = .ok (.iload_n 2, 1) := by decide +kernel
theorem dX10_addPoint_1 : decode cX10_addPoint 1 = .ok (.iconst 0, 1) := by decide +kernel
theorem dX10_addPoint_2 : decode cX10_addPoint 2 = .ok (.iconst 3, 1) := by decide +kernel
theorem dX10_addPoint_3 : decode cX10_addPoint 3 = .ok (.invokestatic 84, 3) := by decide +kernel
theorem dX10_addPoint_6 : decode cX10_addPoint 6 = .ok (.ifCond .eq 45, 3) := by decide +kernel
theorem dX10_addPoint_9 : decode cX10_addPoint 9 = .ok (.iload_n 1, 1) := by decide +kernel
theorem dX10_addPoint_10 : decode cX10_addPoint 10 = .ok (.iload_n 2, 1) := by decide +kernel
theorem dX10_addPoint_11 : decode cX10_addPoint 11 = .ok (.ifCond .ne 7, 3) := by decide +kernel
theorem dX10_addPoint_14 : decode cX10_addPoint 14 = .ok (.iconst 1, 1) := by decide +kernel
theorem dX10_addPoint_15 : decode cX10_addPoint 15 = .ok (.goto 4, 3) := by decide +kernel
theorem dX10_addPoint_18 : decode cX10_addPoint 18 = .ok (.iconst 2, 1) := by decide +kernel
theorem dX10_addPoint_19 : decode cX10_addPoint 19 = .ok (.bipush 12, 2) := by decide +kernel
theorem dX10_addPoint_21 : decode cX10_addPoint 21 = .ok (.invokestatic 84, 3) := by decide +kernel
theorem dX10_addPoint_24 : decode cX10_addPoint 24 = .ok (.ifCond .eq 27, 3) := by decide +kernel
theorem dX10_addPoint_27 : decode cX10_addPoint 27 = .ok (.iload_n 3, 1) := by decide +kernel
theorem dX10_addPoint_28 : decode cX10_addPoint 28 = .ok (.iconst 1, 1) := by decide +kernel
theorem dX10_addPoint_29 : decode cX10_addPoint 29 = .ok (.if_icmp .eq 18, 3) := by decide +kernel
theorem dX10_addPoint_32 : decode cX10_addPoint 32 = .ok (.iload 4, 2) := by decide +kernel
theorem dX10_addPoint_34 : decode cX10_addPoint 34 = .ok (.ifCond .ne 17, 3) := by decide +kernel
theorem dX10_addPoint_37 : decode cX10_addPoint 37 = .ok (.iload_n 3, 1) := by decide +kernel
theorem dX10_addPoint_38 : decode cX10_addPoint 38 = .ok (.iconst 2, 1) := by decide +kernel
theorem dX10_addPoint_39 : decode cX10_addPoint 39 = .ok (.if_icmp .eq 8, 3) := by decide +kernel
theorem dX10_addPoint_42 : decode cX10_addPoint 42 = .ok (.iload_n 3, 1) := by decide +kernel
theorem dX10_addPoint_43 : decode cX10_addPoint 43 = .ok (.iconst 4, 1) := by decide +kernel
theorem dX10_addPoint_44 : decode cX10_addPoint 44 = .ok (.if_icmp .ne 7, 3) := by decide +kernel
theorem dX10_addPoint_47 : decode cX10_addPoint 47 = .ok (.iconst 1, 1) := by decide +kernel
theorem dX10_addPoint_48 : decode cX10_addPoint 48 = .ok (.goto 4, 3) := by decide +kernel
theorem dX10_addPoint_51 : decode cX10_addPoint 51 = .ok (.iconst 0, 1) := by decide +kernel
theorem dX10_addPoint_52 : decode cX10_addPoint 52 = .ok (.istore 5, 2) := by decide +kernel
theorem dX10_addPoint_54 : decode cX10_addPoint 54 = .ok (.iload 5, 2) := by decide +kernel
theorem dX10_addPoint_56 : decode cX10_addPoint 56 = .ok (.ifCond .eq 22, 3) := by decide +kernel
theorem dX10_addPoint_59 : decode cX10_addPoint 59 = .ok (.aload_n 0, 1) := by decide +kernel
theorem dX10_addPoint_60 : decode cX10_addPoint 60 = .ok (.iload_n 1, 1) := by decide +kernel
theorem dX10_addPoint_61 : decode cX10_addPoint 61 = .ok (.iload_n 3, 1) := by decide +kernel
theorem dX10_addPoint_62 : decode cX10_addPoint 62 = .ok (.iload 4, 2) := by decide +kernel
theorem dX10_addPoint_64 : decode cX10_addPoint 64 = .ok (.ifCond .eq 7, 3) := by decide +kernel
theorem dX10_addPoint_67 : decode cX10_addPoint 67 = .ok (.iconst 2, 1) := by decide +kernel
theorem dX10_addPoint_68 : decode cX10_addPoint 68 = .ok (.goto 4, 3) := by decide +kernel
theorem dX10_addPoint_71 : decode cX10_addPoint 71 = .ok (.iconst 1, 1) := by decide +kernel
theorem dX10_addPoint_72 : decode cX10_addPoint 72 = .ok (.invokevirtual 100, 3) := by decide +kernel
theorem dX10_addPoint_75 : decode cX10_addPoint 75 = .ok (.goto 4, 3) := by decide +kernel
theorem dX10_addPoint_78 : decode cX10_addPoint 78 = .ok (.iconst (-1), 1) := by decide +kernel
theorem dX10_addPoint_79 : decode cX10_addPoint 79 = .ok (.istore 6, 2) := by decide +kernel
theorem dX10_addPoint_81 : decode cX10_addPoint 81 = .ok (.aload_n 0, 1) := by decide +kernel
theorem dX10_addPoint_82 : decode cX10_addPoint 82 = .ok (.iload 5, 2) := by decide +kernel
theorem dX10_addPoint_84 : decode cX10_addPoint 84 = .ok (.ifCond .ne 7, 3) := by decide +kernel
theorem dX10_addPoint_87 : decode cX10_addPoint 87 = .ok (.iconst 1, 1) := by decide +kernel
theorem dX10_addPoint_88 : decode cX10_addPoint 88 = .ok (.goto 30, 3) := by decide +kernel
theorem dX10_addPoint_91 : decode cX10_addPoint 91 = .ok (.aload_n 0, 1) := by decide +kernel
theorem dX10_addPoint_92 : decode cX10_addPoint 92 = .ok (.getfield 81, 3) := by decide +kernel
theorem dX10_addPoint_95 : decode cX10_addPoint 95 = .ok (.bipush 12, 2) := by decide +kernel
theorem dX10_addPoint_97 : decode cX10_addPoint 97 = .ok (.if_icmp .eq 16, 3) := by decide +kernel
theorem dX10_addPoint_100 : decode cX10_addPoint 100 = .ok (.iload 6, 2) := by decide +kernel
theorem dX10_addPoint_102 : decode cX10_addPoint 102 = .ok (.iconst (-1), 1) := by decide +kernel
theorem dX10_addPoint_103 : decode cX10_addPoint 103 = .ok (.if_icmp .eq 10, 3) := by decide +kernel
theorem dX10_addPoint_106 : decode cX10_addPoint 106 = .ok (.aload_n 0, 1) := by decide +kernel
theorem dX10_addPoint_107 : decode cX10_addPoint 107 = .ok (.getfield 104, 3) := by decide +kernel
theorem dX10_addPoint_110 : decode cX10_addPoint 110 = .ok (.ifCond .le 7, 3) := by decide +kernel
theorem dX10_addPoint_113 : decode cX10_addPoint 113 = .ok (.iconst 2, 1) := by decide +kernel
theorem dX10_addPoint_114 : decode cX10_addPoint 114 = .ok (.goto 4, 3) := by decide +kernel
theorem dX10_addPoint_117 : decode cX10_addPoint 117 = .ok (.iconst 0, 1) := by decide +kernel
theorem dX10_addPoint_118 : decode cX10_addPoint 118 = .ok (.invokevirtual 107, 3) := by decide +kernel
theorem dX10_addPoint_121 : decode cX10_addPoint 121 = .ok (.ifCond .ne 5, 3) := by decide +kernel
theorem dX10_addPoint_124 : decode cX10_addPoint 124 = .ok (.iconst 0, 1) := by decide +kernel
theorem dX10_addPoint_125 : decode cX10_addPoint 125 = .ok (.ireturn, 1) := by decide +kernel
theorem dX10_addPoint_126 : decode cX10_addPoint 126 = .ok (.aload_n 0, 1) := by decide +kernel
theorem dX10_addPoint_127 : decode cX10_addPoint 127 = .ok (.getfield 7, 3) := by decide +kernel
theorem dX10_addPoint_130 : decode cX10_addPoint 130 = .ok (.aload_n 0, 1) := by decide +kernel
theorem dX10_addPoint_131 : decode cX10_addPoint 131 = .ok (.getfield 81, 3) := by decide +kernel
theorem dX10_addPoint_134 : decode cX10_addPoint 134 = .ok (.iload_n 1, 1) := by decide +kernel
theorem dX10_addPoint_135 : decode cX10_addPoint 135 = .ok (.iastore, 1) := by decide +kernel
theorem dX10_addPoint_136 : decode cX10_addPoint 136 = .ok (.aload_n 0, 1) := by decide +kernel
theorem dX10_addPoint_137 : decode cX10_addPoint 137 = .ok (.getfield 13, 3) := by decide +kernel
theorem dX10_addPoint_140 : decode cX10_addPoint 140 = .ok (.aload_n 0, 1) := by decide +kernel
theorem dX10_addPoint_141 : decode cX10_addPoint 141 = .ok (.getfield 81, 3) := by decide +kernel
theorem dX10_addPoint_144 : decode cX10_addPoint 144 = .ok (.iload_n 2, 1) := by decide +kernel
theorem dX10_addPoint_145 : decode cX10_addPoint 145 = .ok (.iastore, 1) := by decide +kernel
theorem dX10_addPoint_146 : decode cX10_addPoint 146 = .ok (.aload_n 0, 1) := by decide +kernel
theorem dX10_addPoint_147 : decode cX10_addPoint 147 = .ok (.getfield 16, 3) := by decide +kernel
theorem dX10_addPoint_150 : decode cX10_addPoint 150 = .ok (.aload_n 0, 1) := by decide +kernel
theorem dX10_addPoint_151 : decode cX10_addPoint 151 = .ok (.getfield 81, 3) := by decide +kernel
theorem dX10_addPoint_154 : decode cX10_addPoint 154 = .ok (.iload_n 3, 1) := by decide +kernel
theorem dX10_addPoint_155 : decode cX10_addPoint 155 = .ok (.iastore, 1) := by decide +kernel
theorem dX10_addPoint_156 : decode cX10_addPoint 156 = .ok (.aload_n 0, 1) := by decide +kernel
theorem dX10_addPoint_157 : decode cX10_addPoint 157 = .ok (.getfield 19, 3) := by decide +kernel
theorem dX10_addPoint_160 : decode cX10_addPoint 160 = .ok (.aload_n 0, 1) := by decide +kernel
theorem dX10_addPoint_161 : decode cX10_addPoint 161 = .ok (.getfield 81, 3) := by decide +kernel
theorem dX10_addPoint_164 : decode cX10_addPoint 164 = .ok (.iload 4, 2) := by decide +kernel
theorem dX10_addPoint_166 : decode cX10_addPoint 166 = .ok (.ifCond .eq 7, 3) := by decide +kernel
theorem dX10_addPoint_169 : decode cX10_addPoint 169 = .ok (.iconst 2, 1) := by decide +kernel
theorem dX10_addPoint_170 : decode cX10_addPoint 170 = .ok (.goto 4, 3) := by decide +kernel
theorem dX10_addPoint_173 : decode cX10_addPoint 173 = .ok (.iconst 1, 1) := by decide +kernel
theorem dX10_addPoint_174 : decode cX10_addPoint 174 = .ok (.iastore, 1) := by decide +kernel
theorem dX10_addPoint_175 : decode cX10_addPoint 175 = .ok (.aload_n 0, 1) := by decide +kernel
theorem dX10_addPoint_176 : decode cX10_addPoint 176 = .ok (.getfield 22, 3) := by decide +kernel
theorem dX10_addPoint_179 : decode cX10_addPoint 179 = .ok (.aload_n 0, 1) := by decide +kernel
theorem dX10_addPoint_180 : decode cX10_addPoint 180 = .ok (.getfield 81, 3) := by decide +kernel
theorem dX10_addPoint_183 : decode cX10_addPoint 183 = .ok (.iload 6, 2) := by decide +kernel
theorem dX10_addPoint_185 : decode cX10_addPoint 185 = .ok (.bipush 100, 2) := by decide +kernel
theorem dX10_addPoint_187 : decode cX10_addPoint 187 = .ok (.idiv, 1) := by decide +kernel
theorem dX10_addPoint_188 : decode cX10_addPoint 188 = .ok (.iastore, 1) := by decide +kernel
theorem dX10_addPoint_189 : decode cX10_addPoint 189 = .ok (.aload_n 0, 1) := by decide +kernel
theorem dX10_addPoint_190 : decode cX10_addPoint 190 = .ok (.getfield 25, 3) := by decide +kernel
theorem dX10_addPoint_193 : decode cX10_addPoint 193 = .ok (.aload_n 0, 1) := by decide +kernel
theorem dX10_addPoint_194 : decode cX10_addPoint 194 = .ok (.getfield 81, 3) := by decide +kernel
theorem dX10_addPoint_197 : decode cX10_addPoint 197 = .ok (.iload 6, 2) := by decide +kernel
theorem dX10_addPoint_199 : decode cX10_addPoint 199 = .ok (.bipush 100, 2) := by decide +kernel
theorem dX10_addPoint_201 : decode cX10_addPoint 201 = .ok (.irem, 1) := by decide +kernel
theorem dX10_addPoint_202 : decode cX10_addPoint 202 = .ok (.iastore, 1) := by decide +kernel
theorem dX10_addPoint_203 : decode cX10_addPoint 203 = .ok (.aload_n 0, 1) := by decide +kernel
theorem dX10_addPoint_204 : decode cX10_addPoint 204 = .ok (.dup, 1) := by decide +kernel
theorem dX10_addPoint_205 : decode cX10_addPoint 205 = .ok (.getfield 81, 3) := by decide +kernel
theorem dX10_addPoint_208 : decode cX10_addPoint 208 = .ok (.iconst 1, 1) := by decide +kernel
theorem dX10_addPoint_209 : decode cX10_addPoint 209 = .ok (.iadd, 1) := by decide +kernel
theorem dX10_addPoint_210 : decode cX10_addPoint 210 = .ok (.putfield 81, 3) := by decide +kernel
theorem dX10_addPoint_213 : decode cX10_addPoint 213 = .ok (.aload_n 0, 1) := by decide +kernel
theorem dX10_addPoint_214 : decode cX10_addPoint 214 = .ok (.getfield 81, 3) := by decide +kernel
theorem dX10_addPoint_217 : decode cX10_addPoint 217 = .ok (.iconst 1, 1) := by decide +kernel
theorem dX10_addPoint_218 : decode cX10_addPoint 218 = .ok (.isub, 1) := by decide +kernel
theorem dX10_addPoint_219 : decode cX10_addPoint 219 = .ok (.ireturn, 1) := by decide +kernel
theorem dX10_points_0 : decode cX10_points 0 = .ok (.aload_n 0, 1) := by decide +kernel
theorem dX10_points_1 : decode cX10_points 1 = .ok (.iconst 0, 1) := by decide +kernel
theorem dX10_points_2 : decode cX10_points 2 = .ok (.putfield 78, 3) := by decide +kernel
theorem dX10_points_5 : decode cX10_points 5 = .ok (.aload_n 0, 1) := by decide +kernel
theorem dX10_points_6 : decode cX10_points 6 = .ok (.getfield 81, 3) := by decide +kernel
theorem dX10_points_9 : decode cX10_points 9 = .ok (.ireturn, 1) := by decide +kernel
set_option maxRecDepth 20000 in
theorem ggX10_place_X10_isPoint : GoodIn wsX10_place wsX10_isPoint := goodIn_r _ [7, 8, 9, 10, 6, 11, 17, 18, 19, 20, 21, 22, 23, 24, 25, 26, 27, 28, 29, 30, 31, 32, 33, 34, 35, 36, 37, 38, 39, 40, 41, 42, 43, 44, 45, 46, 47, 48, 49, 50, 51] (by decide +kernel) (by decide +kernel)
set_option maxRecDepth 20000 in
theorem gX10_place_X10_isPoint : GoodIn wsX10_place (wsV RX10 111 RX10 yX10_isPoint wsX10_isPoint) := goodIn_app (goodIn_of _ (by decide +kernel)) ggX10_place_X10_isPoint
set_option maxRecDepth 20000 in
theorem ggX10_place_X10_can : GoodIn wsX10_place wsX10_can := goodIn_r _ [15, 16, 17, 18, 19, 20, 21, 22, 23, 24, 25, 26, 27, 28, 29, 30, 31, 32, 33, 34, 35, 36, 37, 38, 39, 40, 41, 42, 43, 44, 45, 46, 47, 48, 49, 50, 51] (by decide +kernel) (by decide +kernel)
set_option maxRecDepth 20000 in
theorem gX10_place_X10_can : GoodIn wsX10_place (wsV RX10 107 RX10 yX10_can wsX10_can) := goodIn_app (goodIn_of _ (by decide +kernel)) ggX10_place_X10_can
theorem dX10_place_0 : decode cX10_place 0 = .ok (.aload_n 0, 1) := by decide +kernel
theorem dX10_place_1 : decode cX10_place 1 = .ok (.aload_n 0, 1) := by decide +kernel
theorem dX10_place_2 : decode cX10_place 2 = .ok (.iload_n 1, 1) := by decide +kernel
theorem dX10_place_3 : decode cX10_place 3 = .ok (.invokevirtual 111, 3) := by decide +kernel
theorem dX10_place_6 : decode cX10_place 6 = .ok (.ifCond .eq 7, 3) := by decide +kernel
theorem dX10_place_9 : decode cX10_place 9 = .ok (.iconst 0, 1) := by decide +kernel
theorem dX10_place_10 : decode cX10_place 10 = .ok (.goto 4, 3) := by decide +kernel
theorem dX10_place_13 : decode cX10_place 13 = .ok (.iconst 1, 1) := by decide +kernel
theorem dX10_place_14 : decode cX10_place 14 = .ok (.invokevirtual 107, 3) := by decide +kernel
theorem dX10_place_17 : decode cX10_place 17 = .ok (.ifCond .eq 22, 3) := by decide +kernel
theorem dX10_place_20 : decode cX10_place 20 = .ok (.bipush 100, 2) := by decide +kernel
theorem dX10_place_22 : decode cX10_place 22 = .ok (.aload_n 0, 1) := by decide +kernel
theorem dX10_place_23 : decode cX10_place 23 = .ok (.getfield 22, 3) := by decide +kernel
theorem dX10_place_26 : decode cX10_place 26 = .ok (.iload_n 1, 1) := by decide +kernel
theorem dX10_place_27 : decode cX10_place 27 = .ok (.iaload, 1) := by decide +kernel
theorem dX10_place_28 : decode cX10_place 28 = .ok (.imul, 1) := by decide +kernel
theorem dX10_place_29 : decode cX10_place 29 = .ok (.aload_n 0, 1) := by decide +kernel
theorem dX10_place_30 : decode cX10_place 30 = .ok (.getfield 25, 3) := by decide +kernel
theorem dX10_place_33 : decode cX10_place 33 = .ok (.iload_n 1, 1) := by decide +kernel
theorem dX10_place_34 : decode cX10_place 34 = .ok (.iaload, 1) := by decide +kernel
theorem dX10_place_35 : decode cX10_place 35 = .ok (.iadd, 1) := by decide +kernel
theorem dX10_place_36 : decode cX10_place 36 = .ok (.goto 4, 3) := by decide +kernel
theorem dX10_place_39 : decode cX10_place 39 = .ok (.iconst 0, 1) := by decide +kernel
theorem dX10_place_40 : decode cX10_place 40 = .ok (.ireturn, 1) := by decide +kernel
set_option maxRecDepth 20000 in
theorem ggX10_spare_X10_userOf : GoodIn wsX10_spare wsX10_userOf := goodIn_r _ [6, 7, 8, 9, 10, 11, 12, 13, 5, 14, 15, 16, 17, 18, 19, 20, 21, 22, 23, 24, 25, 26, 27, 28, 29, 30, 31, 32, 33, 34, 35, 36, 37, 38, 39, 40, 41, 42, 43, 44, 45, 46, 47, 48, 49, 50, 51] (by decide +kernel) (by decide +kernel)
set_option maxRecDepth 20000 in
theorem gX10_spare_X10_userOf : GoodIn wsX10_spare (wsV RX10 92 RX10 yX10_userOf wsX10_userOf) := goodIn_app (goodIn_of _ (by decide +kernel)) ggX10_spare_X10_userOf
theorem dX10_spare_0 : decode cX10_spare 0 = .ok (.aload_n 0, 1) := by decide +kernel
theorem dX10_spare_1 : decode cX10_spare 1 = .ok (.iconst 0, 1) := by decide +kernel
theorem dX10_spare_2 : decode cX10_spare 2 = .ok (.putfield 78, 3) := by decide +kernel
theorem dX10_spare_5 : decode cX10_spare 5 = .ok (.iconst 0, 1) := by decide +kernel
theorem dX10_spare_6 : decode cX10_spare 6 = .ok (.istore_n 1, 1) := by decide +kernel
theorem dX10_spare_7 : decode cX10_spare 7 = .ok (.iconst 0, 1) := by decide +kernel
theorem dX10_spare_8 : decode cX10_spare 8 = .ok (.istore_n 2, 1) := by decide +kernel
theorem dX10_spare_9 : decode cX10_spare 9 = .ok (.iload_n 2, 1) := by decide +kernel
theorem dX10_spare_10 : decode cX10_spare 10 = .ok (.sipush 192, 3) := by decide +kernel
theorem dX10_spare_13 : decode cX10_spare 13 = .ok (.if_icmp .ge 33, 3) := by decide +kernel
theorem dX10_spare_16 : decode cX10_spare 16 = .ok (.iload_n 1, 1) := by decide +kernel
theorem dX10_spare_17 : decode cX10_spare 17 = .ok (.aload_n 0, 1) := by decide +kernel
theorem dX10_spare_18 : decode cX10_spare 18 = .ok (.iload_n 2, 1) := by decide +kernel
theorem dX10_spare_19 : decode cX10_spare 19 = .ok (.bipush 48, 2) := by decide +kernel
theorem dX10_spare_21 : decode cX10_spare 21 = .ok (.idiv, 1) := by decide +kernel
theorem dX10_spare_22 : decode cX10_spare 22 = .ok (.iload_n 2, 1) := by decide +kernel
theorem dX10_spare_23 : decode cX10_spare 23 = .ok (.bipush 48, 2) := by decide +kernel
theorem dX10_spare_25 : decode cX10_spare 25 = .ok (.irem, 1) := by decide +kernel
theorem dX10_spare_26 : decode cX10_spare 26 = .ok (.invokevirtual 92, 3) := by decide +kernel
theorem dX10_spare_29 : decode cX10_spare 29 = .ok (.iconst (-1), 1) := by decide +kernel
theorem dX10_spare_30 : decode cX10_spare 30 = .ok (.if_icmp .ne 7, 3) := by decide +kernel
theorem dX10_spare_33 : decode cX10_spare 33 = .ok (.iconst 1, 1) := by decide +kernel
theorem dX10_spare_34 : decode cX10_spare 34 = .ok (.goto 4, 3) := by decide +kernel
theorem dX10_spare_37 : decode cX10_spare 37 = .ok (.iconst 0, 1) := by decide +kernel
theorem dX10_spare_38 : decode cX10_spare 38 = .ok (.iadd, 1) := by decide +kernel
theorem dX10_spare_39 : decode cX10_spare 39 = .ok (.istore_n 1, 1) := by decide +kernel
theorem dX10_spare_40 : decode cX10_spare 40 = .ok (.iinc 2 1, 3) := by decide +kernel
theorem dX10_spare_43 : decode cX10_spare 43 = .ok (.goto (-34), 3) := by decide +kernel
theorem dX10_spare_46 : decode cX10_spare 46 = .ok (.iload_n 1, 1) := by decide +kernel
theorem dX10_spare_47 : decode cX10_spare 47 = .ok (.ireturn, 1) := by decide +kernel
set_option maxRecDepth 20000 in
theorem ggX10_put_X10_isPoint : GoodIn wsX10_put wsX10_isPoint := goodIn_r _ [8, 9, 10, 11, 7, 12, 18, 19, 20, 21, 22, 23, 24, 25, 26, 27, 28, 29, 30, 31, 32, 33, 34, 35, 36, 37, 38, 39, 40, 41, 42, 43, 44, 45, 46, 47, 48, 49, 50, 51, 52] (by decide +kernel) (by decide +kernel)
set_option maxRecDepth 20000 in
theorem gX10_put_X10_isPoint : GoodIn wsX10_put (wsV RX10 111 RX10 yX10_isPoint wsX10_isPoint) := goodIn_app (goodIn_of _ (by decide +kernel)) ggX10_put_X10_isPoint
set_option maxRecDepth 20000 in
theorem ggX10_put_X10_can : GoodIn wsX10_put wsX10_can := goodIn_r _ [16, 17, 18, 19, 20, 21, 22, 23, 24, 25, 26, 27, 28, 29, 30, 31, 32, 33, 34, 35, 36, 37, 38, 39, 40, 41, 42, 43, 44, 45, 46, 47, 48, 49, 50, 51, 52] (by decide +kernel) (by decide +kernel)
set_option maxRecDepth 20000 in
theorem gX10_put_X10_can : GoodIn wsX10_put (wsV RX10 107 RX10 yX10_can wsX10_can) := goodIn_app (goodIn_of _ (by decide +kernel)) ggX10_put_X10_can
set_option maxRecDepth 20000 in
theorem ggX10_put_X10_isIn : GoodIn wsX10_put wsX10_isIn := goodIn_r _ [12] (by decide +kernel) (by decide +kernel)
set_option maxRecDepth 20000 in
theorem gX10_put_X10_isIn : GoodIn wsX10_put (va_wsS RX10 84 yX10_isIn wsX10_isIn) := goodIn_app (goodIn_of _ (by decide +kernel)) ggX10_put_X10_isIn
theorem dX10_put_0 : decode cX10_put 0 = .ok (.aload_n 0, 1) := by decide +kernel
theorem dX10_put_1 : decode cX10_put 1 = .ok (.aload_n 0, 1) := by decide +kernel
theorem dX10_put_2 : decode cX10_put 2 = .ok (.iload_n 1, 1) := by decide +kernel
theorem dX10_put_3 : decode cX10_put 3 = .ok (.invokevirtual 111, 3) := by decide +kernel
theorem dX10_put_6 : decode cX10_put 6 = .ok (.ifCond .eq 7, 3) := by decide +kernel
theorem dX10_put_9 : decode cX10_put 9 = .ok (.iconst 0, 1) := by decide +kernel
theorem dX10_put_10 : decode cX10_put 10 = .ok (.goto 4, 3) := by decide +kernel
theorem dX10_put_13 : decode cX10_put 13 = .ok (.iconst 1, 1) := by decide +kernel
theorem dX10_put_14 : decode cX10_put 14 = .ok (.invokevirtual 107, 3) := by decide +kernel
theorem dX10_put_17 : decode cX10_put 17 = .ok (.ifCond .ne 5, 3) := by decide +kernel
theorem dX10_put_20 : decode cX10_put 20 = .ok (.iconst 0, 1) := by decide +kernel
theorem dX10_put_21 : decode cX10_put 21 = .ok (.ireturn, 1) := by decide +kernel
theorem dX10_put_22 : decode cX10_put 22 = .ok (.iconst 1, 1) := by decide +kernel
theorem dX10_put_23 : decode cX10_put 23 = .ok (.aload_n 0, 1) := by decide +kernel
theorem dX10_put_24 : decode cX10_put 24 = .ok (.getfield 7, 3) := by decide +kernel
theorem dX10_put_27 : decode cX10_put 27 = .ok (.iload_n 1, 1) := by decide +kernel
theorem dX10_put_28 : decode cX10_put 28 = .ok (.iaload, 1) := by decide +kernel
theorem dX10_put_29 : decode cX10_put 29 = .ok (.iconst 1, 1) := by decide +kernel
theorem dX10_put_30 : decode cX10_put 30 = .ok (.isub, 1) := by decide +kernel
theorem dX10_put_31 : decode cX10_put 31 = .ok (.ishl, 1) := by decide +kernel
theorem dX10_put_32 : decode cX10_put 32 = .ok (.istore_n 3, 1) := by decide +kernel
theorem dX10_put_33 : decode cX10_put 33 = .ok (.aload_n 0, 1) := by decide +kernel
theorem dX10_put_34 : decode cX10_put 34 = .ok (.getfield 13, 3) := by decide +kernel
theorem dX10_put_37 : decode cX10_put 37 = .ok (.iload_n 1, 1) := by decide +kernel
theorem dX10_put_38 : decode cX10_put 38 = .ok (.iaload, 1) := by decide +kernel
theorem dX10_put_39 : decode cX10_put 39 = .ok (.ifCond .ne 7, 3) := by decide +kernel
theorem dX10_put_42 : decode cX10_put 42 = .ok (.iconst 0, 1) := by decide +kernel
theorem dX10_put_43 : decode cX10_put 43 = .ok (.goto 21, 3) := by decide +kernel
theorem dX10_put_46 : decode cX10_put 46 = .ok (.aload_n 0, 1) := by decide +kernel
theorem dX10_put_47 : decode cX10_put 47 = .ok (.getfield 13, 3) := by decide +kernel
theorem dX10_put_50 : decode cX10_put 50 = .ok (.iload_n 1, 1) := by decide +kernel
theorem dX10_put_51 : decode cX10_put 51 = .ok (.iaload, 1) := by decide +kernel
theorem dX10_put_52 : decode cX10_put 52 = .ok (.iconst 2, 1) := by decide +kernel
theorem dX10_put_53 : decode cX10_put 53 = .ok (.if_icmp .ne 9, 3) := by decide +kernel
theorem dX10_put_56 : decode cX10_put 56 = .ok (.iconst 1, 1) := by decide +kernel
theorem dX10_put_57 : decode cX10_put 57 = .ok (.iload_n 3, 1) := by decide +kernel
theorem dX10_put_58 : decode cX10_put 58 = .ok (.isub, 1) := by decide +kernel
theorem dX10_put_59 : decode cX10_put 59 = .ok (.goto 5, 3) := by decide +kernel
theorem dX10_put_62 : decode cX10_put 62 = .ok (.iload_n 3, 1) := by decide +kernel
theorem dX10_put_63 : decode cX10_put 63 = .ok (.ineg, 1) := by decide +kernel
theorem dX10_put_64 : decode cX10_put 64 = .ok (.istore 4, 2) := by decide +kernel
theorem dX10_put_66 : decode cX10_put 66 = .ok (.aload_n 0, 1) := by decide +kernel
theorem dX10_put_67 : decode cX10_put 67 = .ok (.getfield 13, 3) := by decide +kernel
theorem dX10_put_70 : decode cX10_put 70 = .ok (.iload_n 1, 1) := by decide +kernel
theorem dX10_put_71 : decode cX10_put 71 = .ok (.iaload, 1) := by decide +kernel
theorem dX10_put_72 : decode cX10_put 72 = .ok (.ifCond .ne 11, 3) := by decide +kernel
theorem dX10_put_75 : decode cX10_put 75 = .ok (.iconst 2, 1) := by decide +kernel
theorem dX10_put_76 : decode cX10_put 76 = .ok (.iload_n 3, 1) := by decide +kernel
theorem dX10_put_77 : decode cX10_put 77 = .ok (.imul, 1) := by decide +kernel
theorem dX10_put_78 : decode cX10_put 78 = .ok (.iconst 1, 1) := by decide +kernel
theorem dX10_put_79 : decode cX10_put 79 = .ok (.isub, 1) := by decide +kernel
theorem dX10_put_80 : decode cX10_put 80 = .ok (.goto 6, 3) := by decide +kernel
theorem dX10_put_83 : decode cX10_put 83 = .ok (.iload_n 3, 1) := by decide +kernel
theorem dX10_put_84 : decode cX10_put 84 = .ok (.iconst 1, 1) := by decide +kernel
theorem dX10_put_85 : decode cX10_put 85 = .ok (.isub, 1) := by decide +kernel
theorem dX10_put_86 : decode cX10_put 86 = .ok (.istore 5, 2) := by decide +kernel
theorem dX10_put_88 : decode cX10_put 88 = .ok (.aload_n 0, 1) := by decide +kernel
theorem dX10_put_89 : decode cX10_put 89 = .ok (.iload_n 2, 1) := by decide +kernel
theorem dX10_put_90 : decode cX10_put 90 = .ok (.iload 4, 2) := by decide +kernel
theorem dX10_put_92 : decode cX10_put 92 = .ok (.iload 5, 2) := by decide +kernel
theorem dX10_put_94 : decode cX10_put 94 = .ok (.invokestatic 84, 3) := by decide +kernel
theorem dX10_put_97 : decode cX10_put 97 = .ok (.ifCond .eq 7, 3) := by decide +kernel
theorem dX10_put_100 : decode cX10_put 100 = .ok (.iconst 0, 1) := by decide +kernel
theorem dX10_put_101 : decode cX10_put 101 = .ok (.goto 4, 3) := by decide +kernel
theorem dX10_put_104 : decode cX10_put 104 = .ok (.iconst 2, 1) := by decide +kernel
theorem dX10_put_105 : decode cX10_put 105 = .ok (.invokevirtual 107, 3) := by decide +kernel
theorem dX10_put_108 : decode cX10_put 108 = .ok (.ifCond .ne 5, 3) := by decide +kernel
theorem dX10_put_111 : decode cX10_put 111 = .ok (.iconst 0, 1) := by decide +kernel
theorem dX10_put_112 : decode cX10_put 112 = .ok (.ireturn, 1) := by decide +kernel
theorem dX10_put_113 : decode cX10_put 113 = .ok (.aload_n 0, 1) := by decide +kernel
theorem dX10_put_114 : decode cX10_put 114 = .ok (.getfield 28, 3) := by decide +kernel
theorem dX10_put_117 : decode cX10_put 117 = .ok (.iload_n 1, 1) := by decide +kernel
theorem dX10_put_118 : decode cX10_put 118 = .ok (.iaload, 1) := by decide +kernel
theorem dX10_put_119 : decode cX10_put 119 = .ok (.istore 6, 2) := by decide +kernel
theorem dX10_put_121 : decode cX10_put 121 = .ok (.aload_n 0, 1) := by decide +kernel
theorem dX10_put_122 : decode cX10_put 122 = .ok (.getfield 28, 3) := by decide +kernel
theorem dX10_put_125 : decode cX10_put 125 = .ok (.iload_n 1, 1) := by decide +kernel
theorem dX10_put_126 : decode cX10_put 126 = .ok (.iload_n 2, 1) := by decide +kernel
theorem dX10_put_127 : decode cX10_put 127 = .ok (.iastore, 1) := by decide +kernel
theorem dX10_put_128 : decode cX10_put 128 = .ok (.iload 6, 2) := by decide +kernel
theorem dX10_put_130 : decode cX10_put 130 = .ok (.ireturn, 1) := by decide +kernel
theorem dX10_coded_0 : decode cX10_coded 0 = .ok (.iconst 1, 1) := by decide +kernel
theorem dX10_coded_1 : decode cX10_coded 1 = .ok (.aload_n 0, 1) := by decide +kernel
theorem dX10_coded_2 : decode cX10_coded 2 = .ok (.getfield 7, 3) := by decide +kernel
theorem dX10_coded_5 : decode cX10_coded 5 = .ok (.iload_n 1, 1) := by decide +kernel
theorem dX10_coded_6 : decode cX10_coded 6 = .ok (.iaload, 1) := by decide +kernel
theorem dX10_coded_7 : decode cX10_coded 7 = .ok (.iconst 1, 1) := by decide +kernel
theorem dX10_coded_8 : decode cX10_coded 8 = .ok (.isub, 1) := by decide +kernel
theorem dX10_coded_9 : decode cX10_coded 9 = .ok (.ishl, 1) := by decide +kernel
theorem dX10_coded_10 : decode cX10_coded 10 = .ok (.istore_n 3, 1) := by decide +kernel
theorem dX10_coded_11 : decode cX10_coded 11 = .ok (.aload_n 0, 1) := by decide +kernel
theorem dX10_coded_12 : decode cX10_coded 12 = .ok (.getfield 13, 3) := by decide +kernel
theorem dX10_coded_15 : decode cX10_coded 15 = .ok (.iload_n 1, 1) := by decide +kernel
theorem dX10_coded_16 : decode cX10_coded 16 = .ok (.iaload, 1) := by decide +kernel
theorem dX10_coded_17 : decode cX10_coded 17 = .ok (.iconst 1, 1) := by decide +kernel
theorem dX10_coded_18 : decode cX10_coded 18 = .ok (.if_icmp .ne 17, 3) := by decide +kernel
theorem dX10_coded_21 : decode cX10_coded 21 = .ok (.iload_n 2, 1) := by decide +kernel
theorem dX10_coded_22 : decode cX10_coded 22 = .ok (.ifCond .ge 11, 3) := by decide +kernel
theorem dX10_coded_25 : decode cX10_coded 25 = .ok (.iload_n 2, 1) := by decide +kernel
theorem dX10_coded_26 : decode cX10_coded 26 = .ok (.iconst 2, 1) := by decide +kernel
theorem dX10_coded_27 : decode cX10_coded 27 = .ok (.iload_n 3, 1) := by decide +kernel
theorem dX10_coded_28 : decode cX10_coded 28 = .ok (.imul, 1) := by decide +kernel
theorem dX10_coded_29 : decode cX10_coded 29 = .ok (.iadd, 1) := by decide +kernel
theorem dX10_coded_30 : decode cX10_coded 30 = .ok (.goto 4, 3) := by decide +kernel
theorem dX10_coded_33 : decode cX10_coded 33 = .ok (.iload_n 2, 1) := by decide +kernel
theorem dX10_coded_34 : decode cX10_coded 34 = .ok (.ireturn, 1) := by decide +kernel
theorem dX10_coded_35 : decode cX10_coded 35 = .ok (.aload_n 0, 1) := by decide +kernel
theorem dX10_coded_36 : decode cX10_coded 36 = .ok (.getfield 13, 3) := by decide +kernel
theorem dX10_coded_39 : decode cX10_coded 39 = .ok (.iload_n 1, 1) := by decide +kernel
theorem dX10_coded_40 : decode cX10_coded 40 = .ok (.iaload, 1) := by decide +kernel
theorem dX10_coded_41 : decode cX10_coded 41 = .ok (.iconst 2, 1) := by decide +kernel
theorem dX10_coded_42 : decode cX10_coded 42 = .ok (.if_icmp .ne 15, 3) := by decide +kernel
theorem dX10_coded_45 : decode cX10_coded 45 = .ok (.iload_n 2, 1) := by decide +kernel
theorem dX10_coded_46 : decode cX10_coded 46 = .ok (.ifCond .ge 9, 3) := by decide +kernel
theorem dX10_coded_49 : decode cX10_coded 49 = .ok (.iload_n 3, 1) := by decide +kernel
theorem dX10_coded_50 : decode cX10_coded 50 = .ok (.iload_n 2, 1) := by decide +kernel
theorem dX10_coded_51 : decode cX10_coded 51 = .ok (.isub, 1) := by decide +kernel
theorem dX10_coded_52 : decode cX10_coded 52 = .ok (.goto 4, 3) := by decide +kernel
theorem dX10_coded_55 : decode cX10_coded 55 = .ok (.iload_n 2, 1) := by decide +kernel
theorem dX10_coded_56 : decode cX10_coded 56 = .ok (.ireturn, 1) := by decide +kernel
theorem dX10_coded_57 : decode cX10_coded 57 = .ok (.aload_n 0, 1) := by decide +kernel
theorem dX10_coded_58 : decode cX10_coded 58 = .ok (.getfield 13, 3) := by decide +kernel
theorem dX10_coded_61 : decode cX10_coded 61 = .ok (.iload_n 1, 1) := by decide +kernel
theorem dX10_coded_62 : decode cX10_coded 62 = .ok (.iaload, 1) := by decide +kernel
theorem dX10_coded_63 : decode cX10_coded 63 = .ok (.iconst 3, 1) := by decide +kernel
theorem dX10_coded_64 : decode cX10_coded 64 = .ok (.if_icmp .ne 9, 3) := by decide +kernel
theorem dX10_coded_67 : decode cX10_coded 67 = .ok (.iload_n 2, 1) := by decide +kernel
theorem dX10_coded_68 : decode cX10_coded 68 = .ok (.iload_n 3, 1) := by decide +kernel
theorem dX10_coded_69 : decode cX10_coded 69 = .ok (.iadd, 1) := by decide +kernel
theorem dX10_coded_70 : decode cX10_coded 70 = .ok (.goto 4, 3) := by decide +kernel
theorem dX10_coded_73 : decode cX10_coded 73 = .ok (.iload_n 2, 1) := by decide +kernel
theorem dX10_coded_74 : decode cX10_coded 74 = .ok (.ireturn, 1) := by decide +kernel
theorem dX10_read_0 : decode cX10_read 0 = .ok (.iconst 1, 1) := by decide +kernel
theorem dX10_read_1 : decode cX10_read 1 = .ok (.aload_n 0, 1) := by decide +kernel
theorem dX10_read_2 : decode cX10_read 2 = .ok (.getfield 7, 3) := by decide +kernel
theorem dX10_read_5 : decode cX10_read 5 = .ok (.iload_n 1, 1) := by decide +kernel
theorem dX10_read_6 : decode cX10_read 6 = .ok (.iaload, 1) := by decide +kernel
theorem dX10_read_7 : decode cX10_read 7 = .ok (.iconst 1, 1) := by decide +kernel
theorem dX10_read_8 : decode cX10_read 8 = .ok (.isub, 1) := by decide +kernel
theorem dX10_read_9 : decode cX10_read 9 = .ok (.ishl, 1) := by decide +kernel
theorem dX10_read_10 : decode cX10_read 10 = .ok (.istore_n 3, 1) := by decide +kernel
theorem dX10_read_11 : decode cX10_read 11 = .ok (.aload_n 0, 1) := by decide +kernel
theorem dX10_read_12 : decode cX10_read 12 = .ok (.getfield 13, 3) := by decide +kernel
theorem dX10_read_15 : decode cX10_read 15 = .ok (.iload_n 1, 1) := by decide +kernel
theorem dX10_read_16 : decode cX10_read 16 = .ok (.iaload, 1) := by decide +kernel
theorem dX10_read_17 : decode cX10_read 17 = .ok (.iconst 1, 1) := by decide +kernel
theorem dX10_read_18 : decode cX10_read 18 = .ok (.if_icmp .ne 18, 3) := by decide +kernel
theorem dX10_read_21 : decode cX10_read 21 = .ok (.iload_n 2, 1) := by decide +kernel
theorem dX10_read_22 : decode cX10_read 22 = .ok (.iload_n 3, 1) := by decide +kernel
theorem dX10_read_23 : decode cX10_read 23 = .ok (.if_icmp .lt 11, 3) := by decide +kernel
theorem dX10_read_26 : decode cX10_read 26 = .ok (.iload_n 2, 1) := by decide +kernel
theorem dX10_read_27 : decode cX10_read 27 = .ok (.iconst 2, 1) := by decide +kernel
theorem dX10_read_28 : decode cX10_read 28 = .ok (.iload_n 3, 1) := by decide +kernel
theorem dX10_read_29 : decode cX10_read 29 = .ok (.imul, 1) := by decide +kernel
theorem dX10_read_30 : decode cX10_read 30 = .ok (.isub, 1) := by decide +kernel
theorem dX10_read_31 : decode cX10_read 31 = .ok (.goto 4, 3) := by decide +kernel
theorem dX10_read_34 : decode cX10_read 34 = .ok (.iload_n 2, 1) := by decide +kernel
theorem dX10_read_35 : decode cX10_read 35 = .ok (.ireturn, 1) := by decide +kernel
theorem dX10_read_36 : decode cX10_read 36 = .ok (.aload_n 0, 1) := by decide +kernel
theorem dX10_read_37 : decode cX10_read 37 = .ok (.getfield 13, 3) := by decide +kernel
theorem dX10_read_40 : decode cX10_read 40 = .ok (.iload_n 1, 1) := by decide +kernel
theorem dX10_read_41 : decode cX10_read 41 = .ok (.iaload, 1) := by decide +kernel
theorem dX10_read_42 : decode cX10_read 42 = .ok (.iconst 2, 1) := by decide +kernel
theorem dX10_read_43 : decode cX10_read 43 = .ok (.if_icmp .ne 16, 3) := by decide +kernel
theorem dX10_read_46 : decode cX10_read 46 = .ok (.iload_n 2, 1) := by decide +kernel
theorem dX10_read_47 : decode cX10_read 47 = .ok (.iload_n 3, 1) := by decide +kernel
theorem dX10_read_48 : decode cX10_read 48 = .ok (.if_icmp .lt 9, 3) := by decide +kernel
theorem dX10_read_51 : decode cX10_read 51 = .ok (.iload_n 3, 1) := by decide +kernel
theorem dX10_read_52 : decode cX10_read 52 = .ok (.iload_n 2, 1) := by decide +kernel
theorem dX10_read_53 : decode cX10_read 53 = .ok (.isub, 1) := by decide +kernel
theorem dX10_read_54 : decode cX10_read 54 = .ok (.goto 4, 3) := by decide +kernel
theorem dX10_read_57 : decode cX10_read 57 = .ok (.iload_n 2, 1) := by decide +kernel
theorem dX10_read_58 : decode cX10_read 58 = .ok (.ireturn, 1) := by decide +kernel
theorem dX10_read_59 : decode cX10_read 59 = .ok (.aload_n 0, 1) := by decide +kernel
theorem dX10_read_60 : decode cX10_read 60 = .ok (.getfield 13, 3) := by decide +kernel
theorem dX10_read_63 : decode cX10_read 63 = .ok (.iload_n 1, 1) := by decide +kernel
theorem dX10_read_64 : decode cX10_read 64 = .ok (.iaload, 1) := by decide +kernel
theorem dX10_read_65 : decode cX10_read 65 = .ok (.iconst 3, 1) := by decide +kernel
theorem dX10_read_66 : decode cX10_read 66 = .ok (.if_icmp .ne 9, 3) := by decide +kernel
theorem dX10_read_69 : decode cX10_read 69 = .ok (.iload_n 2, 1) := by decide +kernel
theorem dX10_read_70 : decode cX10_read 70 = .ok (.iload_n 3, 1) := by decide +kernel
theorem dX10_read_71 : decode cX10_read 71 = .ok (.isub, 1) := by decide +kernel
theorem dX10_read_72 : decode cX10_read 72 = .ok (.goto 4, 3) := by decide +kernel
theorem dX10_read_75 : decode cX10_read 75 = .ok (.iload_n 2, 1) := by decide +kernel
theorem dX10_read_76 : decode cX10_read 76 = .ok (.ireturn, 1) := by decide +kernel
set_option maxRecDepth 20000 in
theorem ggX10_sendWord_X10_isSent : GoodIn wsX10_sendWord wsX10_isSent := goodIn_r _ [14, 15, 16, 26, 27, 28, 29, 30, 31, 32, 33, 34, 35, 36, 37, 38, 39, 40, 41, 42, 43, 44, 45, 46, 47, 48, 49, 50, 51, 52, 53, 54, 55, 56, 57, 58, 59, 60] (by decide +kernel) (by decide +kernel)
set_option maxRecDepth 20000 in
theorem gX10_sendWord_X10_isSent : GoodIn wsX10_sendWord (wsV RX10 88 RX10 yX10_isSent wsX10_isSent) := goodIn_app (goodIn_of _ (by decide +kernel)) ggX10_sendWord_X10_isSent
set_option maxRecDepth 20000 in
theorem ggX10_sendWord_X10_coded : GoodIn wsX10_sendWord wsX10_coded := goodIn_r _ [20, 7, 21, 26, 27, 28, 29, 30, 31, 32, 33, 34, 35, 36, 37, 38, 39, 40, 41, 42, 43, 44, 45, 46, 47, 48, 49, 50, 51, 52, 53, 54, 55, 56, 57, 58, 59, 60] (by decide +kernel) (by decide +kernel)
set_option maxRecDepth 20000 in
theorem gX10_sendWord_X10_coded : GoodIn wsX10_sendWord (wsV RX10 114 RX10 yX10_coded wsX10_coded) := goodIn_app (goodIn_of _ (by decide +kernel)) ggX10_sendWord_X10_coded
set_option maxRecDepth 20000 in
theorem ggX10_sendWord_X10_userOf : GoodIn wsX10_sendWord wsX10_userOf := goodIn_r _ [25, 2, 4, 7, 3, 10, 11, 12, 13, 14, 15, 16, 26, 27, 28, 29, 30, 31, 32, 33, 34, 35, 36, 37, 38, 39, 40, 41, 42, 43, 44, 45, 46, 47, 48, 49, 50, 51, 52, 53, 54, 55, 56, 57, 58, 59, 60] (by decide +kernel) (by decide +kernel)
set_option maxRecDepth 20000 in
theorem gX10_sendWord_X10_userOf : GoodIn wsX10_sendWord (wsV RX10 92 RX10 yX10_userOf wsX10_userOf) := goodIn_app (goodIn_of _ (by decide +kernel)) ggX10_sendWord_X10_userOf
theorem dX10_sendWord_0 : decode cX10_sendWord 0 = .ok (.aload_n 0, 1) := by decide +kernel
theorem dX10_sendWord_1 : decode cX10_sendWord 1 = .ok (.getfield 104, 3) := by decide +kernel
theorem dX10_sendWord_4 : decode cX10_sendWord 4 = .ok (.bipush 8, 2) := by decide +kernel
theorem dX10_sendWord_6 : decode cX10_sendWord 6 = .ok (.irem, 1) := by decide +kernel
theorem dX10_sendWord_7 : decode cX10_sendWord 7 = .ok (.istore_n 1, 1) := by decide +kernel
theorem dX10_sendWord_8 : decode cX10_sendWord 8 = .ok (.aload_n 0, 1) := by decide +kernel
theorem dX10_sendWord_9 : decode cX10_sendWord 9 = .ok (.getfield 104, 3) := by decide +kernel
theorem dX10_sendWord_12 : decode cX10_sendWord 12 = .ok (.bipush 8, 2) := by decide +kernel
theorem dX10_sendWord_14 : decode cX10_sendWord 14 = .ok (.idiv, 1) := by decide +kernel
theorem dX10_sendWord_15 : decode cX10_sendWord 15 = .ok (.sipush 256, 3) := by decide +kernel
theorem dX10_sendWord_18 : decode cX10_sendWord 18 = .ok (.irem, 1) := by decide +kernel
theorem dX10_sendWord_19 : decode cX10_sendWord 19 = .ok (.istore_n 2, 1) := by decide +kernel
theorem dX10_sendWord_20 : decode cX10_sendWord 20 = .ok (.iconst 0, 1) := by decide +kernel
theorem dX10_sendWord_21 : decode cX10_sendWord 21 = .ok (.istore_n 3, 1) := by decide +kernel
theorem dX10_sendWord_22 : decode cX10_sendWord 22 = .ok (.iload_n 3, 1) := by decide +kernel
theorem dX10_sendWord_23 : decode cX10_sendWord 23 = .ok (.aload_n 0, 1) := by decide +kernel
theorem dX10_sendWord_24 : decode cX10_sendWord 24 = .ok (.getfield 81, 3) := by decide +kernel
theorem dX10_sendWord_27 : decode cX10_sendWord 27 = .ok (.if_icmp .ge 82, 3) := by decide +kernel
theorem dX10_sendWord_30 : decode cX10_sendWord 30 = .ok (.iconst 0, 1) := by decide +kernel
theorem dX10_sendWord_31 : decode cX10_sendWord 31 = .ok (.istore 4, 2) := by decide +kernel
theorem dX10_sendWord_33 : decode cX10_sendWord 33 = .ok (.iload 4, 2) := by decide +kernel
theorem dX10_sendWord_35 : decode cX10_sendWord 35 = .ok (.aload_n 0, 1) := by decide +kernel
theorem dX10_sendWord_36 : decode cX10_sendWord 36 = .ok (.getfield 19, 3) := by decide +kernel
theorem dX10_sendWord_39 : decode cX10_sendWord 39 = .ok (.iload_n 3, 1) := by decide +kernel
theorem dX10_sendWord_40 : decode cX10_sendWord 40 = .ok (.iaload, 1) := by decide +kernel
theorem dX10_sendWord_41 : decode cX10_sendWord 41 = .ok (.if_icmp .ge 62, 3) := by decide +kernel
theorem dX10_sendWord_44 : decode cX10_sendWord 44 = .ok (.aload_n 0, 1) := by decide +kernel
theorem dX10_sendWord_45 : decode cX10_sendWord 45 = .ok (.iload_n 3, 1) := by decide +kernel
theorem dX10_sendWord_46 : decode cX10_sendWord 46 = .ok (.iload_n 2, 1) := by decide +kernel
theorem dX10_sendWord_47 : decode cX10_sendWord 47 = .ok (.invokevirtual 88, 3) := by decide +kernel
theorem dX10_sendWord_50 : decode cX10_sendWord 50 = .ok (.ifCond .eq 47, 3) := by decide +kernel
theorem dX10_sendWord_53 : decode cX10_sendWord 53 = .ok (.bipush 16, 2) := by decide +kernel
theorem dX10_sendWord_55 : decode cX10_sendWord 55 = .ok (.aload_n 0, 1) := by decide +kernel
theorem dX10_sendWord_56 : decode cX10_sendWord 56 = .ok (.getfield 25, 3) := by decide +kernel
theorem dX10_sendWord_59 : decode cX10_sendWord 59 = .ok (.iload_n 3, 1) := by decide +kernel
theorem dX10_sendWord_60 : decode cX10_sendWord 60 = .ok (.iaload, 1) := by decide +kernel
theorem dX10_sendWord_61 : decode cX10_sendWord 61 = .ok (.iadd, 1) := by decide +kernel
theorem dX10_sendWord_62 : decode cX10_sendWord 62 = .ok (.bipush 24, 2) := by decide +kernel
theorem dX10_sendWord_64 : decode cX10_sendWord 64 = .ok (.iload 4, 2) := by decide +kernel
theorem dX10_sendWord_66 : decode cX10_sendWord 66 = .ok (.imul, 1) := by decide +kernel
theorem dX10_sendWord_67 : decode cX10_sendWord 67 = .ok (.iadd, 1) := by decide +kernel
theorem dX10_sendWord_68 : decode cX10_sendWord 68 = .ok (.bipush 8, 2) := by decide +kernel
theorem dX10_sendWord_70 : decode cX10_sendWord 70 = .ok (.idiv, 1) := by decide +kernel
theorem dX10_sendWord_71 : decode cX10_sendWord 71 = .ok (.iload_n 1, 1) := by decide +kernel
theorem dX10_sendWord_72 : decode cX10_sendWord 72 = .ok (.if_icmp .ne 25, 3) := by decide +kernel
theorem dX10_sendWord_75 : decode cX10_sendWord 75 = .ok (.aload_n 0, 1) := by decide +kernel
theorem dX10_sendWord_76 : decode cX10_sendWord 76 = .ok (.getfield 31, 3) := by decide +kernel
theorem dX10_sendWord_79 : decode cX10_sendWord 79 = .ok (.iconst 2, 1) := by decide +kernel
theorem dX10_sendWord_80 : decode cX10_sendWord 80 = .ok (.iload_n 3, 1) := by decide +kernel
theorem dX10_sendWord_81 : decode cX10_sendWord 81 = .ok (.imul, 1) := by decide +kernel
theorem dX10_sendWord_82 : decode cX10_sendWord 82 = .ok (.iload 4, 2) := by decide +kernel
theorem dX10_sendWord_84 : decode cX10_sendWord 84 = .ok (.iadd, 1) := by decide +kernel
theorem dX10_sendWord_85 : decode cX10_sendWord 85 = .ok (.aload_n 0, 1) := by decide +kernel
theorem dX10_sendWord_86 : decode cX10_sendWord 86 = .ok (.iload_n 3, 1) := by decide +kernel
theorem dX10_sendWord_87 : decode cX10_sendWord 87 = .ok (.aload_n 0, 1) := by decide +kernel
theorem dX10_sendWord_88 : decode cX10_sendWord 88 = .ok (.getfield 28, 3) := by decide +kernel
theorem dX10_sendWord_91 : decode cX10_sendWord 91 = .ok (.iload_n 3, 1) := by decide +kernel
theorem dX10_sendWord_92 : decode cX10_sendWord 92 = .ok (.iaload, 1) := by decide +kernel
theorem dX10_sendWord_93 : decode cX10_sendWord 93 = .ok (.invokevirtual 114, 3) := by decide +kernel
theorem dX10_sendWord_96 : decode cX10_sendWord 96 = .ok (.iastore, 1) := by decide +kernel
theorem dX10_sendWord_97 : decode cX10_sendWord 97 = .ok (.iinc 4 1, 3) := by decide +kernel
theorem dX10_sendWord_100 : decode cX10_sendWord 100 = .ok (.goto (-67), 3) := by decide +kernel
theorem dX10_sendWord_103 : decode cX10_sendWord 103 = .ok (.iinc 3 1, 3) := by decide +kernel
theorem dX10_sendWord_106 : decode cX10_sendWord 106 = .ok (.goto (-84), 3) := by decide +kernel
theorem dX10_sendWord_109 : decode cX10_sendWord 109 = .ok (.bipush 8, 2) := by decide +kernel
theorem dX10_sendWord_111 : decode cX10_sendWord 111 = .ok (.iload_n 1, 1) := by decide +kernel
theorem dX10_sendWord_112 : decode cX10_sendWord 112 = .ok (.imul, 1) := by decide +kernel
theorem dX10_sendWord_113 : decode cX10_sendWord 113 = .ok (.istore_n 3, 1) := by decide +kernel
theorem dX10_sendWord_114 : decode cX10_sendWord 114 = .ok (.iload_n 3, 1) := by decide +kernel
theorem dX10_sendWord_115 : decode cX10_sendWord 115 = .ok (.bipush 8, 2) := by decide +kernel
theorem dX10_sendWord_117 : decode cX10_sendWord 117 = .ok (.iload_n 1, 1) := by decide +kernel
theorem dX10_sendWord_118 : decode cX10_sendWord 118 = .ok (.imul, 1) := by decide +kernel
theorem dX10_sendWord_119 : decode cX10_sendWord 119 = .ok (.bipush 8, 2) := by decide +kernel
theorem dX10_sendWord_121 : decode cX10_sendWord 121 = .ok (.iadd, 1) := by decide +kernel
theorem dX10_sendWord_122 : decode cX10_sendWord 122 = .ok (.if_icmp .ge 164, 3) := by decide +kernel
theorem dX10_sendWord_125 : decode cX10_sendWord 125 = .ok (.iload_n 1, 1) := by decide +kernel
theorem dX10_sendWord_126 : decode cX10_sendWord 126 = .ok (.ifCond .ne 16, 3) := by decide +kernel
theorem dX10_sendWord_129 : decode cX10_sendWord 129 = .ok (.sipush 184, 3) := by decide +kernel
theorem dX10_sendWord_132 : decode cX10_sendWord 132 = .ok (.bipush 7, 2) := by decide +kernel
theorem dX10_sendWord_134 : decode cX10_sendWord 134 = .ok (.iload_n 3, 1) := by decide +kernel
theorem dX10_sendWord_135 : decode cX10_sendWord 135 = .ok (.isub, 1) := by decide +kernel
theorem dX10_sendWord_136 : decode cX10_sendWord 136 = .ok (.ishr, 1) := by decide +kernel
theorem dX10_sendWord_137 : decode cX10_sendWord 137 = .ok (.iconst 1, 1) := by decide +kernel
theorem dX10_sendWord_138 : decode cX10_sendWord 138 = .ok (.iand, 1) := by decide +kernel
theorem dX10_sendWord_139 : decode cX10_sendWord 139 = .ok (.goto 20, 3) := by decide +kernel
theorem dX10_sendWord_142 : decode cX10_sendWord 142 = .ok (.iload_n 1, 1) := by decide +kernel
theorem dX10_sendWord_143 : decode cX10_sendWord 143 = .ok (.iconst 1, 1) := by decide +kernel
theorem dX10_sendWord_144 : decode cX10_sendWord 144 = .ok (.if_icmp .ne 14, 3) := by decide +kernel
theorem dX10_sendWord_147 : decode cX10_sendWord 147 = .ok (.iload_n 2, 1) := by decide +kernel
theorem dX10_sendWord_148 : decode cX10_sendWord 148 = .ok (.bipush 15, 2) := by decide +kernel
theorem dX10_sendWord_150 : decode cX10_sendWord 150 = .ok (.iload_n 3, 1) := by decide +kernel
theorem dX10_sendWord_151 : decode cX10_sendWord 151 = .ok (.isub, 1) := by decide +kernel
theorem dX10_sendWord_152 : decode cX10_sendWord 152 = .ok (.ishr, 1) := by decide +kernel
theorem dX10_sendWord_153 : decode cX10_sendWord 153 = .ok (.iconst 1, 1) := by decide +kernel
theorem dX10_sendWord_154 : decode cX10_sendWord 154 = .ok (.iand, 1) := by decide +kernel
theorem dX10_sendWord_155 : decode cX10_sendWord 155 = .ok (.goto 4, 3) := by decide +kernel
theorem dX10_sendWord_158 : decode cX10_sendWord 158 = .ok (.iconst 0, 1) := by decide +kernel
theorem dX10_sendWord_159 : decode cX10_sendWord 159 = .ok (.istore 4, 2) := by decide +kernel
theorem dX10_sendWord_161 : decode cX10_sendWord 161 = .ok (.iload_n 1, 1) := by decide +kernel
theorem dX10_sendWord_162 : decode cX10_sendWord 162 = .ok (.iconst 2, 1) := by decide +kernel
theorem dX10_sendWord_163 : decode cX10_sendWord 163 = .ok (.if_icmp .ge 7, 3) := by decide +kernel
theorem dX10_sendWord_166 : decode cX10_sendWord 166 = .ok (.iconst (-1), 1) := by decide +kernel
theorem dX10_sendWord_167 : decode cX10_sendWord 167 = .ok (.goto 12, 3) := by decide +kernel
theorem dX10_sendWord_170 : decode cX10_sendWord 170 = .ok (.aload_n 0, 1) := by decide +kernel
theorem dX10_sendWord_171 : decode cX10_sendWord 171 = .ok (.iload_n 2, 1) := by decide +kernel
theorem dX10_sendWord_172 : decode cX10_sendWord 172 = .ok (.iload_n 3, 1) := by decide +kernel
theorem dX10_sendWord_173 : decode cX10_sendWord 173 = .ok (.bipush 16, 2) := by decide +kernel
theorem dX10_sendWord_175 : decode cX10_sendWord 175 = .ok (.isub, 1) := by decide +kernel
theorem dX10_sendWord_176 : decode cX10_sendWord 176 = .ok (.invokevirtual 92, 3) := by decide +kernel
theorem dX10_sendWord_179 : decode cX10_sendWord 179 = .ok (.istore 5, 2) := by decide +kernel
theorem dX10_sendWord_181 : decode cX10_sendWord 181 = .ok (.iload 5, 2) := by decide +kernel
theorem dX10_sendWord_183 : decode cX10_sendWord 183 = .ok (.iconst (-1), 1) := by decide +kernel
theorem dX10_sendWord_184 : decode cX10_sendWord 184 = .ok (.if_icmp .eq 75, 3) := by decide +kernel
theorem dX10_sendWord_187 : decode cX10_sendWord 187 = .ok (.aload_n 0, 1) := by decide +kernel
theorem dX10_sendWord_188 : decode cX10_sendWord 188 = .ok (.getfield 19, 3) := by decide +kernel
theorem dX10_sendWord_191 : decode cX10_sendWord 191 = .ok (.iload 5, 2) := by decide +kernel
theorem dX10_sendWord_193 : decode cX10_sendWord 193 = .ok (.iaload, 1) := by decide +kernel
theorem dX10_sendWord_194 : decode cX10_sendWord 194 = .ok (.iconst 2, 1) := by decide +kernel
theorem dX10_sendWord_195 : decode cX10_sendWord 195 = .ok (.if_icmp .ne 16, 3) := by decide +kernel
theorem dX10_sendWord_198 : decode cX10_sendWord 198 = .ok (.iload_n 3, 1) := by decide +kernel
theorem dX10_sendWord_199 : decode cX10_sendWord 199 = .ok (.bipush 16, 2) := by decide +kernel
theorem dX10_sendWord_201 : decode cX10_sendWord 201 = .ok (.isub, 1) := by decide +kernel
theorem dX10_sendWord_202 : decode cX10_sendWord 202 = .ok (.bipush 24, 2) := by decide +kernel
theorem dX10_sendWord_204 : decode cX10_sendWord 204 = .ok (.if_icmp .lt 7, 3) := by decide +kernel
theorem dX10_sendWord_207 : decode cX10_sendWord 207 = .ok (.iconst 1, 1) := by decide +kernel
theorem dX10_sendWord_208 : decode cX10_sendWord 208 = .ok (.goto 4, 3) := by decide +kernel
theorem dX10_sendWord_211 : decode cX10_sendWord 211 = .ok (.iconst 0, 1) := by decide +kernel
theorem dX10_sendWord_212 : decode cX10_sendWord 212 = .ok (.istore 6, 2) := by decide +kernel
theorem dX10_sendWord_214 : decode cX10_sendWord 214 = .ok (.aload_n 0, 1) := by decide +kernel
theorem dX10_sendWord_215 : decode cX10_sendWord 215 = .ok (.getfield 31, 3) := by decide +kernel
theorem dX10_sendWord_218 : decode cX10_sendWord 218 = .ok (.iconst 2, 1) := by decide +kernel
theorem dX10_sendWord_219 : decode cX10_sendWord 219 = .ok (.iload 5, 2) := by decide +kernel
theorem dX10_sendWord_221 : decode cX10_sendWord 221 = .ok (.imul, 1) := by decide +kernel
theorem dX10_sendWord_222 : decode cX10_sendWord 222 = .ok (.iload 6, 2) := by decide +kernel
theorem dX10_sendWord_224 : decode cX10_sendWord 224 = .ok (.iadd, 1) := by decide +kernel
theorem dX10_sendWord_225 : decode cX10_sendWord 225 = .ok (.iaload, 1) := by decide +kernel
theorem dX10_sendWord_226 : decode cX10_sendWord 226 = .ok (.aload_n 0, 1) := by decide +kernel
theorem dX10_sendWord_227 : decode cX10_sendWord 227 = .ok (.getfield 7, 3) := by decide +kernel
theorem dX10_sendWord_230 : decode cX10_sendWord 230 = .ok (.iload 5, 2) := by decide +kernel
theorem dX10_sendWord_232 : decode cX10_sendWord 232 = .ok (.iaload, 1) := by decide +kernel
theorem dX10_sendWord_233 : decode cX10_sendWord 233 = .ok (.iconst 1, 1) := by decide +kernel
theorem dX10_sendWord_234 : decode cX10_sendWord 234 = .ok (.isub, 1) := by decide +kernel
