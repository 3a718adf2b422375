theorem dL_derives_25 : decode cL_derives 25 = .ok (.idiv, 1) := by decide +kernel
theorem dL_derives_26 : decode cL_derives 26 = .ok (.bipush 8, 2) := by decide +kernel
theorem dL_derives_28 : decode cL_derives 28 = .ok (.irem, 1) := by decide +kernel
theorem dL_derives_29 : decode cL_derives 29 = .ok (.iadd, 1) := by decide +kernel
theorem dL_derives_30 : decode cL_derives 30 = .ok (.goto 10, 3) := by decide +kernel
theorem dL_derives_33 : decode cL_derives 33 = .ok (.iload_n 1, 1) := by decide +kernel
theorem dL_derives_34 : decode cL_derives 34 = .ok (.bipush 24, 2) := by decide +kernel
theorem dL_derives_36 : decode cL_derives 36 = .ok (.idiv, 1) := by decide +kernel
theorem dL_derives_37 : decode cL_derives 37 = .ok (.bipush 12, 2) := by decide +kernel
theorem dL_derives_39 : decode cL_derives 39 = .ok (.irem, 1) := by decide +kernel
theorem dL_derives_40 : decode cL_derives 40 = .ok (.istore 6, 2) := by decide +kernel
theorem dL_derives_42 : decode cL_derives 42 = .ok (.iload_n 2, 1) := by decide +kernel
theorem dL_derives_43 : decode cL_derives 43 = .ok (.iconst 5, 1) := by decide +kernel
theorem dL_derives_44 : decode cL_derives 44 = .ok (.idiv, 1) := by decide +kernel
theorem dL_derives_45 : decode cL_derives 45 = .ok (.iconst 2, 1) := by decide +kernel
theorem dL_derives_46 : decode cL_derives 46 = .ok (.irem, 1) := by decide +kernel
theorem dL_derives_47 : decode cL_derives 47 = .ok (.ifCond .ne 16, 3) := by decide +kernel
theorem dL_derives_50 : decode cL_derives 50 = .ok (.bipush 100, 2) := by decide +kernel
theorem dL_derives_52 : decode cL_derives 52 = .ok (.iload_n 2, 1) := by decide +kernel
theorem dL_derives_53 : decode cL_derives 53 = .ok (.bipush 10, 2) := by decide +kernel
theorem dL_derives_55 : decode cL_derives 55 = .ok (.idiv, 1) := by decide +kernel
theorem dL_derives_56 : decode cL_derives 56 = .ok (.bipush 8, 2) := by decide +kernel
theorem dL_derives_58 : decode cL_derives 58 = .ok (.irem, 1) := by decide +kernel
theorem dL_derives_59 : decode cL_derives 59 = .ok (.iadd, 1) := by decide +kernel
theorem dL_derives_60 : decode cL_derives 60 = .ok (.goto 10, 3) := by decide +kernel
theorem dL_derives_63 : decode cL_derives 63 = .ok (.iload_n 2, 1) := by decide +kernel
theorem dL_derives_64 : decode cL_derives 64 = .ok (.bipush 10, 2) := by decide +kernel
theorem dL_derives_66 : decode cL_derives 66 = .ok (.idiv, 1) := by decide +kernel
theorem dL_derives_67 : decode cL_derives 67 = .ok (.bipush 12, 2) := by decide +kernel
theorem dL_derives_69 : decode cL_derives 69 = .ok (.irem, 1) := by decide +kernel
theorem dL_derives_70 : decode cL_derives 70 = .ok (.istore 7, 2) := by decide +kernel
theorem dL_derives_72 : decode cL_derives 72 = .ok (.aload_n 3, 1) := by decide +kernel
theorem dL_derives_73 : decode cL_derives 73 = .ok (.iload 6, 2) := by decide +kernel
theorem dL_derives_75 : decode cL_derives 75 = .ok (.iload 4, 2) := by decide +kernel
theorem dL_derives_77 : decode cL_derives 77 = .ok (.invokestatic 107, 3) := by decide +kernel
theorem dL_derives_80 : decode cL_derives 80 = .ok (.ifCond .ne 14, 3) := by decide +kernel
theorem dL_derives_83 : decode cL_derives 83 = .ok (.aload_n 3, 1) := by decide +kernel
theorem dL_derives_84 : decode cL_derives 84 = .ok (.iload 7, 2) := by decide +kernel
theorem dL_derives_86 : decode cL_derives 86 = .ok (.iload 4, 2) := by decide +kernel
theorem dL_derives_88 : decode cL_derives 88 = .ok (.invokestatic 107, 3) := by decide +kernel
theorem dL_derives_91 : decode cL_derives 91 = .ok (.ifCond .eq 7, 3) := by decide +kernel
theorem dL_derives_94 : decode cL_derives 94 = .ok (.iconst 1, 1) := by decide +kernel
theorem dL_derives_95 : decode cL_derives 95 = .ok (.goto 4, 3) := by decide +kernel
theorem dL_derives_98 : decode cL_derives 98 = .ok (.iconst 0, 1) := by decide +kernel
theorem dL_derives_99 : decode cL_derives 99 = .ok (.istore 8, 2) := by decide +kernel
theorem dL_derives_101 : decode cL_derives 101 = .ok (.aload_n 0, 1) := by decide +kernel
theorem dL_derives_102 : decode cL_derives 102 = .ok (.iload 4, 2) := by decide +kernel
theorem dL_derives_104 : decode cL_derives 104 = .ok (.iload 5, 2) := by decide +kernel
theorem dL_derives_106 : decode cL_derives 106 = .ok (.iload 6, 2) := by decide +kernel
theorem dL_derives_108 : decode cL_derives 108 = .ok (.iload 7, 2) := by decide +kernel
theorem dL_derives_110 : decode cL_derives 110 = .ok (.invokestatic 111, 3) := by decide +kernel
theorem dL_derives_113 : decode cL_derives 113 = .ok (.istore 9, 2) := by decide +kernel
theorem dL_derives_115 : decode cL_derives 115 = .ok (.aload_n 3, 1) := by decide +kernel
theorem dL_derives_116 : decode cL_derives 116 = .ok (.iload 4, 2) := by decide +kernel
theorem dL_derives_118 : decode cL_derives 118 = .ok (.iload 9, 2) := by decide +kernel
theorem dL_derives_120 : decode cL_derives 120 = .ok (.ifCond .eq 22, 3) := by decide +kernel
theorem dL_derives_123 : decode cL_derives 123 = .ok (.iload 5, 2) := by decide +kernel
theorem dL_derives_125 : decode cL_derives 125 = .ok (.iconst 1, 1) := by decide +kernel
theorem dL_derives_126 : decode cL_derives 126 = .ok (.iadd, 1) := by decide +kernel
theorem dL_derives_127 : decode cL_derives 127 = .ok (.bipush 20, 2) := by decide +kernel
theorem dL_derives_129 : decode cL_derives 129 = .ok (.ishl, 1) := by decide +kernel
theorem dL_derives_130 : decode cL_derives 130 = .ok (.iload 6, 2) := by decide +kernel
theorem dL_derives_132 : decode cL_derives 132 = .ok (.bipush 10, 2) := by decide +kernel
theorem dL_derives_134 : decode cL_derives 134 = .ok (.ishl, 1) := by decide +kernel
theorem dL_derives_135 : decode cL_derives 135 = .ok (.ior, 1) := by decide +kernel
theorem dL_derives_136 : decode cL_derives 136 = .ok (.iload 7, 2) := by decide +kernel
theorem dL_derives_138 : decode cL_derives 138 = .ok (.ior, 1) := by decide +kernel
theorem dL_derives_139 : decode cL_derives 139 = .ok (.goto 7, 3) := by decide +kernel
theorem dL_derives_142 : decode cL_derives 142 = .ok (.aload_n 3, 1) := by decide +kernel
theorem dL_derives_143 : decode cL_derives 143 = .ok (.iload 4, 2) := by decide +kernel
theorem dL_derives_145 : decode cL_derives 145 = .ok (.iaload, 1) := by decide +kernel
theorem dL_derives_146 : decode cL_derives 146 = .ok (.iastore, 1) := by decide +kernel
theorem dL_derives_147 : decode cL_derives 147 = .ok (.iload 9, 2) := by decide +kernel
theorem dL_derives_149 : decode cL_derives 149 = .ok (.iload 8, 2) := by decide +kernel
theorem dL_derives_151 : decode cL_derives 151 = .ok (.ifCond .ne 7, 3) := by decide +kernel
theorem dL_derives_154 : decode cL_derives 154 = .ok (.iconst 1, 1) := by decide +kernel
theorem dL_derives_155 : decode cL_derives 155 = .ok (.goto 4, 3) := by decide +kernel
theorem dL_derives_158 : decode cL_derives 158 = .ok (.iconst 0, 1) := by decide +kernel
theorem dL_derives_159 : decode cL_derives 159 = .ok (.if_icmp .ne 7, 3) := by decide +kernel
theorem dL_derives_162 : decode cL_derives 162 = .ok (.iconst 1, 1) := by decide +kernel
theorem dL_derives_163 : decode cL_derives 163 = .ok (.goto 4, 3) := by decide +kernel
theorem dL_derives_166 : decode cL_derives 166 = .ok (.iconst 0, 1) := by decide +kernel
theorem dL_derives_167 : decode cL_derives 167 = .ok (.ireturn, 1) := by decide +kernel
theorem dL_areDerived_0 : decode cL_areDerived 0 = .ok (.iconst 1, 1) := by decide +kernel
theorem dL_areDerived_1 : decode cL_areDerived 1 = .ok (.istore_n 2, 1) := by decide +kernel
theorem dL_areDerived_2 : decode cL_areDerived 2 = .ok (.iconst 0, 1) := by decide +kernel
theorem dL_areDerived_3 : decode cL_areDerived 3 = .ok (.istore_n 3, 1) := by decide +kernel
theorem dL_areDerived_4 : decode cL_areDerived 4 = .ok (.iload_n 3, 1) := by decide +kernel
theorem dL_areDerived_5 : decode cL_areDerived 5 = .ok (.bipush 8, 2) := by decide +kernel
theorem dL_areDerived_7 : decode cL_areDerived 7 = .ok (.if_icmp .ge 421, 3) := by decide +kernel
theorem dL_areDerived_10 : decode cL_areDerived 10 = .ok (.iload_n 2, 1) := by decide +kernel
theorem dL_areDerived_11 : decode cL_areDerived 11 = .ok (.ifCond .eq 417, 3) := by decide +kernel
theorem dL_areDerived_14 : decode cL_areDerived 14 = .ok (.aload_n 1, 1) := by decide +kernel
theorem dL_areDerived_15 : decode cL_areDerived 15 = .ok (.iload_n 3, 1) := by decide +kernel
theorem dL_areDerived_16 : decode cL_areDerived 16 = .ok (.iaload, 1) := by decide +kernel
theorem dL_areDerived_17 : decode cL_areDerived 17 = .ok (.bipush 10, 2) := by decide +kernel
theorem dL_areDerived_19 : decode cL_areDerived 19 = .ok (.ishr, 1) := by decide +kernel
theorem dL_areDerived_20 : decode cL_areDerived 20 = .ok (.sipush 1023, 3) := by decide +kernel
theorem dL_areDerived_23 : decode cL_areDerived 23 = .ok (.iand, 1) := by decide +kernel
theorem dL_areDerived_24 : decode cL_areDerived 24 = .ok (.istore 4, 2) := by decide +kernel
theorem dL_areDerived_26 : decode cL_areDerived 26 = .ok (.aload_n 1, 1) := by decide +kernel
theorem dL_areDerived_27 : decode cL_areDerived 27 = .ok (.iload_n 3, 1) := by decide +kernel
theorem dL_areDerived_28 : decode cL_areDerived 28 = .ok (.iaload, 1) := by decide +kernel
theorem dL_areDerived_29 : decode cL_areDerived 29 = .ok (.sipush 1023, 3) := by decide +kernel
theorem dL_areDerived_32 : decode cL_areDerived 32 = .ok (.iand, 1) := by decide +kernel
theorem dL_areDerived_33 : decode cL_areDerived 33 = .ok (.istore 5, 2) := by decide +kernel
theorem dL_areDerived_35 : decode cL_areDerived 35 = .ok (.aload_n 1, 1) := by decide +kernel
theorem dL_areDerived_36 : decode cL_areDerived 36 = .ok (.iload_n 3, 1) := by decide +kernel
theorem dL_areDerived_37 : decode cL_areDerived 37 = .ok (.iaload, 1) := by decide +kernel
theorem dL_areDerived_38 : decode cL_areDerived 38 = .ok (.ifCond .ne 9, 3) := by decide +kernel
theorem dL_areDerived_41 : decode cL_areDerived 41 = .ok (.ldc2_w 115, 3) := by decide +kernel
theorem dL_areDerived_44 : decode cL_areDerived 44 = .ok (.goto 47, 3) := by decide +kernel
theorem dL_areDerived_47 : decode cL_areDerived 47 = .ok (.iload 4, 2) := by decide +kernel
theorem dL_areDerived_49 : decode cL_areDerived 49 = .ok (.bipush 100, 2) := by decide +kernel
theorem dL_areDerived_51 : decode cL_areDerived 51 = .ok (.if_icmp .lt 17, 3) := by decide +kernel
theorem dL_areDerived_54 : decode cL_areDerived 54 = .ok (.aload_n 0, 1) := by decide +kernel
theorem dL_areDerived_55 : decode cL_areDerived 55 = .ok (.iconst 3, 1) := by decide +kernel
theorem dL_areDerived_56 : decode cL_areDerived 56 = .ok (.iload 4, 2) := by decide +kernel
theorem dL_areDerived_58 : decode cL_areDerived 58 = .ok (.bipush 100, 2) := by decide +kernel
theorem dL_areDerived_60 : decode cL_areDerived 60 = .ok (.isub, 1) := by decide +kernel
theorem dL_areDerived_61 : decode cL_areDerived 61 = .ok (.invokestatic 57, 3) := by decide +kernel
theorem dL_areDerived_64 : decode cL_areDerived 64 = .ok (.i2l, 1) := by decide +kernel
theorem dL_areDerived_65 : decode cL_areDerived 65 = .ok (.goto 26, 3) := by decide +kernel
theorem dL_areDerived_68 : decode cL_areDerived 68 = .ok (.iload 4, 2) := by decide +kernel
theorem dL_areDerived_70 : decode cL_areDerived 70 = .ok (.aload_n 0, 1) := by decide +kernel
theorem dL_areDerived_71 : decode cL_areDerived 71 = .ok (.invokevirtual 42, 3) := by decide +kernel
theorem dL_areDerived_74 : decode cL_areDerived 74 = .ok (.if_icmp .ge 14, 3) := by decide +kernel
theorem dL_areDerived_77 : decode cL_areDerived 77 = .ok (.aload_n 0, 1) := by decide +kernel
theorem dL_areDerived_78 : decode cL_areDerived 78 = .ok (.iconst 0, 1) := by decide +kernel
theorem dL_areDerived_79 : decode cL_areDerived 79 = .ok (.iload 4, 2) := by decide +kernel
theorem dL_areDerived_81 : decode cL_areDerived 81 = .ok (.invokestatic 57, 3) := by decide +kernel
theorem dL_areDerived_84 : decode cL_areDerived 84 = .ok (.i2l, 1) := by decide +kernel
theorem dL_areDerived_85 : decode cL_areDerived 85 = .ok (.goto 6, 3) := by decide +kernel
theorem dL_areDerived_88 : decode cL_areDerived 88 = .ok (.ldc2_w 115, 3) := by decide +kernel
theorem dL_areDerived_91 : decode cL_areDerived 91 = .ok (.lstore 6, 2) := by decide +kernel
theorem dL_areDerived_93 : decode cL_areDerived 93 = .ok (.aload_n 1, 1) := by decide +kernel
theorem dL_areDerived_94 : decode cL_areDerived 94 = .ok (.iload_n 3, 1) := by decide +kernel
theorem dL_areDerived_95 : decode cL_areDerived 95 = .ok (.iaload, 1) := by decide +kernel
theorem dL_areDerived_96 : decode cL_areDerived 96 = .ok (.ifCond .ne 9, 3) := by decide +kernel
theorem dL_areDerived_99 : decode cL_areDerived 99 = .ok (.ldc2_w 115, 3) := by decide +kernel
theorem dL_areDerived_102 : decode cL_areDerived 102 = .ok (.goto 47, 3) := by decide +kernel
theorem dL_areDerived_105 : decode cL_areDerived 105 = .ok (.iload 5, 2) := by decide +kernel
theorem dL_areDerived_107 : decode cL_areDerived 107 = .ok (.bipush 100, 2) := by decide +kernel
theorem dL_areDerived_109 : decode cL_areDerived 109 = .ok (.if_icmp .lt 17, 3) := by decide +kernel
theorem dL_areDerived_112 : decode cL_areDerived 112 = .ok (.aload_n 0, 1) := by decide +kernel
theorem dL_areDerived_113 : decode cL_areDerived 113 = .ok (.iconst 3, 1) := by decide +kernel
theorem dL_areDerived_114 : decode cL_areDerived 114 = .ok (.iload 5, 2) := by decide +kernel
theorem dL_areDerived_116 : decode cL_areDerived 116 = .ok (.bipush 100, 2) := by decide +kernel
theorem dL_areDerived_118 : decode cL_areDerived 118 = .ok (.isub, 1) := by decide +kernel
theorem dL_areDerived_119 : decode cL_areDerived 119 = .ok (.invokestatic 57, 3) := by decide +kernel
theorem dL_areDerived_122 : decode cL_areDerived 122 = .ok (.i2l, 1) := by decide +kernel
theorem dL_areDerived_123 : decode cL_areDerived 123 = .ok (.goto 26, 3) := by decide +kernel
theorem dL_areDerived_126 : decode cL_areDerived 126 = .ok (.iload 5, 2) := by decide +kernel
theorem dL_areDerived_128 : decode cL_areDerived 128 = .ok (.aload_n 0, 1) := by decide +kernel
theorem dL_areDerived_129 : decode cL_areDerived 129 = .ok (.invokevirtual 42, 3) := by decide +kernel
theorem dL_areDerived_132 : decode cL_areDerived 132 = .ok (.if_icmp .ge 14, 3) := by decide +kernel
theorem dL_areDerived_135 : decode cL_areDerived 135 = .ok (.aload_n 0, 1) := by decide +kernel
theorem dL_areDerived_136 : decode cL_areDerived 136 = .ok (.iconst 0, 1) := by decide +kernel
theorem dL_areDerived_137 : decode cL_areDerived 137 = .ok (.iload 5, 2) := by decide +kernel
theorem dL_areDerived_139 : decode cL_areDerived 139 = .ok (.invokestatic 57, 3) := by decide +kernel
theorem dL_areDerived_142 : decode cL_areDerived 142 = .ok (.i2l, 1) := by decide +kernel
theorem dL_areDerived_143 : decode cL_areDerived 143 = .ok (.goto 6, 3) := by decide +kernel
theorem dL_areDerived_146 : decode cL_areDerived 146 = .ok (.ldc2_w 115, 3) := by decide +kernel
theorem dL_areDerived_149 : decode cL_areDerived 149 = .ok (.lstore 8, 2) := by decide +kernel
theorem dL_areDerived_151 : decode cL_areDerived 151 = .ok (.lload 6, 2) := by decide +kernel
theorem dL_areDerived_153 : decode cL_areDerived 153 = .ok (.ldc2_w 115, 3) := by decide +kernel
theorem dL_areDerived_156 : decode cL_areDerived 156 = .ok (.lcmp, 1) := by decide +kernel
theorem dL_areDerived_157 : decode cL_areDerived 157 = .ok (.ifCond .eq 12, 3) := by decide +kernel
theorem dL_areDerived_160 : decode cL_areDerived 160 = .ok (.lload 8, 2) := by decide +kernel
theorem dL_areDerived_162 : decode cL_areDerived 162 = .ok (.ldc2_w 115, 3) := by decide +kernel
theorem dL_areDerived_165 : decode cL_areDerived 165 = .ok (.lcmp, 1) := by decide +kernel
theorem dL_areDerived_166 : decode cL_areDerived 166 = .ok (.ifCond .ne 34, 3) := by decide +kernel
theorem dL_areDerived_169 : decode cL_areDerived 169 = .ok (.aload_n 0, 1) := by decide +kernel
theorem dL_areDerived_170 : decode cL_areDerived 170 = .ok (.iconst 3, 1) := by decide +kernel
theorem dL_areDerived_171 : decode cL_areDerived 171 = .ok (.iload_n 3, 1) := by decide +kernel
theorem dL_areDerived_172 : decode cL_areDerived 172 = .ok (.invokestatic 57, 3) := by decide +kernel
theorem dL_areDerived_175 : decode cL_areDerived 175 = .ok (.ldc 31, 2) := by decide +kernel
theorem dL_areDerived_177 : decode cL_areDerived 177 = .ok (.if_icmp .ne 18, 3) := by decide +kernel
theorem dL_areDerived_180 : decode cL_areDerived 180 = .ok (.aload_n 0, 1) := by decide +kernel
theorem dL_areDerived_181 : decode cL_areDerived 181 = .ok (.iconst 4, 1) := by decide +kernel
theorem dL_areDerived_182 : decode cL_areDerived 182 = .ok (.iload_n 3, 1) := by decide +kernel
theorem dL_areDerived_183 : decode cL_areDerived 183 = .ok (.invokestatic 57, 3) := by decide +kernel
theorem dL_areDerived_186 : decode cL_areDerived 186 = .ok (.ldc 31, 2) := by decide +kernel
theorem dL_areDerived_188 : decode cL_areDerived 188 = .ok (.if_icmp .ne 7, 3) := by decide +kernel
theorem dL_areDerived_191 : decode cL_areDerived 191 = .ok (.iconst 1, 1) := by decide +kernel
theorem dL_areDerived_192 : decode cL_areDerived 192 = .ok (.goto 4, 3) := by decide +kernel
theorem dL_areDerived_195 : decode cL_areDerived 195 = .ok (.iconst 0, 1) := by decide +kernel
theorem dL_areDerived_196 : decode cL_areDerived 196 = .ok (.istore_n 2, 1) := by decide +kernel
theorem dL_areDerived_197 : decode cL_areDerived 197 = .ok (.goto 225, 3) := by decide +kernel
theorem dL_areDerived_200 : decode cL_areDerived 200 = .ok (.aload_n 1, 1) := by decide +kernel
theorem dL_areDerived_201 : decode cL_areDerived 201 = .ok (.iload_n 3, 1) := by decide +kernel
theorem dL_areDerived_202 : decode cL_areDerived 202 = .ok (.iaload, 1) := by decide +kernel
theorem dL_areDerived_203 : decode cL_areDerived 203 = .ok (.bipush 20, 2) := by decide +kernel
theorem dL_areDerived_205 : decode cL_areDerived 205 = .ok (.ishr, 1) := by decide +kernel
theorem dL_areDerived_206 : decode cL_areDerived 206 = .ok (.iconst 1, 1) := by decide +kernel
theorem dL_areDerived_207 : decode cL_areDerived 207 = .ok (.isub, 1) := by decide +kernel
theorem dL_areDerived_208 : decode cL_areDerived 208 = .ok (.istore 10, 2) := by decide +kernel
theorem dL_areDerived_210 : decode cL_areDerived 210 = .ok (.iload 10, 2) := by decide +kernel
theorem dL_areDerived_212 : decode cL_areDerived 212 = .ok (.ifCond .ne 11, 3) := by decide +kernel
theorem dL_areDerived_215 : decode cL_areDerived 215 = .ok (.lload 6, 2) := by decide +kernel
theorem dL_areDerived_217 : decode cL_areDerived 217 = .ok (.lload 8, 2) := by decide +kernel
theorem dL_areDerived_219 : decode cL_areDerived 219 = .ok (.ladd, 1) := by decide +kernel
theorem dL_areDerived_220 : decode cL_areDerived 220 = .ok (.goto 70, 3) := by decide +kernel
theorem dL_areDerived_223 : decode cL_areDerived 223 = .ok (.iload 10, 2) := by decide +kernel
theorem dL_areDerived_225 : decode cL_areDerived 225 = .ok (.iconst 1, 1) := by decide +kernel
theorem dL_areDerived_226 : decode cL_areDerived 226 = .ok (.if_icmp .ne 11, 3) := by decide +kernel
theorem dL_areDerived_229 : decode cL_areDerived 229 = .ok (.lload 6, 2) := by decide +kernel
theorem dL_areDerived_231 : decode cL_areDerived 231 = .ok (.lload 8, 2) := by decide +kernel
theorem dL_areDerived_233 : decode cL_areDerived 233 = .ok (.lsub, 1) := by decide +kernel
theorem dL_areDerived_234 : decode cL_areDerived 234 = .ok (.goto 56, 3) := by decide +kernel
theorem dL_areDerived_237 : decode cL_areDerived 237 = .ok (.iload 10, 2) := by decide +kernel
theorem dL_areDerived_239 : decode cL_areDerived 239 = .ok (.iconst 2, 1) := by decide +kernel
theorem dL_areDerived_240 : decode cL_areDerived 240 = .ok (.if_icmp .ne 11, 3) := by decide +kernel
theorem dL_areDerived_243 : decode cL_areDerived 243 = .ok (.lload 6, 2) := by decide +kernel
theorem dL_areDerived_245 : decode cL_areDerived 245 = .ok (.lload 8, 2) := by decide +kernel
theorem dL_areDerived_247 : decode cL_areDerived 247 = .ok (.lmul, 1) := by decide +kernel
theorem dL_areDerived_248 : decode cL_areDerived 248 = .ok (.goto 42, 3) := by decide +kernel
theorem dL_areDerived_251 : decode cL_areDerived 251 = .ok (.iload 10, 2) := by decide +kernel
theorem dL_areDerived_253 : decode cL_areDerived 253 = .ok (.iconst 3, 1) := by decide +kernel
theorem dL_areDerived_254 : decode cL_areDerived 254 = .ok (.if_icmp .ne 21, 3) := by decide +kernel
theorem dL_areDerived_257 : decode cL_areDerived 257 = .ok (.lload 6, 2) := by decide +kernel
theorem dL_areDerived_259 : decode cL_areDerived 259 = .ok (.lload 8, 2) := by decide +kernel
theorem dL_areDerived_261 : decode cL_areDerived 261 = .ok (.lcmp, 1) := by decide +kernel
theorem dL_areDerived_262 : decode cL_areDerived 262 = .ok (.ifCond .ge 8, 3) := by decide +kernel
theorem dL_areDerived_265 : decode cL_areDerived 265 = .ok (.lload 8, 2) := by decide +kernel
theorem dL_areDerived_267 : decode cL_areDerived 267 = .ok (.goto 23, 3) := by decide +kernel
theorem dL_areDerived_270 : decode cL_areDerived 270 = .ok (.lload 6, 2) := by decide +kernel
theorem dL_areDerived_272 : decode cL_areDerived 272 = .ok (.goto 18, 3) := by decide +kernel
theorem dL_areDerived_275 : decode cL_areDerived 275 = .ok (.lload 6, 2) := by decide +kernel
theorem dL_areDerived_277 : decode cL_areDerived 277 = .ok (.lload 8, 2) := by decide +kernel
theorem dL_areDerived_279 : decode cL_areDerived 279 = .ok (.lcmp, 1) := by decide +kernel
theorem dL_areDerived_280 : decode cL_areDerived 280 = .ok (.ifCond .ge 8, 3) := by decide +kernel
theorem dL_areDerived_283 : decode cL_areDerived 283 = .ok (.lload 6, 2) := by decide +kernel
theorem dL_areDerived_285 : decode cL_areDerived 285 = .ok (.goto 5, 3) := by decide +kernel
theorem dL_areDerived_288 : decode cL_areDerived 288 = .ok (.lload 8, 2) := by decide +kernel
theorem dL_areDerived_290 : decode cL_areDerived 290 = .ok (.lstore 11, 2) := by decide +kernel
theorem dL_areDerived_292 : decode cL_areDerived 292 = .ok (.iload 4, 2) := by decide +kernel
theorem dL_areDerived_294 : decode cL_areDerived 294 = .ok (.bipush 100, 2) := by decide +kernel
theorem dL_areDerived_296 : decode cL_areDerived 296 = .ok (.if_icmp .lt 16, 3) := by decide +kernel
theorem dL_areDerived_299 : decode cL_areDerived 299 = .ok (.aload_n 0, 1) := by decide +kernel
theorem dL_areDerived_300 : decode cL_areDerived 300 = .ok (.iconst 4, 1) := by decide +kernel
theorem dL_areDerived_301 : decode cL_areDerived 301 = .ok (.iload 4, 2) := by decide +kernel
theorem dL_areDerived_303 : decode cL_areDerived 303 = .ok (.bipush 100, 2) := by decide +kernel
theorem dL_areDerived_305 : decode cL_areDerived 305 = .ok (.isub, 1) := by decide +kernel
theorem dL_areDerived_306 : decode cL_areDerived 306 = .ok (.invokestatic 57, 3) := by decide +kernel
theorem dL_areDerived_309 : decode cL_areDerived 309 = .ok (.goto 10, 3) := by decide +kernel
theorem dL_areDerived_312 : decode cL_areDerived 312 = .ok (.aload_n 0, 1) := by decide +kernel
theorem dL_areDerived_313 : decode cL_areDerived 313 = .ok (.iconst 1, 1) := by decide +kernel
theorem dL_areDerived_314 : decode cL_areDerived 314 = .ok (.iload 4, 2) := by decide +kernel
theorem dL_areDerived_316 : decode cL_areDerived 316 = .ok (.invokestatic 57, 3) := by decide +kernel
theorem dL_areDerived_319 : decode cL_areDerived 319 = .ok (.istore 13, 2) := by decide +kernel
theorem dL_areDerived_321 : decode cL_areDerived 321 = .ok (.iload 5, 2) := by decide +kernel
theorem dL_areDerived_323 : decode cL_areDerived 323 = .ok (.bipush 100, 2) := by decide +kernel
theorem dL_areDerived_325 : decode cL_areDerived 325 = .ok (.if_icmp .lt 16, 3) := by decide +kernel
theorem dL_areDerived_328 : decode cL_areDerived 328 = .ok (.aload_n 0, 1) := by decide +kernel
theorem dL_areDerived_329 : decode cL_areDerived 329 = .ok (.iconst 4, 1) := by decide +kernel
theorem dL_areDerived_330 : decode cL_areDerived 330 = .ok (.iload 5, 2) := by decide +kernel
theorem dL_areDerived_332 : decode cL_areDerived 332 = .ok (.bipush 100, 2) := by decide +kernel
theorem dL_areDerived_334 : decode cL_areDerived 334 = .ok (.isub, 1) := by decide +kernel
theorem dL_areDerived_335 : decode cL_areDerived 335 = .ok (.invokestatic 57, 3) := by decide +kernel
theorem dL_areDerived_338 : decode cL_areDerived 338 = .ok (.goto 10, 3) := by decide +kernel
theorem dL_areDerived_341 : decode cL_areDerived 341 = .ok (.aload_n 0, 1) := by decide +kernel
theorem dL_areDerived_342 : decode cL_areDerived 342 = .ok (.iconst 1, 1) := by decide +kernel
theorem dL_areDerived_343 : decode cL_areDerived 343 = .ok (.iload 5, 2) := by decide +kernel
theorem dL_areDerived_345 : decode cL_areDerived 345 = .ok (.invokestatic 57, 3) := by decide +kernel
theorem dL_areDerived_348 : decode cL_areDerived 348 = .ok (.istore 14, 2) := by decide +kernel
theorem dL_areDerived_350 : decode cL_areDerived 350 = .ok (.aload_n 0, 1) := by decide +kernel
theorem dL_areDerived_351 : decode cL_areDerived 351 = .ok (.iconst 3, 1) := by decide +kernel
theorem dL_areDerived_352 : decode cL_areDerived 352 = .ok (.iload_n 3, 1) := by decide +kernel
theorem dL_areDerived_353 : decode cL_areDerived 353 = .ok (.invokestatic 57, 3) := by decide +kernel
theorem dL_areDerived_356 : decode cL_areDerived 356 = .ok (.i2l, 1) := by decide +kernel
theorem dL_areDerived_357 : decode cL_areDerived 357 = .ok (.lload 11, 2) := by decide +kernel
theorem dL_areDerived_359 : decode cL_areDerived 359 = .ok (.ldc2_w 117, 3) := by decide +kernel
theorem dL_areDerived_362 : decode cL_areDerived 362 = .ok (.lcmp, 1) := by decide +kernel
theorem dL_areDerived_363 : decode cL_areDerived 363 = .ok (.ifCond .le 9, 3) := by decide +kernel
theorem dL_areDerived_366 : decode cL_areDerived 366 = .ok (.ldc2_w 117, 3) := by decide +kernel
theorem dL_areDerived_369 : decode cL_areDerived 369 = .ok (.goto 20, 3) := by decide +kernel
theorem dL_areDerived_372 : decode cL_areDerived 372 = .ok (.lload 11, 2) := by decide +kernel
theorem dL_areDerived_374 : decode cL_areDerived 374 = .ok (.ldc2_w 119, 3) := by decide +kernel
theorem dL_areDerived_377 : decode cL_areDerived 377 = .ok (.lcmp, 1) := by decide +kernel
theorem dL_areDerived_378 : decode cL_areDerived 378 = .ok (.ifCond .ge 9, 3) := by decide +kernel
theorem dL_areDerived_381 : decode cL_areDerived 381 = .ok (.ldc2_w 119, 3) := by decide +kernel
theorem dL_areDerived_384 : decode cL_areDerived 384 = .ok (.goto 5, 3) := by decide +kernel
theorem dL_areDerived_387 : decode cL_areDerived 387 = .ok (.lload 11, 2) := by decide +kernel
theorem dL_areDerived_389 : decode cL_areDerived 389 = .ok (.lcmp, 1) := by decide +kernel
theorem dL_areDerived_390 : decode cL_areDerived 390 = .ok (.ifCond .ne 30, 3) := by decide +kernel
theorem dL_areDerived_393 : decode cL_areDerived 393 = .ok (.aload_n 0, 1) := by decide +kernel
theorem dL_areDerived_394 : decode cL_areDerived 394 = .ok (.iconst 4, 1) := by decide +kernel
theorem dL_areDerived_395 : decode cL_areDerived 395 = .ok (.iload_n 3, 1) := by decide +kernel
theorem dL_areDerived_396 : decode cL_areDerived 396 = .ok (.invokestatic 57, 3) := by decide +kernel
theorem dL_areDerived_399 : decode cL_areDerived 399 = .ok (.iload 13, 2) := by decide +kernel
theorem dL_areDerived_401 : decode cL_areDerived 401 = .ok (.iload 14, 2) := by decide +kernel
theorem dL_areDerived_403 : decode cL_areDerived 403 = .ok (.if_icmp .le 8, 3) := by decide +kernel
theorem dL_areDerived_406 : decode cL_areDerived 406 = .ok (.iload 13, 2) := by decide +kernel
theorem dL_areDerived_408 : decode cL_areDerived 408 = .ok (.goto 5, 3) := by decide +kernel
theorem dL_areDerived_411 : decode cL_areDerived 411 = .ok (.iload 14, 2) := by decide +kernel
theorem dL_areDerived_413 : decode cL_areDerived 413 = .ok (.if_icmp .ne 7, 3) := by decide +kernel
theorem dL_areDerived_416 : decode cL_areDerived 416 = .ok (.iconst 1, 1) := by decide +kernel
theorem dL_areDerived_417 : decode cL_areDerived 417 = .ok (.goto 4, 3) := by decide +kernel
theorem dL_areDerived_420 : decode cL_areDerived 420 = .ok (.iconst 0, 1) := by decide +kernel
theorem dL_areDerived_421 : decode cL_areDerived 421 = .ok (.istore_n 2, 1) := by decide +kernel
theorem dL_areDerived_422 : decode cL_areDerived 422 = .ok (.iinc 3 1, 3) := by decide +kernel
theorem dL_areDerived_425 : decode cL_areDerived 425 = .ok (.goto (-421), 3) := by decide +kernel
theorem dL_areDerived_428 : decode cL_areDerived 428 = .ok (.iload_n 2, 1) := by decide +kernel
theorem dL_areDerived_429 : decode cL_areDerived 429 = .ok (.ireturn, 1) := by decide +kernel
theorem dL_step_0 : decode cL_step 0 = .ok (.iload_n 1, 1) := by decide +kernel
theorem dL_step_1 : decode cL_step 1 = .ok (.iconst 2, 1) := by decide +kernel
theorem dL_step_2 : decode cL_step 2 = .ok (.if_icmp .ge 79, 3) := by decide +kernel
theorem dL_step_5 : decode cL_step 5 = .ok (.aload_n 0, 1) := by decide +kernel
theorem dL_step_6 : decode cL_step 6 = .ok (.invokevirtual 42, 3) := by decide +kernel
theorem dL_step_9 : decode cL_step 9 = .ok (.ifCond .le 72, 3) := by decide +kernel
theorem dL_step_12 : decode cL_step 12 = .ok (.iload_n 2, 1) := by decide +kernel
theorem dL_step_13 : decode cL_step 13 = .ok (.aload_n 0, 1) := by decide +kernel
theorem dL_step_14 : decode cL_step 14 = .ok (.invokevirtual 42, 3) := by decide +kernel
theorem dL_step_17 : decode cL_step 17 = .ok (.irem, 1) := by decide +kernel
theorem dL_step_18 : decode cL_step 18 = .ok (.istore 8, 2) := by decide +kernel
theorem dL_step_20 : decode cL_step 20 = .ok (.aload 5, 2) := by decide +kernel
theorem dL_step_22 : decode cL_step 22 = .ok (.iload 8, 2) := by decide +kernel
theorem dL_step_24 : decode cL_step 24 = .ok (.iaload, 1) := by decide +kernel
theorem dL_step_25 : decode cL_step 25 = .ok (.istore 9, 2) := by decide +kernel
theorem dL_step_27 : decode cL_step 27 = .ok (.aload 5, 2) := by decide +kernel
theorem dL_step_29 : decode cL_step 29 = .ok (.iload 8, 2) := by decide +kernel
theorem dL_step_31 : decode cL_step 31 = .ok (.aload 4, 2) := by decide +kernel
theorem dL_step_33 : decode cL_step 33 = .ok (.iload 8, 2) := by decide +kernel
theorem dL_step_35 : decode cL_step 35 = .ok (.invokestatic 76, 3) := by decide +kernel
theorem dL_step_38 : decode cL_step 38 = .ok (.iload_n 3, 1) := by decide +kernel
theorem dL_step_39 : decode cL_step 39 = .ok (.aload 4, 2) := by decide +kernel
theorem dL_step_41 : decode cL_step 41 = .ok (.iload 8, 2) := by decide +kernel
theorem dL_step_43 : decode cL_step 43 = .ok (.invokestatic 80, 3) := by decide +kernel
theorem dL_step_46 : decode cL_step 46 = .ok (.aload 4, 2) := by decide +kernel
theorem dL_step_48 : decode cL_step 48 = .ok (.iload 8, 2) := by decide +kernel
theorem dL_step_50 : decode cL_step 50 = .ok (.invokestatic 76, 3) := by decide +kernel
theorem dL_step_53 : decode cL_step 53 = .ok (.isub, 1) := by decide +kernel
theorem dL_step_54 : decode cL_step 54 = .ok (.iconst 1, 1) := by decide +kernel
theorem dL_step_55 : decode cL_step 55 = .ok (.iadd, 1) := by decide +kernel
theorem dL_step_56 : decode cL_step 56 = .ok (.irem, 1) := by decide +kernel
theorem dL_step_57 : decode cL_step 57 = .ok (.iadd, 1) := by decide +kernel
theorem dL_step_58 : decode cL_step 58 = .ok (.iastore, 1) := by decide +kernel
theorem dL_step_59 : decode cL_step 59 = .ok (.aload_n 0, 1) := by decide +kernel
theorem dL_step_60 : decode cL_step 60 = .ok (.iload 8, 2) := by decide +kernel
theorem dL_step_62 : decode cL_step 62 = .ok (.aload 5, 2) := by decide +kernel
theorem dL_step_64 : decode cL_step 64 = .ok (.iload 8, 2) := by decide +kernel
theorem dL_step_66 : decode cL_step 66 = .ok (.iaload, 1) := by decide +kernel
theorem dL_step_67 : decode cL_step 67 = .ok (.invokevirtual 121, 3) := by decide +kernel
theorem dL_step_70 : decode cL_step 70 = .ok (.iload 9, 2) := by decide +kernel
theorem dL_step_72 : decode cL_step 72 = .ok (.if_icmp .ne 7, 3) := by decide +kernel
theorem dL_step_75 : decode cL_step 75 = .ok (.iconst 1, 1) := by decide +kernel
theorem dL_step_76 : decode cL_step 76 = .ok (.goto 4, 3) := by decide +kernel
theorem dL_step_79 : decode cL_step 79 = .ok (.iconst 0, 1) := by decide +kernel
theorem dL_step_80 : decode cL_step 80 = .ok (.ireturn, 1) := by decide +kernel
theorem dL_step_81 : decode cL_step 81 = .ok (.iload_n 1, 1) := by decide +kernel
theorem dL_step_82 : decode cL_step 82 = .ok (.bipush 6, 2) := by decide +kernel
theorem dL_step_84 : decode cL_step 84 = .ok (.if_icmp .ge 78, 3) := by decide +kernel
theorem dL_step_87 : decode cL_step 87 = .ok (.iconst 1, 1) := by decide +kernel
theorem dL_step_88 : decode cL_step 88 = .ok (.iload_n 2, 1) := by decide +kernel
theorem dL_step_89 : decode cL_step 89 = .ok (.iload_n 3, 1) := by decide +kernel
theorem dL_step_90 : decode cL_step 90 = .ok (.iconst 3, 1) := by decide +kernel
theorem dL_step_91 : decode cL_step 91 = .ok (.irem, 1) := by decide +kernel
theorem dL_step_92 : decode cL_step 92 = .ok (.ifCond .ne 8, 3) := by decide +kernel
theorem dL_step_95 : decode cL_step 95 = .ok (.bipush 40, 2) := by decide +kernel
theorem dL_step_97 : decode cL_step 97 = .ok (.goto 5, 3) := by decide +kernel
theorem dL_step_100 : decode cL_step 100 = .ok (.bipush 12, 2) := by decide +kernel
theorem dL_step_102 : decode cL_step 102 = .ok (.irem, 1) := by decide +kernel
theorem dL_step_103 : decode cL_step 103 = .ok (.iadd, 1) := by decide +kernel
theorem dL_step_104 : decode cL_step 104 = .ok (.istore 8, 2) := by decide +kernel
theorem dL_step_106 : decode cL_step 106 = .ok (.aload 6, 2) := by decide +kernel
theorem dL_step_108 : decode cL_step 108 = .ok (.iconst 0, 1) := by decide +kernel
theorem dL_step_109 : decode cL_step 109 = .ok (.iaload, 1) := by decide +kernel
theorem dL_step_110 : decode cL_step 110 = .ok (.iload 8, 2) := by decide +kernel
theorem dL_step_112 : decode cL_step 112 = .ok (.iadd, 1) := by decide +kernel
theorem dL_step_113 : decode cL_step 113 = .ok (.sipush 1000, 3) := by decide +kernel
theorem dL_step_116 : decode cL_step 116 = .ok (.if_icmp .le 5, 3) := by decide +kernel
theorem dL_step_119 : decode cL_step 119 = .ok (.iconst 1, 1) := by decide +kernel
theorem dL_step_120 : decode cL_step 120 = .ok (.ireturn, 1) := by decide +kernel
theorem dL_step_121 : decode cL_step 121 = .ok (.aload 6, 2) := by decide +kernel
theorem dL_step_123 : decode cL_step 123 = .ok (.iconst 0, 1) := by decide +kernel
theorem dL_step_124 : decode cL_step 124 = .ok (.dup2, 1) := by decide +kernel
theorem dL_step_125 : decode cL_step 125 = .ok (.iaload, 1) := by decide +kernel
theorem dL_step_126 : decode cL_step 126 = .ok (.iload 8, 2) := by decide +kernel
theorem dL_step_128 : decode cL_step 128 = .ok (.iadd, 1) := by decide +kernel
theorem dL_step_129 : decode cL_step 129 = .ok (.iastore, 1) := by decide +kernel
theorem dL_step_130 : decode cL_step 130 = .ok (.aload_n 0, 1) := by decide +kernel
theorem dL_step_131 : decode cL_step 131 = .ok (.iload 8, 2) := by decide +kernel
theorem dL_step_133 : decode cL_step 133 = .ok (.invokevirtual 125, 3) := by decide +kernel
theorem dL_step_136 : decode cL_step 136 = .ok (.bipush 8, 2) := by decide +kernel
theorem dL_step_138 : decode cL_step 138 = .ok (.aload 6, 2) := by decide +kernel
theorem dL_step_140 : decode cL_step 140 = .ok (.iconst 0, 1) := by decide +kernel
theorem dL_step_141 : decode cL_step 141 = .ok (.iaload, 1) := by decide +kernel
theorem dL_step_142 : decode cL_step 142 = .ok (.imul, 1) := by decide +kernel
theorem dL_step_143 : decode cL_step 143 = .ok (.aload 6, 2) := by decide +kernel
theorem dL_step_145 : decode cL_step 145 = .ok (.iconst 1, 1) := by decide +kernel
theorem dL_step_146 : decode cL_step 146 = .ok (.iaload, 1) := by decide +kernel
theorem dL_step_147 : decode cL_step 147 = .ok (.isub, 1) := by decide +kernel
theorem dL_step_148 : decode cL_step 148 = .ok (.aload_n 0, 1) := by decide +kernel
theorem dL_step_149 : decode cL_step 149 = .ok (.invokevirtual 89, 3) := by decide +kernel
theorem dL_step_152 : decode cL_step 152 = .ok (.isub, 1) := by decide +kernel
theorem dL_step_153 : decode cL_step 153 = .ok (.if_icmp .ne 7, 3) := by decide +kernel
theorem dL_step_156 : decode cL_step 156 = .ok (.iconst 1, 1) := by decide +kernel
theorem dL_step_157 : decode cL_step 157 = .ok (.goto 4, 3) := by decide +kernel
theorem dL_step_160 : decode cL_step 160 = .ok (.iconst 0, 1) := by decide +kernel
theorem dL_step_161 : decode cL_step 161 = .ok (.ireturn, 1) := by decide +kernel
theorem dL_step_162 : decode cL_step 162 = .ok (.iload_n 1, 1) := by decide +kernel
theorem dL_step_163 : decode cL_step 163 = .ok (.bipush 10, 2) := by decide +kernel
theorem dL_step_165 : decode cL_step 165 = .ok (.if_icmp .ge 88, 3) := by decide +kernel
theorem dL_step_168 : decode cL_step 168 = .ok (.aload_n 0, 1) := by decide +kernel
theorem dL_step_169 : decode cL_step 169 = .ok (.invokevirtual 86, 3) := by decide +kernel
theorem dL_step_172 : decode cL_step 172 = .ok (.istore 8, 2) := by decide +kernel
theorem dL_step_174 : decode cL_step 174 = .ok (.iconst 1, 1) := by decide +kernel
theorem dL_step_175 : decode cL_step 175 = .ok (.iload_n 2, 1) := by decide +kernel
theorem dL_step_176 : decode cL_step 176 = .ok (.iload_n 3, 1) := by decide +kernel
theorem dL_step_177 : decode cL_step 177 = .ok (.iconst 3, 1) := by decide +kernel
theorem dL_step_178 : decode cL_step 178 = .ok (.irem, 1) := by decide +kernel
theorem dL_step_179 : decode cL_step 179 = .ok (.ifCond .ne 9, 3) := by decide +kernel
theorem dL_step_182 : decode cL_step 182 = .ok (.sipush 600, 3) := by decide +kernel
theorem dL_step_185 : decode cL_step 185 = .ok (.goto 6, 3) := by decide +kernel
theorem dL_step_188 : decode cL_step 188 = .ok (.sipush 130, 3) := by decide +kernel
theorem dL_step_191 : decode cL_step 191 = .ok (.irem, 1) := by decide +kernel
theorem dL_step_192 : decode cL_step 192 = .ok (.iadd, 1) := by decide +kernel
theorem dL_step_193 : decode cL_step 193 = .ok (.istore 9, 2) := by decide +kernel
theorem dL_step_195 : decode cL_step 195 = .ok (.aload_n 0, 1) := by decide +kernel
theorem dL_step_196 : decode cL_step 196 = .ok (.invokevirtual 61, 3) := by decide +kernel
theorem dL_step_199 : decode cL_step 199 = .ok (.istore 10, 2) := by decide +kernel
theorem dL_step_201 : decode cL_step 201 = .ok (.aload_n 0, 1) := by decide +kernel
theorem dL_step_202 : decode cL_step 202 = .ok (.invokevirtual 89, 3) := by decide +kernel
theorem dL_step_205 : decode cL_step 205 = .ok (.istore 11, 2) := by decide +kernel
theorem dL_step_207 : decode cL_step 207 = .ok (.aload_n 0, 1) := by decide +kernel
theorem dL_step_208 : decode cL_step 208 = .ok (.iload 9, 2) := by decide +kernel
theorem dL_step_210 : decode cL_step 210 = .ok (.invokevirtual 128, 3) := by decide +kernel
theorem dL_step_213 : decode cL_step 213 = .ok (.aload_n 0, 1) := by decide +kernel
theorem dL_step_214 : decode cL_step 214 = .ok (.invokevirtual 61, 3) := by decide +kernel
theorem dL_step_217 : decode cL_step 217 = .ok (.iload 10, 2) := by decide +kernel
theorem dL_step_219 : decode cL_step 219 = .ok (.isub, 1) := by decide +kernel
theorem dL_step_220 : decode cL_step 220 = .ok (.if_icmp .ne 31, 3) := by decide +kernel
theorem dL_step_223 : decode cL_step 223 = .ok (.aload_n 0, 1) := by decide +kernel
theorem dL_step_224 : decode cL_step 224 = .ok (.invokevirtual 89, 3) := by decide +kernel
theorem dL_step_227 : decode cL_step 227 = .ok (.iload 11, 2) := by decide +kernel
theorem dL_step_229 : decode cL_step 229 = .ok (.iload 9, 2) := by decide +kernel
theorem dL_step_231 : decode cL_step 231 = .ok (.iload 8, 2) := by decide +kernel
theorem dL_step_233 : decode cL_step 233 = .ok (.if_icmp .ge 8, 3) := by decide +kernel
theorem dL_step_236 : decode cL_step 236 = .ok (.iload 9, 2) := by decide +kernel
theorem dL_step_238 : decode cL_step 238 = .ok (.goto 5, 3) := by decide +kernel
theorem dL_step_241 : decode cL_step 241 = .ok (.iload 8, 2) := by decide +kernel
theorem dL_step_243 : decode cL_step 243 = .ok (.iadd, 1) := by decide +kernel
theorem dL_step_244 : decode cL_step 244 = .ok (.if_icmp .ne 7, 3) := by decide +kernel
theorem dL_step_247 : decode cL_step 247 = .ok (.iconst 1, 1) := by decide +kernel
theorem dL_step_248 : decode cL_step 248 = .ok (.goto 4, 3) := by decide +kernel
theorem dL_step_251 : decode cL_step 251 = .ok (.iconst 0, 1) := by decide +kernel
theorem dL_step_252 : decode cL_step 252 = .ok (.ireturn, 1) := by decide +kernel
theorem dL_step_253 : decode cL_step 253 = .ok (.iload_n 1, 1) := by decide +kernel
theorem dL_step_254 : decode cL_step 254 = .ok (.bipush 10, 2) := by decide +kernel
theorem dL_step_256 : decode cL_step 256 = .ok (.if_icmp .ne 29, 3) := by decide +kernel
theorem dL_step_259 : decode cL_step 259 = .ok (.aload_n 0, 1) := by decide +kernel
theorem dL_step_260 : decode cL_step 260 = .ok (.invokevirtual 86, 3) := by decide +kernel
theorem dL_step_263 : decode cL_step 263 = .ok (.ifCond .le 22, 3) := by decide +kernel
theorem dL_step_266 : decode cL_step 266 = .ok (.aload_n 0, 1) := by decide +kernel
theorem dL_step_267 : decode cL_step 267 = .ok (.iload_n 2, 1) := by decide +kernel
theorem dL_step_268 : decode cL_step 268 = .ok (.aload_n 0, 1) := by decide +kernel
theorem dL_step_269 : decode cL_step 269 = .ok (.invokevirtual 86, 3) := by decide +kernel
theorem dL_step_272 : decode cL_step 272 = .ok (.irem, 1) := by decide +kernel
theorem dL_step_273 : decode cL_step 273 = .ok (.invokevirtual 104, 3) := by decide +kernel
theorem dL_step_276 : decode cL_step 276 = .ok (.ifCond .lt 7, 3) := by decide +kernel
theorem dL_step_279 : decode cL_step 279 = .ok (.iconst 1, 1) := by decide +kernel
theorem dL_step_280 : decode cL_step 280 = .ok (.goto 4, 3) := by decide +kernel
theorem dL_step_283 : decode cL_step 283 = .ok (.iconst 0, 1) := by decide +kernel
theorem dL_step_284 : decode cL_step 284 = .ok (.ireturn, 1) := by decide +kernel
theorem dL_step_285 : decode cL_step 285 = .ok (.iload_n 1, 1) := by decide +kernel
theorem dL_step_286 : decode cL_step 286 = .ok (.bipush 11, 2) := by decide +kernel
theorem dL_step_288 : decode cL_step 288 = .ok (.if_icmp .ne 91, 3) := by decide +kernel
theorem dL_step_291 : decode cL_step 291 = .ok (.aload_n 0, 1) := by decide +kernel
theorem dL_step_292 : decode cL_step 292 = .ok (.invokevirtual 86, 3) := by decide +kernel
theorem dL_step_295 : decode cL_step 295 = .ok (.ifCond .le 84, 3) := by decide +kernel
theorem dL_step_298 : decode cL_step 298 = .ok (.iload_n 2, 1) := by decide +kernel
theorem dL_step_299 : decode cL_step 299 = .ok (.aload_n 0, 1) := by decide +kernel
theorem dL_step_300 : decode cL_step 300 = .ok (.invokevirtual 86, 3) := by decide +kernel
theorem dL_step_303 : decode cL_step 303 = .ok (.irem, 1) := by decide +kernel
theorem dL_step_304 : decode cL_step 304 = .ok (.istore 8, 2) := by decide +kernel
theorem dL_step_306 : decode cL_step 306 = .ok (.iconst 1, 1) := by decide +kernel
theorem dL_step_307 : decode cL_step 307 = .ok (.iload_n 3, 1) := by decide +kernel
theorem dL_step_308 : decode cL_step 308 = .ok (.aload_n 0, 1) := by decide +kernel
theorem dL_step_309 : decode cL_step 309 = .ok (.invokevirtual 86, 3) := by decide +kernel
theorem dL_step_312 : decode cL_step 312 = .ok (.iload 8, 2) := by decide +kernel
theorem dL_step_314 : decode cL_step 314 = .ok (.isub, 1) := by decide +kernel
theorem dL_step_315 : decode cL_step 315 = .ok (.bipush 70, 2) := by decide +kernel
theorem dL_step_317 : decode cL_step 317 = .ok (.if_icmp .ge 13, 3) := by decide +kernel
theorem dL_step_320 : decode cL_step 320 = .ok (.aload_n 0, 1) := by decide +kernel
theorem dL_step_321 : decode cL_step 321 = .ok (.invokevirtual 86, 3) := by decide +kernel
theorem dL_step_324 : decode cL_step 324 = .ok (.iload 8, 2) := by decide +kernel
theorem dL_step_326 : decode cL_step 326 = .ok (.isub, 1) := by decide +kernel
theorem dL_step_327 : decode cL_step 327 = .ok (.goto 5, 3) := by decide +kernel
theorem dL_step_330 : decode cL_step 330 = .ok (.bipush 70, 2) := by decide +kernel
theorem dL_step_332 : decode cL_step 332 = .ok (.irem, 1) := by decide +kernel
theorem dL_step_333 : decode cL_step 333 = .ok (.iadd, 1) := by decide +kernel
theorem dL_step_334 : decode cL_step 334 = .ok (.istore 9, 2) := by decide +kernel
theorem dL_step_336 : decode cL_step 336 = .ok (.aload 6, 2) := by decide +kernel
theorem dL_step_338 : decode cL_step 338 = .ok (.iconst 1, 1) := by decide +kernel
theorem dL_step_339 : decode cL_step 339 = .ok (.dup2, 1) := by decide +kernel
theorem dL_step_340 : decode cL_step 340 = .ok (.iaload, 1) := by decide +kernel
theorem dL_step_341 : decode cL_step 341 = .ok (.iload 9, 2) := by decide +kernel
theorem dL_step_343 : decode cL_step 343 = .ok (.iadd, 1) := by decide +kernel
theorem dL_step_344 : decode cL_step 344 = .ok (.iastore, 1) := by decide +kernel
