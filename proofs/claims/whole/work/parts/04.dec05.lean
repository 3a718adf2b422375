theorem dX10_sendWord_235 : decode cX10_sendWord 235 = .ok (.iload_n 3, 1) := by decide +kernel
theorem dX10_sendWord_236 : decode cX10_sendWord 236 = .ok (.bipush 16, 2) := by decide +kernel
theorem dX10_sendWord_238 : decode cX10_sendWord 238 = .ok (.isub, 1) := by decide +kernel
theorem dX10_sendWord_239 : decode cX10_sendWord 239 = .ok (.bipush 24, 2) := by decide +kernel
theorem dX10_sendWord_241 : decode cX10_sendWord 241 = .ok (.iload 6, 2) := by decide +kernel
theorem dX10_sendWord_243 : decode cX10_sendWord 243 = .ok (.imul, 1) := by decide +kernel
theorem dX10_sendWord_244 : decode cX10_sendWord 244 = .ok (.isub, 1) := by decide +kernel
theorem dX10_sendWord_245 : decode cX10_sendWord 245 = .ok (.aload_n 0, 1) := by decide +kernel
theorem dX10_sendWord_246 : decode cX10_sendWord 246 = .ok (.getfield 25, 3) := by decide +kernel
theorem dX10_sendWord_249 : decode cX10_sendWord 249 = .ok (.iload 5, 2) := by decide +kernel
theorem dX10_sendWord_251 : decode cX10_sendWord 251 = .ok (.iaload, 1) := by decide +kernel
theorem dX10_sendWord_252 : decode cX10_sendWord 252 = .ok (.isub, 1) := by decide +kernel
theorem dX10_sendWord_253 : decode cX10_sendWord 253 = .ok (.isub, 1) := by decide +kernel
theorem dX10_sendWord_254 : decode cX10_sendWord 254 = .ok (.ishr, 1) := by decide +kernel
theorem dX10_sendWord_255 : decode cX10_sendWord 255 = .ok (.iconst 1, 1) := by decide +kernel
theorem dX10_sendWord_256 : decode cX10_sendWord 256 = .ok (.iand, 1) := by decide +kernel
theorem dX10_sendWord_257 : decode cX10_sendWord 257 = .ok (.istore 4, 2) := by decide +kernel
theorem dX10_sendWord_259 : decode cX10_sendWord 259 = .ok (.aload_n 0, 1) := by decide +kernel
theorem dX10_sendWord_260 : decode cX10_sendWord 260 = .ok (.getfield 34, 3) := by decide +kernel
theorem dX10_sendWord_263 : decode cX10_sendWord 263 = .ok (.aload_n 0, 1) := by decide +kernel
theorem dX10_sendWord_264 : decode cX10_sendWord 264 = .ok (.getfield 117, 3) := by decide +kernel
theorem dX10_sendWord_267 : decode cX10_sendWord 267 = .ok (.iload 4, 2) := by decide +kernel
theorem dX10_sendWord_269 : decode cX10_sendWord 269 = .ok (.iastore, 1) := by decide +kernel
theorem dX10_sendWord_270 : decode cX10_sendWord 270 = .ok (.aload_n 0, 1) := by decide +kernel
theorem dX10_sendWord_271 : decode cX10_sendWord 271 = .ok (.dup, 1) := by decide +kernel
theorem dX10_sendWord_272 : decode cX10_sendWord 272 = .ok (.getfield 117, 3) := by decide +kernel
theorem dX10_sendWord_275 : decode cX10_sendWord 275 = .ok (.iconst 1, 1) := by decide +kernel
theorem dX10_sendWord_276 : decode cX10_sendWord 276 = .ok (.iadd, 1) := by decide +kernel
theorem dX10_sendWord_277 : decode cX10_sendWord 277 = .ok (.putfield 117, 3) := by decide +kernel
theorem dX10_sendWord_280 : decode cX10_sendWord 280 = .ok (.iinc 3 1, 3) := by decide +kernel
theorem dX10_sendWord_283 : decode cX10_sendWord 283 = .ok (.goto (-169), 3) := by decide +kernel
theorem dX10_sendWord_286 : decode cX10_sendWord 286 = .ok (.aload_n 0, 1) := by decide +kernel
theorem dX10_sendWord_287 : decode cX10_sendWord 287 = .ok (.dup, 1) := by decide +kernel
theorem dX10_sendWord_288 : decode cX10_sendWord 288 = .ok (.getfield 104, 3) := by decide +kernel
theorem dX10_sendWord_291 : decode cX10_sendWord 291 = .ok (.iconst 1, 1) := by decide +kernel
theorem dX10_sendWord_292 : decode cX10_sendWord 292 = .ok (.iadd, 1) := by decide +kernel
theorem dX10_sendWord_293 : decode cX10_sendWord 293 = .ok (.putfield 104, 3) := by decide +kernel
theorem dX10_sendWord_296 : decode cX10_sendWord 296 = .ok (.return_, 1) := by decide +kernel
set_option maxRecDepth 20000 in
theorem ggX10_send_X10_isIn : GoodIn wsX10_send wsX10_isIn := goodIn_r _ [6] (by decide +kernel) (by decide +kernel)
set_option maxRecDepth 20000 in
theorem gX10_send_X10_isIn : GoodIn wsX10_send (va_wsS RX10 84 yX10_isIn wsX10_isIn) := goodIn_app (goodIn_of _ (by decide +kernel)) ggX10_send_X10_isIn
set_option maxRecDepth 20000 in
theorem ggX10_send_X10_can : GoodIn wsX10_send wsX10_can := goodIn_r _ [10, 11, 38, 39, 40, 41, 42, 43, 44, 45, 46, 47, 48, 49, 50, 51, 52, 53, 54, 55, 56, 57, 58, 59, 60, 61, 62, 63, 64, 65, 66, 67, 68, 69, 70, 71, 72] (by decide +kernel) (by decide +kernel)
set_option maxRecDepth 20000 in
theorem gX10_send_X10_can : GoodIn wsX10_send (wsV RX10 107 RX10 yX10_can wsX10_can) := goodIn_app (goodIn_of _ (by decide +kernel)) ggX10_send_X10_can
set_option maxRecDepth 20000 in
theorem ggX10_send_X10_sendWord : GoodIn wsX10_send wsX10_sendWord := goodIn_r _ [15, 1, 16, 17, 18, 19, 20, 21, 22, 2, 23, 24, 25, 5, 26, 27, 28, 29, 30, 31, 32, 33, 34, 35, 36, 37, 38, 39, 40, 41, 42, 43, 44, 45, 46, 47, 48, 49, 50, 51, 52, 53, 54, 55, 56, 57, 58, 59, 60, 61, 62, 63, 64, 65, 66, 67, 68, 69, 70, 71, 72] (by decide +kernel) (by decide +kernel)
set_option maxRecDepth 20000 in
theorem gX10_send_X10_sendWord : GoodIn wsX10_send (wsV RX10 120 RX10 yX10_sendWord wsX10_sendWord) := goodIn_app (goodIn_of _ (by decide +kernel)) ggX10_send_X10_sendWord
theorem dX10_send_0 : decode cX10_send 0 = .ok (.aload_n 0, 1) := by decide +kernel
theorem dX10_send_1 : decode cX10_send 1 = .ok (.iload_n 1, 1) := by decide +kernel
theorem dX10_send_2 : decode cX10_send 2 = .ok (.iconst 1, 1) := by decide +kernel
theorem dX10_send_3 : decode cX10_send 3 = .ok (.bipush 64, 2) := by decide +kernel
theorem dX10_send_5 : decode cX10_send 5 = .ok (.invokestatic 84, 3) := by decide +kernel
theorem dX10_send_8 : decode cX10_send 8 = .ok (.ifCond .ne 7, 3) := by decide +kernel
theorem dX10_send_11 : decode cX10_send 11 = .ok (.iconst 1, 1) := by decide +kernel
theorem dX10_send_12 : decode cX10_send 12 = .ok (.goto 20, 3) := by decide +kernel
theorem dX10_send_15 : decode cX10_send 15 = .ok (.aload_n 0, 1) := by decide +kernel
theorem dX10_send_16 : decode cX10_send 16 = .ok (.getfield 104, 3) := by decide +kernel
theorem dX10_send_19 : decode cX10_send 19 = .ok (.iload_n 1, 1) := by decide +kernel
theorem dX10_send_20 : decode cX10_send 20 = .ok (.iadd, 1) := by decide +kernel
theorem dX10_send_21 : decode cX10_send 21 = .ok (.sipush 1000, 3) := by decide +kernel
theorem dX10_send_24 : decode cX10_send 24 = .ok (.if_icmp .le 7, 3) := by decide +kernel
theorem dX10_send_27 : decode cX10_send 27 = .ok (.iconst 2, 1) := by decide +kernel
theorem dX10_send_28 : decode cX10_send 28 = .ok (.goto 4, 3) := by decide +kernel
theorem dX10_send_31 : decode cX10_send 31 = .ok (.iconst 0, 1) := by decide +kernel
theorem dX10_send_32 : decode cX10_send 32 = .ok (.invokevirtual 107, 3) := by decide +kernel
theorem dX10_send_35 : decode cX10_send 35 = .ok (.ifCond .ne 5, 3) := by decide +kernel
theorem dX10_send_38 : decode cX10_send 38 = .ok (.iconst 0, 1) := by decide +kernel
theorem dX10_send_39 : decode cX10_send 39 = .ok (.ireturn, 1) := by decide +kernel
theorem dX10_send_40 : decode cX10_send 40 = .ok (.iconst 0, 1) := by decide +kernel
theorem dX10_send_41 : decode cX10_send 41 = .ok (.istore_n 2, 1) := by decide +kernel
theorem dX10_send_42 : decode cX10_send 42 = .ok (.iload_n 2, 1) := by decide +kernel
theorem dX10_send_43 : decode cX10_send 43 = .ok (.iload_n 1, 1) := by decide +kernel
theorem dX10_send_44 : decode cX10_send 44 = .ok (.if_icmp .ge 13, 3) := by decide +kernel
theorem dX10_send_47 : decode cX10_send 47 = .ok (.aload_n 0, 1) := by decide +kernel
theorem dX10_send_48 : decode cX10_send 48 = .ok (.invokevirtual 120, 3) := by decide +kernel
theorem dX10_send_51 : decode cX10_send 51 = .ok (.iinc 2 1, 3) := by decide +kernel
theorem dX10_send_54 : decode cX10_send 54 = .ok (.goto (-12), 3) := by decide +kernel
theorem dX10_send_57 : decode cX10_send 57 = .ok (.aload_n 0, 1) := by decide +kernel
theorem dX10_send_58 : decode cX10_send 58 = .ok (.getfield 117, 3) := by decide +kernel
theorem dX10_send_61 : decode cX10_send 61 = .ok (.ireturn, 1) := by decide +kernel
theorem dX10_sent_0 : decode cX10_sent 0 = .ok (.aload_n 0, 1) := by decide +kernel
theorem dX10_sent_1 : decode cX10_sent 1 = .ok (.iconst 0, 1) := by decide +kernel
theorem dX10_sent_2 : decode cX10_sent 2 = .ok (.putfield 78, 3) := by decide +kernel
theorem dX10_sent_5 : decode cX10_sent 5 = .ok (.aload_n 0, 1) := by decide +kernel
theorem dX10_sent_6 : decode cX10_sent 6 = .ok (.getfield 104, 3) := by decide +kernel
theorem dX10_sent_9 : decode cX10_sent 9 = .ok (.ireturn, 1) := by decide +kernel
theorem dX10_onLine_0 : decode cX10_onLine 0 = .ok (.aload_n 0, 1) := by decide +kernel
theorem dX10_onLine_1 : decode cX10_onLine 1 = .ok (.iconst 0, 1) := by decide +kernel
theorem dX10_onLine_2 : decode cX10_onLine 2 = .ok (.putfield 78, 3) := by decide +kernel
theorem dX10_onLine_5 : decode cX10_onLine 5 = .ok (.aload_n 0, 1) := by decide +kernel
theorem dX10_onLine_6 : decode cX10_onLine 6 = .ok (.getfield 117, 3) := by decide +kernel
theorem dX10_onLine_9 : decode cX10_onLine 9 = .ok (.ireturn, 1) := by decide +kernel
set_option maxRecDepth 20000 in
theorem ggX10_isBit_X10_isIn : GoodIn wsX10_isBit wsX10_isIn := goodIn_r _ [5] (by decide +kernel) (by decide +kernel)
set_option maxRecDepth 20000 in
theorem gX10_isBit_X10_isIn : GoodIn wsX10_isBit (va_wsS RX10 84 yX10_isIn wsX10_isIn) := goodIn_app (goodIn_of _ (by decide +kernel)) ggX10_isBit_X10_isIn
set_option maxRecDepth 20000 in
theorem ggX10_isBit_X10_can : GoodIn wsX10_isBit wsX10_can := goodIn_r _ [9, 10, 11, 12, 13, 14, 15, 16, 17, 18, 19, 20, 21, 22, 23, 24, 25, 26, 27, 28, 29, 30, 31, 32, 33, 34, 35, 36, 37, 38, 39, 40, 41, 42, 43, 44, 45] (by decide +kernel) (by decide +kernel)
set_option maxRecDepth 20000 in
theorem gX10_isBit_X10_can : GoodIn wsX10_isBit (wsV RX10 107 RX10 yX10_can wsX10_can) := goodIn_app (goodIn_of _ (by decide +kernel)) ggX10_isBit_X10_can
theorem dX10_isBit_0 : decode cX10_isBit 0 = .ok (.aload_n 0, 1) := by decide +kernel
theorem dX10_isBit_1 : decode cX10_isBit 1 = .ok (.iload_n 1, 1) := by decide +kernel
theorem dX10_isBit_2 : decode cX10_isBit 2 = .ok (.iconst 0, 1) := by decide +kernel
theorem dX10_isBit_3 : decode cX10_isBit 3 = .ok (.aload_n 0, 1) := by decide +kernel
theorem dX10_isBit_4 : decode cX10_isBit 4 = .ok (.getfield 117, 3) := by decide +kernel
theorem dX10_isBit_7 : decode cX10_isBit 7 = .ok (.iconst 1, 1) := by decide +kernel
theorem dX10_isBit_8 : decode cX10_isBit 8 = .ok (.isub, 1) := by decide +kernel
theorem dX10_isBit_9 : decode cX10_isBit 9 = .ok (.invokestatic 84, 3) := by decide +kernel
theorem dX10_isBit_12 : decode cX10_isBit 12 = .ok (.ifCond .eq 7, 3) := by decide +kernel
theorem dX10_isBit_15 : decode cX10_isBit 15 = .ok (.iconst 0, 1) := by decide +kernel
theorem dX10_isBit_16 : decode cX10_isBit 16 = .ok (.goto 4, 3) := by decide +kernel
theorem dX10_isBit_19 : decode cX10_isBit 19 = .ok (.iconst 1, 1) := by decide +kernel
theorem dX10_isBit_20 : decode cX10_isBit 20 = .ok (.invokevirtual 107, 3) := by decide +kernel
theorem dX10_isBit_23 : decode cX10_isBit 23 = .ok (.ireturn, 1) := by decide +kernel
set_option maxRecDepth 20000 in
theorem ggX10_bit_X10_isBit : GoodIn wsX10_bit wsX10_isBit := goodIn_r _ [6, 7, 8, 9, 5, 10, 11, 12, 13, 14, 15, 16, 17, 18, 19, 20, 21, 22, 23, 24, 25, 26, 27, 28, 29, 30, 31, 32, 33, 34, 35, 36, 37, 38, 39, 40, 41, 42, 43, 44, 45, 46, 47, 48, 49, 50] (by decide +kernel) (by decide +kernel)
set_option maxRecDepth 20000 in
theorem gX10_bit_X10_isBit : GoodIn wsX10_bit (wsV RX10 123 RX10 yX10_isBit wsX10_isBit) := goodIn_app (goodIn_of _ (by decide +kernel)) ggX10_bit_X10_isBit
theorem dX10_bit_0 : decode cX10_bit 0 = .ok (.aload_n 0, 1) := by decide +kernel
theorem dX10_bit_1 : decode cX10_bit 1 = .ok (.iload_n 1, 1) := by decide +kernel
theorem dX10_bit_2 : decode cX10_bit 2 = .ok (.invokevirtual 123, 3) := by decide +kernel
theorem dX10_bit_5 : decode cX10_bit 5 = .ok (.ifCond .eq 12, 3) := by decide +kernel
theorem dX10_bit_8 : decode cX10_bit 8 = .ok (.aload_n 0, 1) := by decide +kernel
theorem dX10_bit_9 : decode cX10_bit 9 = .ok (.getfield 34, 3) := by decide +kernel
theorem dX10_bit_12 : decode cX10_bit 12 = .ok (.iload_n 1, 1) := by decide +kernel
theorem dX10_bit_13 : decode cX10_bit 13 = .ok (.iaload, 1) := by decide +kernel
theorem dX10_bit_14 : decode cX10_bit 14 = .ok (.goto 4, 3) := by decide +kernel
theorem dX10_bit_17 : decode cX10_bit 17 = .ok (.iconst 0, 1) := by decide +kernel
theorem dX10_bit_18 : decode cX10_bit 18 = .ok (.ireturn, 1) := by decide +kernel
set_option maxRecDepth 20000 in
theorem ggX10_flip_X10_isBit : GoodIn wsX10_flip wsX10_isBit := goodIn_r _ [6, 7, 8, 9, 5, 10, 11, 12, 13, 14, 15, 16, 17, 18, 19, 20, 21, 22, 23, 24, 25, 26, 27, 28, 29, 30, 31, 32, 33, 34, 35, 36, 37, 38, 39, 40, 41, 42, 43, 44, 45, 46, 47, 48, 49, 50] (by decide +kernel) (by decide +kernel)
set_option maxRecDepth 20000 in
theorem gX10_flip_X10_isBit : GoodIn wsX10_flip (wsV RX10 123 RX10 yX10_isBit wsX10_isBit) := goodIn_app (goodIn_of _ (by decide +kernel)) ggX10_flip_X10_isBit
theorem dX10_flip_0 : decode cX10_flip 0 = .ok (.aload_n 0, 1) := by decide +kernel
theorem dX10_flip_1 : decode cX10_flip 1 = .ok (.iload_n 1, 1) := by decide +kernel
theorem dX10_flip_2 : decode cX10_flip 2 = .ok (.invokevirtual 123, 3) := by decide +kernel
theorem dX10_flip_5 : decode cX10_flip 5 = .ok (.ifCond .ne 5, 3) := by decide +kernel
theorem dX10_flip_8 : decode cX10_flip 8 = .ok (.iconst 0, 1) := by decide +kernel
theorem dX10_flip_9 : decode cX10_flip 9 = .ok (.ireturn, 1) := by decide +kernel
theorem dX10_flip_10 : decode cX10_flip 10 = .ok (.aload_n 0, 1) := by decide +kernel
theorem dX10_flip_11 : decode cX10_flip 11 = .ok (.getfield 34, 3) := by decide +kernel
theorem dX10_flip_14 : decode cX10_flip 14 = .ok (.iload_n 1, 1) := by decide +kernel
theorem dX10_flip_15 : decode cX10_flip 15 = .ok (.iconst 1, 1) := by decide +kernel
theorem dX10_flip_16 : decode cX10_flip 16 = .ok (.aload_n 0, 1) := by decide +kernel
theorem dX10_flip_17 : decode cX10_flip 17 = .ok (.getfield 34, 3) := by decide +kernel
theorem dX10_flip_20 : decode cX10_flip 20 = .ok (.iload_n 1, 1) := by decide +kernel
theorem dX10_flip_21 : decode cX10_flip 21 = .ok (.iaload, 1) := by decide +kernel
theorem dX10_flip_22 : decode cX10_flip 22 = .ok (.isub, 1) := by decide +kernel
theorem dX10_flip_23 : decode cX10_flip 23 = .ok (.iastore, 1) := by decide +kernel
theorem dX10_flip_24 : decode cX10_flip 24 = .ok (.aload_n 0, 1) := by decide +kernel
theorem dX10_flip_25 : decode cX10_flip 25 = .ok (.getfield 34, 3) := by decide +kernel
theorem dX10_flip_28 : decode cX10_flip 28 = .ok (.iload_n 1, 1) := by decide +kernel
theorem dX10_flip_29 : decode cX10_flip 29 = .ok (.iaload, 1) := by decide +kernel
theorem dX10_flip_30 : decode cX10_flip 30 = .ok (.ireturn, 1) := by decide +kernel
theorem dX10_drop_0 : decode cX10_drop 0 = .ok (.aload_n 0, 1) := by decide +kernel
theorem dX10_drop_1 : decode cX10_drop 1 = .ok (.dup, 1) := by decide +kernel
theorem dX10_drop_2 : decode cX10_drop 2 = .ok (.getfield 117, 3) := by decide +kernel
theorem dX10_drop_5 : decode cX10_drop 5 = .ok (.iload_n 2, 1) := by decide +kernel
theorem dX10_drop_6 : decode cX10_drop 6 = .ok (.isub, 1) := by decide +kernel
theorem dX10_drop_7 : decode cX10_drop 7 = .ok (.putfield 117, 3) := by decide +kernel
theorem dX10_drop_10 : decode cX10_drop 10 = .ok (.iload_n 1, 1) := by decide +kernel
theorem dX10_drop_11 : decode cX10_drop 11 = .ok (.istore_n 3, 1) := by decide +kernel
theorem dX10_drop_12 : decode cX10_drop 12 = .ok (.iload_n 3, 1) := by decide +kernel
theorem dX10_drop_13 : decode cX10_drop 13 = .ok (.aload_n 0, 1) := by decide +kernel
theorem dX10_drop_14 : decode cX10_drop 14 = .ok (.getfield 117, 3) := by decide +kernel
theorem dX10_drop_17 : decode cX10_drop 17 = .ok (.if_icmp .ge 23, 3) := by decide +kernel
theorem dX10_drop_20 : decode cX10_drop 20 = .ok (.aload_n 0, 1) := by decide +kernel
theorem dX10_drop_21 : decode cX10_drop 21 = .ok (.getfield 34, 3) := by decide +kernel
theorem dX10_drop_24 : decode cX10_drop 24 = .ok (.iload_n 3, 1) := by decide +kernel
theorem dX10_drop_25 : decode cX10_drop 25 = .ok (.aload_n 0, 1) := by decide +kernel
theorem dX10_drop_26 : decode cX10_drop 26 = .ok (.getfield 34, 3) := by decide +kernel
theorem dX10_drop_29 : decode cX10_drop 29 = .ok (.iload_n 3, 1) := by decide +kernel
theorem dX10_drop_30 : decode cX10_drop 30 = .ok (.iload_n 2, 1) := by decide +kernel
theorem dX10_drop_31 : decode cX10_drop 31 = .ok (.iadd, 1) := by decide +kernel
theorem dX10_drop_32 : decode cX10_drop 32 = .ok (.iaload, 1) := by decide +kernel
theorem dX10_drop_33 : decode cX10_drop 33 = .ok (.iastore, 1) := by decide +kernel
theorem dX10_drop_34 : decode cX10_drop 34 = .ok (.iinc 3 1, 3) := by decide +kernel
theorem dX10_drop_37 : decode cX10_drop 37 = .ok (.goto (-25), 3) := by decide +kernel
theorem dX10_drop_40 : decode cX10_drop 40 = .ok (.return_, 1) := by decide +kernel
set_option maxRecDepth 20000 in
theorem ggX10_cut_X10_can : GoodIn wsX10_cut wsX10_can := goodIn_r _ [6, 7, 13, 14, 15, 16, 17, 18, 19, 20, 21, 22, 23, 24, 25, 26, 27, 28, 29, 30, 31, 32, 33, 34, 35, 36, 37, 38, 39, 40, 41, 42, 43, 44, 45, 46, 47] (by decide +kernel) (by decide +kernel)
set_option maxRecDepth 20000 in
theorem gX10_cut_X10_can : GoodIn wsX10_cut (wsV RX10 107 RX10 yX10_can wsX10_can) := goodIn_app (goodIn_of _ (by decide +kernel)) ggX10_cut_X10_can
set_option maxRecDepth 20000 in
theorem ggX10_cut_X10_drop : GoodIn wsX10_cut wsX10_drop := goodIn_r _ [11, 1, 12, 13, 14, 15, 16, 17, 18, 19, 20, 21, 22, 23, 24, 25, 26, 27, 28, 29, 30, 31, 32, 33, 34, 35, 36, 37, 38, 39, 40, 41, 42, 43, 44, 45, 46, 47] (by decide +kernel) (by decide +kernel)
set_option maxRecDepth 20000 in
theorem gX10_cut_X10_drop : GoodIn wsX10_cut (wsV RX10 126 RX10 yX10_drop wsX10_drop) := goodIn_app (goodIn_of _ (by decide +kernel)) ggX10_cut_X10_drop
theorem dX10_cut_0 : decode cX10_cut 0 = .ok (.aload_n 0, 1) := by decide +kernel
theorem dX10_cut_1 : decode cX10_cut 1 = .ok (.iload_n 2, 1) := by decide +kernel
theorem dX10_cut_2 : decode cX10_cut 2 = .ok (.iconst 1, 1) := by decide +kernel
theorem dX10_cut_3 : decode cX10_cut 3 = .ok (.if_icmp .ge 7, 3) := by decide +kernel
theorem dX10_cut_6 : decode cX10_cut 6 = .ok (.iconst 1, 1) := by decide +kernel
theorem dX10_cut_7 : decode cX10_cut 7 = .ok (.goto 30, 3) := by decide +kernel
theorem dX10_cut_10 : decode cX10_cut 10 = .ok (.iload_n 1, 1) := by decide +kernel
theorem dX10_cut_11 : decode cX10_cut 11 = .ok (.ifCond .lt 21, 3) := by decide +kernel
theorem dX10_cut_14 : decode cX10_cut 14 = .ok (.iload_n 1, 1) := by decide +kernel
theorem dX10_cut_15 : decode cX10_cut 15 = .ok (.aload_n 0, 1) := by decide +kernel
theorem dX10_cut_16 : decode cX10_cut 16 = .ok (.getfield 117, 3) := by decide +kernel
theorem dX10_cut_19 : decode cX10_cut 19 = .ok (.if_icmp .ge 13, 3) := by decide +kernel
theorem dX10_cut_22 : decode cX10_cut 22 = .ok (.iload_n 2, 1) := by decide +kernel
theorem dX10_cut_23 : decode cX10_cut 23 = .ok (.aload_n 0, 1) := by decide +kernel
theorem dX10_cut_24 : decode cX10_cut 24 = .ok (.getfield 117, 3) := by decide +kernel
theorem dX10_cut_27 : decode cX10_cut 27 = .ok (.iload_n 1, 1) := by decide +kernel
theorem dX10_cut_28 : decode cX10_cut 28 = .ok (.isub, 1) := by decide +kernel
theorem dX10_cut_29 : decode cX10_cut 29 = .ok (.if_icmp .le 7, 3) := by decide +kernel
theorem dX10_cut_32 : decode cX10_cut 32 = .ok (.iconst 2, 1) := by decide +kernel
theorem dX10_cut_33 : decode cX10_cut 33 = .ok (.goto 4, 3) := by decide +kernel
theorem dX10_cut_36 : decode cX10_cut 36 = .ok (.iconst 0, 1) := by decide +kernel
theorem dX10_cut_37 : decode cX10_cut 37 = .ok (.invokevirtual 107, 3) := by decide +kernel
theorem dX10_cut_40 : decode cX10_cut 40 = .ok (.ifCond .ne 5, 3) := by decide +kernel
theorem dX10_cut_43 : decode cX10_cut 43 = .ok (.iconst 0, 1) := by decide +kernel
theorem dX10_cut_44 : decode cX10_cut 44 = .ok (.ireturn, 1) := by decide +kernel
theorem dX10_cut_45 : decode cX10_cut 45 = .ok (.aload_n 0, 1) := by decide +kernel
theorem dX10_cut_46 : decode cX10_cut 46 = .ok (.iload_n 1, 1) := by decide +kernel
theorem dX10_cut_47 : decode cX10_cut 47 = .ok (.iload_n 2, 1) := by decide +kernel
theorem dX10_cut_48 : decode cX10_cut 48 = .ok (.invokevirtual 126, 3) := by decide +kernel
theorem dX10_cut_51 : decode cX10_cut 51 = .ok (.aload_n 0, 1) := by decide +kernel
theorem dX10_cut_52 : decode cX10_cut 52 = .ok (.getfield 117, 3) := by decide +kernel
theorem dX10_cut_55 : decode cX10_cut 55 = .ok (.ireturn, 1) := by decide +kernel
theorem dX10_bits_0 : decode cX10_bits 0 = .ok (.iconst 0, 1) := by decide +kernel
theorem dX10_bits_1 : decode cX10_bits 1 = .ok (.istore_n 3, 1) := by decide +kernel
theorem dX10_bits_2 : decode cX10_bits 2 = .ok (.iload_n 1, 1) := by decide +kernel
theorem dX10_bits_3 : decode cX10_bits 3 = .ok (.istore 4, 2) := by decide +kernel
theorem dX10_bits_5 : decode cX10_bits 5 = .ok (.iload 4, 2) := by decide +kernel
theorem dX10_bits_7 : decode cX10_bits 7 = .ok (.iload_n 1, 1) := by decide +kernel
theorem dX10_bits_8 : decode cX10_bits 8 = .ok (.iload_n 2, 1) := by decide +kernel
theorem dX10_bits_9 : decode cX10_bits 9 = .ok (.iadd, 1) := by decide +kernel
theorem dX10_bits_10 : decode cX10_bits 10 = .ok (.if_icmp .ge 21, 3) := by decide +kernel
theorem dX10_bits_13 : decode cX10_bits 13 = .ok (.iconst 2, 1) := by decide +kernel
theorem dX10_bits_14 : decode cX10_bits 14 = .ok (.iload_n 3, 1) := by decide +kernel
theorem dX10_bits_15 : decode cX10_bits 15 = .ok (.imul, 1) := by decide +kernel
theorem dX10_bits_16 : decode cX10_bits 16 = .ok (.aload_n 0, 1) := by decide +kernel
theorem dX10_bits_17 : decode cX10_bits 17 = .ok (.getfield 37, 3) := by decide +kernel
theorem dX10_bits_20 : decode cX10_bits 20 = .ok (.iload 4, 2) := by decide +kernel
theorem dX10_bits_22 : decode cX10_bits 22 = .ok (.iaload, 1) := by decide +kernel
theorem dX10_bits_23 : decode cX10_bits 23 = .ok (.iadd, 1) := by decide +kernel
theorem dX10_bits_24 : decode cX10_bits 24 = .ok (.istore_n 3, 1) := by decide +kernel
theorem dX10_bits_25 : decode cX10_bits 25 = .ok (.iinc 4 1, 3) := by decide +kernel
theorem dX10_bits_28 : decode cX10_bits 28 = .ok (.goto (-23), 3) := by decide +kernel
theorem dX10_bits_31 : decode cX10_bits 31 = .ok (.iload_n 3, 1) := by decide +kernel
theorem dX10_bits_32 : decode cX10_bits 32 = .ok (.ireturn, 1) := by decide +kernel
set_option maxRecDepth 20000 in
theorem ggX10_sample_X10_bits : GoodIn wsX10_sample wsX10_bits := goodIn_r _ [12, 13, 19, 20, 21, 22, 23, 24, 25, 26, 27, 28, 29, 30, 31, 32, 33, 34, 35, 36, 37, 38, 39, 40, 41, 42, 43, 44, 45, 46, 47, 48, 49, 50, 51, 52, 53] (by decide +kernel) (by decide +kernel)
set_option maxRecDepth 20000 in
theorem gX10_sample_X10_bits : GoodIn wsX10_sample (wsV RX10 130 RX10 yX10_bits wsX10_bits) := goodIn_app (goodIn_of _ (by decide +kernel)) ggX10_sample_X10_bits
set_option maxRecDepth 20000 in
theorem ggX10_sample_X10_read : GoodIn wsX10_sample wsX10_read := goodIn_r _ [17, 4, 18, 19, 20, 21, 22, 23, 24, 25, 26, 27, 28, 29, 30, 31, 32, 33, 34, 35, 36, 37, 38, 39, 40, 41, 42, 43, 44, 45, 46, 47, 48, 49, 50, 51, 52, 53] (by decide +kernel) (by decide +kernel)
set_option maxRecDepth 20000 in
theorem gX10_sample_X10_read : GoodIn wsX10_sample (wsV RX10 133 RX10 yX10_read wsX10_read) := goodIn_app (goodIn_of _ (by decide +kernel)) ggX10_sample_X10_read
theorem dX10_sample_0 : decode cX10_sample 0 = .ok (.bipush 16, 2) := by decide +kernel
theorem dX10_sample_2 : decode cX10_sample 2 = .ok (.aload_n 0, 1) := by decide +kernel
theorem dX10_sample_3 : decode cX10_sample 3 = .ok (.getfield 25, 3) := by decide +kernel
theorem dX10_sample_6 : decode cX10_sample 6 = .ok (.iload_n 1, 1) := by decide +kernel
theorem dX10_sample_7 : decode cX10_sample 7 = .ok (.iaload, 1) := by decide +kernel
theorem dX10_sample_8 : decode cX10_sample 8 = .ok (.iadd, 1) := by decide +kernel
theorem dX10_sample_9 : decode cX10_sample 9 = .ok (.bipush 24, 2) := by decide +kernel
theorem dX10_sample_11 : decode cX10_sample 11 = .ok (.iload_n 2, 1) := by decide +kernel
theorem dX10_sample_12 : decode cX10_sample 12 = .ok (.imul, 1) := by decide +kernel
theorem dX10_sample_13 : decode cX10_sample 13 = .ok (.iadd, 1) := by decide +kernel
theorem dX10_sample_14 : decode cX10_sample 14 = .ok (.istore_n 3, 1) := by decide +kernel
theorem dX10_sample_15 : decode cX10_sample 15 = .ok (.aload_n 0, 1) := by decide +kernel
theorem dX10_sample_16 : decode cX10_sample 16 = .ok (.getfield 40, 3) := by decide +kernel
theorem dX10_sample_19 : decode cX10_sample 19 = .ok (.iload_n 1, 1) := by decide +kernel
theorem dX10_sample_20 : decode cX10_sample 20 = .ok (.aload_n 0, 1) := by decide +kernel
theorem dX10_sample_21 : decode cX10_sample 21 = .ok (.iload_n 1, 1) := by decide +kernel
theorem dX10_sample_22 : decode cX10_sample 22 = .ok (.aload_n 0, 1) := by decide +kernel
theorem dX10_sample_23 : decode cX10_sample 23 = .ok (.aload_n 0, 1) := by decide +kernel
theorem dX10_sample_24 : decode cX10_sample 24 = .ok (.getfield 75, 3) := by decide +kernel
theorem dX10_sample_27 : decode cX10_sample 27 = .ok (.iload_n 3, 1) := by decide +kernel
theorem dX10_sample_28 : decode cX10_sample 28 = .ok (.iadd, 1) := by decide +kernel
theorem dX10_sample_29 : decode cX10_sample 29 = .ok (.aload_n 0, 1) := by decide +kernel
theorem dX10_sample_30 : decode cX10_sample 30 = .ok (.getfield 7, 3) := by decide +kernel
theorem dX10_sample_33 : decode cX10_sample 33 = .ok (.iload_n 1, 1) := by decide +kernel
theorem dX10_sample_34 : decode cX10_sample 34 = .ok (.iaload, 1) := by decide +kernel
theorem dX10_sample_35 : decode cX10_sample 35 = .ok (.invokevirtual 130, 3) := by decide +kernel
theorem dX10_sample_38 : decode cX10_sample 38 = .ok (.invokevirtual 133, 3) := by decide +kernel
theorem dX10_sample_41 : decode cX10_sample 41 = .ok (.iastore, 1) := by decide +kernel
theorem dX10_sample_42 : decode cX10_sample 42 = .ok (.aload_n 0, 1) := by decide +kernel
theorem dX10_sample_43 : decode cX10_sample 43 = .ok (.getfield 43, 3) := by decide +kernel
theorem dX10_sample_46 : decode cX10_sample 46 = .ok (.iload_n 1, 1) := by decide +kernel
theorem dX10_sample_47 : decode cX10_sample 47 = .ok (.bipush 64, 2) := by decide +kernel
theorem dX10_sample_49 : decode cX10_sample 49 = .ok (.aload_n 0, 1) := by decide +kernel
theorem dX10_sample_50 : decode cX10_sample 50 = .ok (.getfield 136, 3) := by decide +kernel
theorem dX10_sample_53 : decode cX10_sample 53 = .ok (.imul, 1) := by decide +kernel
theorem dX10_sample_54 : decode cX10_sample 54 = .ok (.iload_n 3, 1) := by decide +kernel
theorem dX10_sample_55 : decode cX10_sample 55 = .ok (.iadd, 1) := by decide +kernel
theorem dX10_sample_56 : decode cX10_sample 56 = .ok (.iastore, 1) := by decide +kernel
theorem dX10_sample_57 : decode cX10_sample 57 = .ok (.aload_n 0, 1) := by decide +kernel
theorem dX10_sample_58 : decode cX10_sample 58 = .ok (.getfield 46, 3) := by decide +kernel
theorem dX10_sample_61 : decode cX10_sample 61 = .ok (.iload_n 1, 1) := by decide +kernel
theorem dX10_sample_62 : decode cX10_sample 62 = .ok (.dup2, 1) := by decide +kernel
theorem dX10_sample_63 : decode cX10_sample 63 = .ok (.iaload, 1) := by decide +kernel
theorem dX10_sample_64 : decode cX10_sample 64 = .ok (.iconst 1, 1) := by decide +kernel
theorem dX10_sample_65 : decode cX10_sample 65 = .ok (.iadd, 1) := by decide +kernel
theorem dX10_sample_66 : decode cX10_sample 66 = .ok (.iastore, 1) := by decide +kernel
theorem dX10_sample_67 : decode cX10_sample 67 = .ok (.return_, 1) := by decide +kernel
set_option maxRecDepth 20000 in
theorem ggX10_decodes_X10_bits : GoodIn wsX10_decodes wsX10_bits := goodIn_r _ [14, 15, 36, 37, 38, 39, 40, 41, 42, 43, 44, 45, 46, 47, 48, 49, 50, 51, 52, 53, 54, 55, 56, 57, 58, 59, 60, 61, 62, 63, 64, 65, 66, 67, 68, 69, 70] (by decide +kernel) (by decide +kernel)
set_option maxRecDepth 20000 in
theorem gX10_decodes_X10_bits : GoodIn wsX10_decodes (wsV RX10 130 RX10 yX10_bits wsX10_bits) := goodIn_app (goodIn_of _ (by decide +kernel)) ggX10_decodes_X10_bits
set_option maxRecDepth 20000 in
theorem ggX10_decodes_X10_isSent : GoodIn wsX10_decodes wsX10_isSent := goodIn_r _ [19, 20, 21, 36, 37, 38, 39, 40, 41, 42, 43, 44, 45, 46, 47, 48, 49, 50, 51, 52, 53, 54, 55, 56, 57, 58, 59, 60, 61, 62, 63, 64, 65, 66, 67, 68, 69, 70] (by decide +kernel) (by decide +kernel)
set_option maxRecDepth 20000 in
theorem gX10_decodes_X10_isSent : GoodIn wsX10_decodes (wsV RX10 88 RX10 yX10_isSent wsX10_isSent) := goodIn_app (goodIn_of _ (by decide +kernel)) ggX10_decodes_X10_isSent
set_option maxRecDepth 20000 in
theorem ggX10_decodes_X10_sample : GoodIn wsX10_decodes wsX10_sample := goodIn_r _ [25, 26, 27, 1, 28, 29, 8, 30, 10, 11, 12, 13, 14, 15, 31, 32, 33, 34, 35, 36, 37, 38, 39, 40, 41, 42, 43, 44, 45, 46, 47, 48, 49, 50, 51, 52, 53, 54, 55, 56, 57, 58, 59, 60, 61, 62, 63, 64, 65, 66, 67, 68, 69, 70] (by decide +kernel) (by decide +kernel)
set_option maxRecDepth 20000 in
theorem gX10_decodes_X10_sample : GoodIn wsX10_decodes (wsV RX10 148 RX10 yX10_sample wsX10_sample) := goodIn_app (goodIn_of _ (by decide +kernel)) ggX10_decodes_X10_sample
theorem dX10_decodes_0 : decode cX10_decodes 0 = .ok (.aload_n 0, 1) := by decide +kernel
theorem dX10_decodes_1 : decode cX10_decodes 1 = .ok (.aload_n 0, 1) := by decide +kernel
theorem dX10_decodes_2 : decode cX10_decodes 2 = .ok (.getfield 75, 3) := by decide +kernel
theorem dX10_decodes_5 : decode cX10_decodes 5 = .ok (.bipush 8, 2) := by decide +kernel
theorem dX10_decodes_7 : decode cX10_decodes 7 = .ok (.iadd, 1) := by decide +kernel
theorem dX10_decodes_8 : decode cX10_decodes 8 = .ok (.bipush 8, 2) := by decide +kernel
theorem dX10_decodes_10 : decode cX10_decodes 10 = .ok (.invokevirtual 130, 3) := by decide +kernel
theorem dX10_decodes_13 : decode cX10_decodes 13 = .ok (.istore_n 1, 1) := by decide +kernel
theorem dX10_decodes_14 : decode cX10_decodes 14 = .ok (.aload_n 0, 1) := by decide +kernel
theorem dX10_decodes_15 : decode cX10_decodes 15 = .ok (.getfield 71, 3) := by decide +kernel
theorem dX10_decodes_18 : decode cX10_decodes 18 = .ok (.iconst (-1), 1) := by decide +kernel
theorem dX10_decodes_19 : decode cX10_decodes 19 = .ok (.if_icmp .ne 7, 3) := by decide +kernel
theorem dX10_decodes_22 : decode cX10_decodes 22 = .ok (.iconst 0, 1) := by decide +kernel
theorem dX10_decodes_23 : decode cX10_decodes 23 = .ok (.goto 17, 3) := by decide +kernel
theorem dX10_decodes_26 : decode cX10_decodes 26 = .ok (.iload_n 1, 1) := by decide +kernel
theorem dX10_decodes_27 : decode cX10_decodes 27 = .ok (.aload_n 0, 1) := by decide +kernel
theorem dX10_decodes_28 : decode cX10_decodes 28 = .ok (.getfield 71, 3) := by decide +kernel
theorem dX10_decodes_31 : decode cX10_decodes 31 = .ok (.isub, 1) := by decide +kernel
theorem dX10_decodes_32 : decode cX10_decodes 32 = .ok (.sipush 256, 3) := by decide +kernel
theorem dX10_decodes_35 : decode cX10_decodes 35 = .ok (.iadd, 1) := by decide +kernel
theorem dX10_decodes_36 : decode cX10_decodes 36 = .ok (.sipush 256, 3) := by decide +kernel
theorem dX10_decodes_39 : decode cX10_decodes 39 = .ok (.irem, 1) := by decide +kernel
theorem dX10_decodes_40 : decode cX10_decodes 40 = .ok (.istore_n 2, 1) := by decide +kernel
theorem dX10_decodes_41 : decode cX10_decodes 41 = .ok (.aload_n 0, 1) := by decide +kernel
theorem dX10_decodes_42 : decode cX10_decodes 42 = .ok (.getfield 71, 3) := by decide +kernel
theorem dX10_decodes_45 : decode cX10_decodes 45 = .ok (.iconst (-1), 1) := by decide +kernel
theorem dX10_decodes_46 : decode cX10_decodes 46 = .ok (.if_icmp .eq 19, 3) := by decide +kernel
theorem dX10_decodes_49 : decode cX10_decodes 49 = .ok (.iload_n 2, 1) := by decide +kernel
theorem dX10_decodes_50 : decode cX10_decodes 50 = .ok (.ifCond .ne 15, 3) := by decide +kernel
theorem dX10_decodes_53 : decode cX10_decodes 53 = .ok (.aload_n 0, 1) := by decide +kernel
theorem dX10_decodes_54 : decode cX10_decodes 54 = .ok (.dup, 1) := by decide +kernel
theorem dX10_decodes_55 : decode cX10_decodes 55 = .ok (.getfield 139, 3) := by decide +kernel
theorem dX10_decodes_58 : decode cX10_decodes 58 = .ok (.iconst 1, 1) := by decide +kernel
theorem dX10_decodes_59 : decode cX10_decodes 59 = .ok (.iadd, 1) := by decide +kernel
theorem dX10_decodes_60 : decode cX10_decodes 60 = .ok (.putfield 139, 3) := by decide +kernel
theorem dX10_decodes_63 : decode cX10_decodes 63 = .ok (.iconst 0, 1) := by decide +kernel
theorem dX10_decodes_64 : decode cX10_decodes 64 = .ok (.ireturn, 1) := by decide +kernel
theorem dX10_decodes_65 : decode cX10_decodes 65 = .ok (.iconst 1, 1) := by decide +kernel
theorem dX10_decodes_66 : decode cX10_decodes 66 = .ok (.istore_n 3, 1) := by decide +kernel
theorem dX10_decodes_67 : decode cX10_decodes 67 = .ok (.iload_n 3, 1) := by decide +kernel
theorem dX10_decodes_68 : decode cX10_decodes 68 = .ok (.iload_n 2, 1) := by decide +kernel
theorem dX10_decodes_69 : decode cX10_decodes 69 = .ok (.if_icmp .ge 77, 3) := by decide +kernel
theorem dX10_decodes_72 : decode cX10_decodes 72 = .ok (.iconst 0, 1) := by decide +kernel
theorem dX10_decodes_73 : decode cX10_decodes 73 = .ok (.istore 4, 2) := by decide +kernel
theorem dX10_decodes_75 : decode cX10_decodes 75 = .ok (.iload 4, 2) := by decide +kernel
theorem dX10_decodes_77 : decode cX10_decodes 77 = .ok (.aload_n 0, 1) := by decide +kernel
theorem dX10_decodes_78 : decode cX10_decodes 78 = .ok (.getfield 81, 3) := by decide +kernel
theorem dX10_decodes_81 : decode cX10_decodes 81 = .ok (.if_icmp .ge 49, 3) := by decide +kernel
theorem dX10_decodes_84 : decode cX10_decodes 84 = .ok (.aload_n 0, 1) := by decide +kernel
theorem dX10_decodes_85 : decode cX10_decodes 85 = .ok (.getfield 49, 3) := by decide +kernel
theorem dX10_decodes_88 : decode cX10_decodes 88 = .ok (.iload 4, 2) := by decide +kernel
theorem dX10_decodes_90 : decode cX10_decodes 90 = .ok (.dup2, 1) := by decide +kernel
theorem dX10_decodes_91 : decode cX10_decodes 91 = .ok (.iaload, 1) := by decide +kernel
theorem dX10_decodes_92 : decode cX10_decodes 92 = .ok (.aload_n 0, 1) := by decide +kernel
theorem dX10_decodes_93 : decode cX10_decodes 93 = .ok (.iload 4, 2) := by decide +kernel
theorem dX10_decodes_95 : decode cX10_decodes 95 = .ok (.aload_n 0, 1) := by decide +kernel
theorem dX10_decodes_96 : decode cX10_decodes 96 = .ok (.getfield 71, 3) := by decide +kernel
theorem dX10_decodes_99 : decode cX10_decodes 99 = .ok (.iload_n 3, 1) := by decide +kernel
theorem dX10_decodes_100 : decode cX10_decodes 100 = .ok (.iadd, 1) := by decide +kernel
theorem dX10_decodes_101 : decode cX10_decodes 101 = .ok (.sipush 256, 3) := by decide +kernel
theorem dX10_decodes_104 : decode cX10_decodes 104 = .ok (.irem, 1) := by decide +kernel
theorem dX10_decodes_105 : decode cX10_decodes 105 = .ok (.invokevirtual 88, 3) := by decide +kernel
theorem dX10_decodes_108 : decode cX10_decodes 108 = .ok (.ifCond .eq 13, 3) := by decide +kernel
theorem dX10_decodes_111 : decode cX10_decodes 111 = .ok (.aload_n 0, 1) := by decide +kernel
theorem dX10_decodes_112 : decode cX10_decodes 112 = .ok (.getfield 19, 3) := by decide +kernel
theorem dX10_decodes_115 : decode cX10_decodes 115 = .ok (.iload 4, 2) := by decide +kernel
theorem dX10_decodes_117 : decode cX10_decodes 117 = .ok (.iaload, 1) := by decide +kernel
theorem dX10_decodes_118 : decode cX10_decodes 118 = .ok (.goto 4, 3) := by decide +kernel
theorem dX10_decodes_121 : decode cX10_decodes 121 = .ok (.iconst 0, 1) := by decide +kernel
theorem dX10_decodes_122 : decode cX10_decodes 122 = .ok (.iadd, 1) := by decide +kernel
theorem dX10_decodes_123 : decode cX10_decodes 123 = .ok (.iastore, 1) := by decide +kernel
theorem dX10_decodes_124 : decode cX10_decodes 124 = .ok (.iinc 4 1, 3) := by decide +kernel
theorem dX10_decodes_127 : decode cX10_decodes 127 = .ok (.goto (-52), 3) := by decide +kernel
theorem dX10_decodes_130 : decode cX10_decodes 130 = .ok (.aload_n 0, 1) := by decide +kernel
theorem dX10_decodes_131 : decode cX10_decodes 131 = .ok (.dup, 1) := by decide +kernel
theorem dX10_decodes_132 : decode cX10_decodes 132 = .ok (.getfield 142, 3) := by decide +kernel
theorem dX10_decodes_135 : decode cX10_decodes 135 = .ok (.iconst 1, 1) := by decide +kernel
theorem dX10_decodes_136 : decode cX10_decodes 136 = .ok (.iadd, 1) := by decide +kernel
theorem dX10_decodes_137 : decode cX10_decodes 137 = .ok (.putfield 142, 3) := by decide +kernel
theorem dX10_decodes_140 : decode cX10_decodes 140 = .ok (.iinc 3 1, 3) := by decide +kernel
theorem dX10_decodes_143 : decode cX10_decodes 143 = .ok (.goto (-76), 3) := by decide +kernel
theorem dX10_decodes_146 : decode cX10_decodes 146 = .ok (.aload_n 0, 1) := by decide +kernel
theorem dX10_decodes_147 : decode cX10_decodes 147 = .ok (.aload_n 0, 1) := by decide +kernel
theorem dX10_decodes_148 : decode cX10_decodes 148 = .ok (.getfield 71, 3) := by decide +kernel
theorem dX10_decodes_151 : decode cX10_decodes 151 = .ok (.iconst (-1), 1) := by decide +kernel
theorem dX10_decodes_152 : decode cX10_decodes 152 = .ok (.if_icmp .ne 7, 3) := by decide +kernel
theorem dX10_decodes_155 : decode cX10_decodes 155 = .ok (.iload_n 1, 1) := by decide +kernel
theorem dX10_decodes_156 : decode cX10_decodes 156 = .ok (.goto 9, 3) := by decide +kernel
theorem dX10_decodes_159 : decode cX10_decodes 159 = .ok (.aload_n 0, 1) := by decide +kernel
theorem dX10_decodes_160 : decode cX10_decodes 160 = .ok (.getfield 136, 3) := by decide +kernel
theorem dX10_decodes_163 : decode cX10_decodes 163 = .ok (.iload_n 2, 1) := by decide +kernel
theorem dX10_decodes_164 : decode cX10_decodes 164 = .ok (.iadd, 1) := by decide +kernel
theorem dX10_decodes_165 : decode cX10_decodes 165 = .ok (.putfield 136, 3) := by decide +kernel
theorem dX10_decodes_168 : decode cX10_decodes 168 = .ok (.aload_n 0, 1) := by decide +kernel
theorem dX10_decodes_169 : decode cX10_decodes 169 = .ok (.iload_n 1, 1) := by decide +kernel
theorem dX10_decodes_170 : decode cX10_decodes 170 = .ok (.putfield 71, 3) := by decide +kernel
theorem dX10_decodes_173 : decode cX10_decodes 173 = .ok (.aload_n 0, 1) := by decide +kernel
theorem dX10_decodes_174 : decode cX10_decodes 174 = .ok (.dup, 1) := by decide +kernel
theorem dX10_decodes_175 : decode cX10_decodes 175 = .ok (.getfield 145, 3) := by decide +kernel
theorem dX10_decodes_178 : decode cX10_decodes 178 = .ok (.iconst 1, 1) := by decide +kernel
theorem dX10_decodes_179 : decode cX10_decodes 179 = .ok (.iadd, 1) := by decide +kernel
theorem dX10_decodes_180 : decode cX10_decodes 180 = .ok (.putfield 145, 3) := by decide +kernel
theorem dX10_decodes_183 : decode cX10_decodes 183 = .ok (.iconst 0, 1) := by decide +kernel
theorem dX10_decodes_184 : decode cX10_decodes 184 = .ok (.istore_n 3, 1) := by decide +kernel
theorem dX10_decodes_185 : decode cX10_decodes 185 = .ok (.iload_n 3, 1) := by decide +kernel
theorem dX10_decodes_186 : decode cX10_decodes 186 = .ok (.aload_n 0, 1) := by decide +kernel
theorem dX10_decodes_187 : decode cX10_decodes 187 = .ok (.getfield 81, 3) := by decide +kernel
theorem dX10_decodes_190 : decode cX10_decodes 190 = .ok (.if_icmp .ge 45, 3) := by decide +kernel
theorem dX10_decodes_193 : decode cX10_decodes 193 = .ok (.iconst 0, 1) := by decide +kernel
theorem dX10_decodes_194 : decode cX10_decodes 194 = .ok (.istore 4, 2) := by decide +kernel
theorem dX10_decodes_196 : decode cX10_decodes 196 = .ok (.iload 4, 2) := by decide +kernel
theorem dX10_decodes_198 : decode cX10_decodes 198 = .ok (.aload_n 0, 1) := by decide +kernel
theorem dX10_decodes_199 : decode cX10_decodes 199 = .ok (.getfield 19, 3) := by decide +kernel
theorem dX10_decodes_202 : decode cX10_decodes 202 = .ok (.iload_n 3, 1) := by decide +kernel
theorem dX10_decodes_203 : decode cX10_decodes 203 = .ok (.iaload, 1) := by decide +kernel
theorem dX10_decodes_204 : decode cX10_decodes 204 = .ok (.if_icmp .ge 25, 3) := by decide +kernel
theorem dX10_decodes_207 : decode cX10_decodes 207 = .ok (.aload_n 0, 1) := by decide +kernel
theorem dX10_decodes_208 : decode cX10_decodes 208 = .ok (.iload_n 3, 1) := by decide +kernel
theorem dX10_decodes_209 : decode cX10_decodes 209 = .ok (.iload_n 1, 1) := by decide +kernel
theorem dX10_decodes_210 : decode cX10_decodes 210 = .ok (.invokevirtual 88, 3) := by decide +kernel
theorem dX10_decodes_213 : decode cX10_decodes 213 = .ok (.ifCond .eq 16, 3) := by decide +kernel
theorem dX10_decodes_216 : decode cX10_decodes 216 = .ok (.aload_n 0, 1) := by decide +kernel
theorem dX10_decodes_217 : decode cX10_decodes 217 = .ok (.iload_n 3, 1) := by decide +kernel
theorem dX10_decodes_218 : decode cX10_decodes 218 = .ok (.iload 4, 2) := by decide +kernel
theorem dX10_decodes_220 : decode cX10_decodes 220 = .ok (.invokevirtual 148, 3) := by decide +kernel
theorem dX10_decodes_223 : decode cX10_decodes 223 = .ok (.iinc 4 1, 3) := by decide +kernel
theorem dX10_decodes_226 : decode cX10_decodes 226 = .ok (.goto (-30), 3) := by decide +kernel
theorem dX10_decodes_229 : decode cX10_decodes 229 = .ok (.iinc 3 1, 3) := by decide +kernel
theorem dX10_decodes_232 : decode cX10_decodes 232 = .ok (.goto (-47), 3) := by decide +kernel
theorem dX10_decodes_235 : decode cX10_decodes 235 = .ok (.iconst 1, 1) := by decide +kernel
theorem dX10_decodes_236 : decode cX10_decodes 236 = .ok (.ireturn, 1) := by decide +kernel
theorem dX10_compares_0 : decode cX10_compares 0 = .ok (.iconst 0, 1) := by decide +kernel
theorem dX10_compares_1 : decode cX10_compares 1 = .ok (.istore_n 1, 1) := by decide +kernel
theorem dX10_compares_2 : decode cX10_compares 2 = .ok (.iconst 0, 1) := by decide +kernel
theorem dX10_compares_3 : decode cX10_compares 3 = .ok (.istore_n 2, 1) := by decide +kernel
theorem dX10_compares_4 : decode cX10_compares 4 = .ok (.iload_n 2, 1) := by decide +kernel
theorem dX10_compares_5 : decode cX10_compares 5 = .ok (.bipush 8, 2) := by decide +kernel
theorem dX10_compares_7 : decode cX10_compares 7 = .ok (.if_icmp .ge 41, 3) := by decide +kernel
theorem dX10_compares_10 : decode cX10_compares 10 = .ok (.iload_n 1, 1) := by decide +kernel
theorem dX10_compares_11 : decode cX10_compares 11 = .ok (.aload_n 0, 1) := by decide +kernel
theorem dX10_compares_12 : decode cX10_compares 12 = .ok (.getfield 37, 3) := by decide +kernel
theorem dX10_compares_15 : decode cX10_compares 15 = .ok (.aload_n 0, 1) := by decide +kernel
theorem dX10_compares_16 : decode cX10_compares 16 = .ok (.getfield 75, 3) := by decide +kernel
theorem dX10_compares_19 : decode cX10_compares 19 = .ok (.iload_n 2, 1) := by decide +kernel
theorem dX10_compares_20 : decode cX10_compares 20 = .ok (.iadd, 1) := by decide +kernel
theorem dX10_compares_21 : decode cX10_compares 21 = .ok (.iaload, 1) := by decide +kernel
theorem dX10_compares_22 : decode cX10_compares 22 = .ok (.sipush 184, 3) := by decide +kernel
theorem dX10_compares_25 : decode cX10_compares 25 = .ok (.bipush 7, 2) := by decide +kernel
theorem dX10_compares_27 : decode cX10_compares 27 = .ok (.iload_n 2, 1) := by decide +kernel
theorem dX10_compares_28 : decode cX10_compares 28 = .ok (.isub, 1) := by decide +kernel
theorem dX10_compares_29 : decode cX10_compares 29 = .ok (.ishr, 1) := by decide +kernel
theorem dX10_compares_30 : decode cX10_compares 30 = .ok (.iconst 1, 1) := by decide +kernel
theorem dX10_compares_31 : decode cX10_compares 31 = .ok (.iand, 1) := by decide +kernel
theorem dX10_compares_32 : decode cX10_compares 32 = .ok (.if_icmp .ne 7, 3) := by decide +kernel
theorem dX10_compares_35 : decode cX10_compares 35 = .ok (.iconst 0, 1) := by decide +kernel
theorem dX10_compares_36 : decode cX10_compares 36 = .ok (.goto 4, 3) := by decide +kernel
theorem dX10_compares_39 : decode cX10_compares 39 = .ok (.iconst 1, 1) := by decide +kernel
theorem dX10_compares_40 : decode cX10_compares 40 = .ok (.iadd, 1) := by decide +kernel
theorem dX10_compares_41 : decode cX10_compares 41 = .ok (.istore_n 1, 1) := by decide +kernel
theorem dX10_compares_42 : decode cX10_compares 42 = .ok (.iinc 2 1, 3) := by decide +kernel
theorem dX10_compares_45 : decode cX10_compares 45 = .ok (.goto (-41), 3) := by decide +kernel
theorem dX10_compares_48 : decode cX10_compares 48 = .ok (.aload_n 0, 1) := by decide +kernel
theorem dX10_compares_49 : decode cX10_compares 49 = .ok (.getfield 151, 3) := by decide +kernel
theorem dX10_compares_52 : decode cX10_compares 52 = .ok (.iconst 1, 1) := by decide +kernel
theorem dX10_compares_53 : decode cX10_compares 53 = .ok (.if_icmp .ne 54, 3) := by decide +kernel
theorem dX10_compares_56 : decode cX10_compares 56 = .ok (.aload_n 0, 1) := by decide +kernel
theorem dX10_compares_57 : decode cX10_compares 57 = .ok (.dup, 1) := by decide +kernel
theorem dX10_compares_58 : decode cX10_compares 58 = .ok (.getfield 154, 3) := by decide +kernel
theorem dX10_compares_61 : decode cX10_compares 61 = .ok (.iload_n 1, 1) := by decide +kernel
theorem dX10_compares_62 : decode cX10_compares 62 = .ok (.ifCond .ne 7, 3) := by decide +kernel
theorem dX10_compares_65 : decode cX10_compares 65 = .ok (.iconst 1, 1) := by decide +kernel
theorem dX10_compares_66 : decode cX10_compares 66 = .ok (.goto 4, 3) := by decide +kernel
theorem dX10_compares_69 : decode cX10_compares 69 = .ok (.iconst 0, 1) := by decide +kernel
theorem dX10_compares_70 : decode cX10_compares 70 = .ok (.iadd, 1) := by decide +kernel
theorem dX10_compares_71 : decode cX10_compares 71 = .ok (.putfield 154, 3) := by decide +kernel
theorem dX10_compares_74 : decode cX10_compares 74 = .ok (.aload_n 0, 1) := by decide +kernel
theorem dX10_compares_75 : decode cX10_compares 75 = .ok (.iload_n 1, 1) := by decide +kernel
theorem dX10_compares_76 : decode cX10_compares 76 = .ok (.ifCond .le 7, 3) := by decide +kernel
theorem dX10_compares_79 : decode cX10_compares 79 = .ok (.iconst 0, 1) := by decide +kernel
theorem dX10_compares_80 : decode cX10_compares 80 = .ok (.goto 16, 3) := by decide +kernel
theorem dX10_compares_83 : decode cX10_compares 83 = .ok (.aload_n 0, 1) := by decide +kernel
theorem dX10_compares_84 : decode cX10_compares 84 = .ok (.getfield 154, 3) := by decide +kernel
theorem dX10_compares_87 : decode cX10_compares 87 = .ok (.iconst 3, 1) := by decide +kernel
theorem dX10_compares_88 : decode cX10_compares 88 = .ok (.if_icmp .ne 7, 3) := by decide +kernel
theorem dX10_compares_91 : decode cX10_compares 91 = .ok (.iconst 2, 1) := by decide +kernel
theorem dX10_compares_92 : decode cX10_compares 92 = .ok (.goto 4, 3) := by decide +kernel
theorem dX10_compares_95 : decode cX10_compares 95 = .ok (.iconst 1, 1) := by decide +kernel
theorem dX10_compares_96 : decode cX10_compares 96 = .ok (.putfield 151, 3) := by decide +kernel
theorem dX10_compares_99 : decode cX10_compares 99 = .ok (.aload_n 0, 1) := by decide +kernel
theorem dX10_compares_100 : decode cX10_compares 100 = .ok (.iconst 0, 1) := by decide +kernel
theorem dX10_compares_101 : decode cX10_compares 101 = .ok (.putfield 157, 3) := by decide +kernel
theorem dX10_compares_104 : decode cX10_compares 104 = .ok (.goto 39, 3) := by decide +kernel
theorem dX10_compares_107 : decode cX10_compares 107 = .ok (.aload_n 0, 1) := by decide +kernel
theorem dX10_compares_108 : decode cX10_compares 108 = .ok (.iload_n 1, 1) := by decide +kernel
theorem dX10_compares_109 : decode cX10_compares 109 = .ok (.iconst 1, 1) := by decide +kernel
theorem dX10_compares_110 : decode cX10_compares 110 = .ok (.if_icmp .gt 7, 3) := by decide +kernel
theorem dX10_compares_113 : decode cX10_compares 113 = .ok (.iconst 0, 1) := by decide +kernel
theorem dX10_compares_114 : decode cX10_compares 114 = .ok (.goto 9, 3) := by decide +kernel
theorem dX10_compares_117 : decode cX10_compares 117 = .ok (.aload_n 0, 1) := by decide +kernel
theorem dX10_compares_118 : decode cX10_compares 118 = .ok (.getfield 157, 3) := by decide +kernel
theorem dX10_compares_121 : decode cX10_compares 121 = .ok (.iconst 1, 1) := by decide +kernel
theorem dX10_compares_122 : decode cX10_compares 122 = .ok (.iadd, 1) := by decide +kernel
theorem dX10_compares_123 : decode cX10_compares 123 = .ok (.putfield 157, 3) := by decide +kernel
theorem dX10_compares_126 : decode cX10_compares 126 = .ok (.aload_n 0, 1) := by decide +kernel
theorem dX10_compares_127 : decode cX10_compares 127 = .ok (.aload_n 0, 1) := by decide +kernel
theorem dX10_compares_128 : decode cX10_compares 128 = .ok (.getfield 157, 3) := by decide +kernel
theorem dX10_compares_131 : decode cX10_compares 131 = .ok (.iconst 2, 1) := by decide +kernel
theorem dX10_compares_132 : decode cX10_compares 132 = .ok (.if_icmp .ne 7, 3) := by decide +kernel
theorem dX10_compares_135 : decode cX10_compares 135 = .ok (.iconst 0, 1) := by decide +kernel
theorem dX10_compares_136 : decode cX10_compares 136 = .ok (.goto 4, 3) := by decide +kernel
theorem dX10_compares_139 : decode cX10_compares 139 = .ok (.iconst 2, 1) := by decide +kernel
theorem dX10_compares_140 : decode cX10_compares 140 = .ok (.putfield 151, 3) := by decide +kernel
theorem dX10_compares_143 : decode cX10_compares 143 = .ok (.aload_n 0, 1) := by decide +kernel
theorem dX10_compares_144 : decode cX10_compares 144 = .ok (.aload_n 0, 1) := by decide +kernel
theorem dX10_compares_145 : decode cX10_compares 145 = .ok (.getfield 151, 3) := by decide +kernel
theorem dX10_compares_148 : decode cX10_compares 148 = .ok (.iconst 2, 1) := by decide +kernel
theorem dX10_compares_149 : decode cX10_compares 149 = .ok (.if_icmp .ne 7, 3) := by decide +kernel
theorem dX10_compares_152 : decode cX10_compares 152 = .ok (.iconst 1, 1) := by decide +kernel
theorem dX10_compares_153 : decode cX10_compares 153 = .ok (.goto 4, 3) := by decide +kernel
theorem dX10_compares_156 : decode cX10_compares 156 = .ok (.iconst 0, 1) := by decide +kernel
theorem dX10_compares_157 : decode cX10_compares 157 = .ok (.putfield 160, 3) := by decide +kernel
theorem dX10_compares_160 : decode cX10_compares 160 = .ok (.return_, 1) := by decide +kernel
set_option maxRecDepth 20000 in
theorem ggX10_takes_X10_bits : GoodIn wsX10_takes wsX10_bits := goodIn_r _ [11, 1, 49, 50, 51, 52, 53, 54, 55, 56, 57, 58, 59, 60, 61, 62, 63, 64, 65, 66, 67, 68, 69, 70, 71, 72, 73, 74, 75, 76, 77, 78, 79, 80, 81, 82, 83] (by decide +kernel) (by decide +kernel)
set_option maxRecDepth 20000 in
theorem gX10_takes_X10_bits : GoodIn wsX10_takes (wsV RX10 130 RX10 yX10_bits wsX10_bits) := goodIn_app (goodIn_of _ (by decide +kernel)) ggX10_takes_X10_bits
set_option maxRecDepth 20000 in
theorem ggX10_takes_X10_compares : GoodIn wsX10_takes wsX10_compares := goodIn_r _ [15, 1, 5, 3, 4, 16, 6, 49, 50, 51, 52, 53, 54, 55, 56, 57, 58, 59, 60, 61, 62, 63, 64, 65, 66, 67, 68, 69, 70, 71, 72, 73, 74, 75, 76, 77, 78, 79, 80, 81, 82, 83] (by decide +kernel) (by decide +kernel)
set_option maxRecDepth 20000 in
theorem gX10_takes_X10_compares : GoodIn wsX10_takes (wsV RX10 167 RX10 yX10_compares wsX10_compares) := goodIn_app (goodIn_of _ (by decide +kernel)) ggX10_takes_X10_compares
set_option maxRecDepth 20000 in
theorem ggX10_takes_X10_decodes : GoodIn wsX10_takes wsX10_decodes := goodIn_r _ [20, 5, 21, 22, 23, 24, 25, 26, 27, 28, 7, 8, 9, 10, 11, 1, 29, 30, 31, 32, 33, 34, 35, 36, 37, 38, 39, 40, 41, 42, 43, 44, 45, 46, 47, 48, 49, 50, 51, 52, 53, 54, 55, 56, 57, 58, 59, 60, 61, 62, 63, 64, 65, 66, 67, 68, 69, 70, 71, 72, 73, 74, 75, 76, 77, 78, 79, 80, 81, 82, 83] (by decide +kernel) (by decide +kernel)
set_option maxRecDepth 20000 in
theorem gX10_takes_X10_decodes : GoodIn wsX10_takes (wsV RX10 170 RX10 yX10_decodes wsX10_decodes) := goodIn_app (goodIn_of _ (by decide +kernel)) ggX10_takes_X10_decodes
theorem dX10_takes_0 : decode cX10_takes 0 = .ok (.aload_n 0, 1) := by decide +kernel
theorem dX10_takes_1 : decode cX10_takes 1 = .ok (.getfield 37, 3) := by decide +kernel
theorem dX10_takes_4 : decode cX10_takes 4 = .ok (.aload_n 0, 1) := by decide +kernel
theorem dX10_takes_5 : decode cX10_takes 5 = .ok (.getfield 164, 3) := by decide +kernel
theorem dX10_takes_8 : decode cX10_takes 8 = .ok (.iload_n 1, 1) := by decide +kernel
theorem dX10_takes_9 : decode cX10_takes 9 = .ok (.iastore, 1) := by decide +kernel
theorem dX10_takes_10 : decode cX10_takes 10 = .ok (.aload_n 0, 1) := by decide +kernel
theorem dX10_takes_11 : decode cX10_takes 11 = .ok (.dup, 1) := by decide +kernel
theorem dX10_takes_12 : decode cX10_takes 12 = .ok (.getfield 164, 3) := by decide +kernel
theorem dX10_takes_15 : decode cX10_takes 15 = .ok (.iconst 1, 1) := by decide +kernel
theorem dX10_takes_16 : decode cX10_takes 16 = .ok (.iadd, 1) := by decide +kernel
theorem dX10_takes_17 : decode cX10_takes 17 = .ok (.putfield 164, 3) := by decide +kernel
theorem dX10_takes_20 : decode cX10_takes 20 = .ok (.aload_n 0, 1) := by decide +kernel
theorem dX10_takes_21 : decode cX10_takes 21 = .ok (.getfield 151, 3) := by decide +kernel
theorem dX10_takes_24 : decode cX10_takes 24 = .ok (.ifCond .ne 59, 3) := by decide +kernel
theorem dX10_takes_27 : decode cX10_takes 27 = .ok (.aload_n 0, 1) := by decide +kernel
theorem dX10_takes_28 : decode cX10_takes 28 = .ok (.getfield 164, 3) := by decide +kernel
theorem dX10_takes_31 : decode cX10_takes 31 = .ok (.bipush 8, 2) := by decide +kernel
theorem dX10_takes_33 : decode cX10_takes 33 = .ok (.if_icmp .lt 48, 3) := by decide +kernel
theorem dX10_takes_36 : decode cX10_takes 36 = .ok (.aload_n 0, 1) := by decide +kernel
theorem dX10_takes_37 : decode cX10_takes 37 = .ok (.aload_n 0, 1) := by decide +kernel
theorem dX10_takes_38 : decode cX10_takes 38 = .ok (.getfield 164, 3) := by decide +kernel
theorem dX10_takes_41 : decode cX10_takes 41 = .ok (.bipush 8, 2) := by decide +kernel
theorem dX10_takes_43 : decode cX10_takes 43 = .ok (.isub, 1) := by decide +kernel
theorem dX10_takes_44 : decode cX10_takes 44 = .ok (.bipush 8, 2) := by decide +kernel
theorem dX10_takes_46 : decode cX10_takes 46 = .ok (.invokevirtual 130, 3) := by decide +kernel
theorem dX10_takes_49 : decode cX10_takes 49 = .ok (.sipush 184, 3) := by decide +kernel
theorem dX10_takes_52 : decode cX10_takes 52 = .ok (.if_icmp .ne 29, 3) := by decide +kernel
theorem dX10_takes_55 : decode cX10_takes 55 = .ok (.aload_n 0, 1) := by decide +kernel
theorem dX10_takes_56 : decode cX10_takes 56 = .ok (.iconst 1, 1) := by decide +kernel
theorem dX10_takes_57 : decode cX10_takes 57 = .ok (.putfield 151, 3) := by decide +kernel
theorem dX10_takes_60 : decode cX10_takes 60 = .ok (.aload_n 0, 1) := by decide +kernel
theorem dX10_takes_61 : decode cX10_takes 61 = .ok (.iconst 1, 1) := by decide +kernel
theorem dX10_takes_62 : decode cX10_takes 62 = .ok (.putfield 154, 3) := by decide +kernel
theorem dX10_takes_65 : decode cX10_takes 65 = .ok (.aload_n 0, 1) := by decide +kernel
theorem dX10_takes_66 : decode cX10_takes 66 = .ok (.aload_n 0, 1) := by decide +kernel
theorem dX10_takes_67 : decode cX10_takes 67 = .ok (.getfield 164, 3) := by decide +kernel
theorem dX10_takes_70 : decode cX10_takes 70 = .ok (.bipush 8, 2) := by decide +kernel
theorem dX10_takes_72 : decode cX10_takes 72 = .ok (.isub, 1) := by decide +kernel
theorem dX10_takes_73 : decode cX10_takes 73 = .ok (.putfield 75, 3) := by decide +kernel
theorem dX10_takes_76 : decode cX10_takes 76 = .ok (.aload_n 0, 1) := by decide +kernel
theorem dX10_takes_77 : decode cX10_takes 77 = .ok (.iconst 0, 1) := by decide +kernel
theorem dX10_takes_78 : decode cX10_takes 78 = .ok (.putfield 160, 3) := by decide +kernel
theorem dX10_takes_81 : decode cX10_takes 81 = .ok (.iconst 0, 1) := by decide +kernel
theorem dX10_takes_82 : decode cX10_takes 82 = .ok (.ireturn, 1) := by decide +kernel
theorem dX10_takes_83 : decode cX10_takes 83 = .ok (.aload_n 0, 1) := by decide +kernel
theorem dX10_takes_84 : decode cX10_takes 84 = .ok (.getfield 164, 3) := by decide +kernel
theorem dX10_takes_87 : decode cX10_takes 87 = .ok (.aload_n 0, 1) := by decide +kernel
theorem dX10_takes_88 : decode cX10_takes 88 = .ok (.getfield 75, 3) := by decide +kernel
theorem dX10_takes_91 : decode cX10_takes 91 = .ok (.isub, 1) := by decide +kernel
theorem dX10_takes_92 : decode cX10_takes 92 = .ok (.bipush 72, 2) := by decide +kernel
theorem dX10_takes_94 : decode cX10_takes 94 = .ok (.if_icmp .ne 20, 3) := by decide +kernel
theorem dX10_takes_97 : decode cX10_takes 97 = .ok (.aload_n 0, 1) := by decide +kernel
theorem dX10_takes_98 : decode cX10_takes 98 = .ok (.dup, 1) := by decide +kernel
theorem dX10_takes_99 : decode cX10_takes 99 = .ok (.getfield 75, 3) := by decide +kernel
theorem dX10_takes_102 : decode cX10_takes 102 = .ok (.bipush 64, 2) := by decide +kernel
theorem dX10_takes_104 : decode cX10_takes 104 = .ok (.iadd, 1) := by decide +kernel
theorem dX10_takes_105 : decode cX10_takes 105 = .ok (.putfield 75, 3) := by decide +kernel
theorem dX10_takes_108 : decode cX10_takes 108 = .ok (.aload_n 0, 1) := by decide +kernel
theorem dX10_takes_109 : decode cX10_takes 109 = .ok (.invokevirtual 167, 3) := by decide +kernel
theorem dX10_takes_112 : decode cX10_takes 112 = .ok (.iconst 0, 1) := by decide +kernel
theorem dX10_takes_113 : decode cX10_takes 113 = .ok (.ireturn, 1) := by decide +kernel
theorem dX10_takes_114 : decode cX10_takes 114 = .ok (.aload_n 0, 1) := by decide +kernel
theorem dX10_takes_115 : decode cX10_takes 115 = .ok (.getfield 164, 3) := by decide +kernel
theorem dX10_takes_118 : decode cX10_takes 118 = .ok (.aload_n 0, 1) := by decide +kernel
theorem dX10_takes_119 : decode cX10_takes 119 = .ok (.getfield 75, 3) := by decide +kernel
theorem dX10_takes_122 : decode cX10_takes 122 = .ok (.isub, 1) := by decide +kernel
theorem dX10_takes_123 : decode cX10_takes 123 = .ok (.bipush 64, 2) := by decide +kernel
theorem dX10_takes_125 : decode cX10_takes 125 = .ok (.if_icmp .ne 17, 3) := by decide +kernel
theorem dX10_takes_128 : decode cX10_takes 128 = .ok (.aload_n 0, 1) := by decide +kernel
theorem dX10_takes_129 : decode cX10_takes 129 = .ok (.getfield 160, 3) := by decide +kernel
theorem dX10_takes_132 : decode cX10_takes 132 = .ok (.ifCond .eq 10, 3) := by decide +kernel
theorem dX10_takes_135 : decode cX10_takes 135 = .ok (.aload_n 0, 1) := by decide +kernel
theorem dX10_takes_136 : decode cX10_takes 136 = .ok (.invokevirtual 170, 3) := by decide +kernel
theorem dX10_takes_139 : decode cX10_takes 139 = .ok (.goto 4, 3) := by decide +kernel
